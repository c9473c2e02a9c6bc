/-! THE LAW: its cases -/
set_option maxHeartbeats 4000000 in
theorem law_0 {l : Launch} {G : GE} {L k : Nat} {xs : Nat → Int32} {h : Hp} (hL : L ≤ 3584) (hk : 7 * k + 7 ≤ L) (z : Rel h) (next : ∀ h2, Rel0 h2 → Ev l G mL_law (fkL G L xs) 1533 [some (vR g_script 0), some (vR g_oab 0), some (vR g_model 0), some (vI (nI (7 * k)))] [] h2) : Ev l G mL_law (fkL G L xs) 204 [some (vR g_script 0), some (vR g_oab 0), some (vR g_model 0), some (vI (nI (7 * k)))] [] h := by
  obtain ⟨Q1, c1, k1⟩ := @both_feed l G h z ((xs (ixN (nI (7 * k) + 1))).toInt64 <<< ((32 : Int32).toInt64 &&& 63) ||| ((xs (ixN (nI (7 * k) + 2))).toInt64 &&& 4294967295))
  refine E_aload_n (pc := 204) 1 dL_law_204 rfl rfl ?_
  refine E_aload_n (pc := 205) 0 dL_law_205 rfl rfl ?_
  refine E_iload_n (pc := 206) 3 dL_law_206 rfl rfl ?_
  refine E_iconst (pc := 207) (1) dL_law_207 (by decide) ?_
  refine E_iadd (pc := 208) dL_law_208 ?_
  refine E_ald_ro (pc := 209) dL_law_209 rfl (vin_s 1 rfl (by omega) hL) ?_
  refine E_i2l (pc := 210) dL_law_210 ?_
  refine E_bipush (pc := 211) (32) dL_law_211 (by decide) ?_
  refine E_lshl (pc := 213) dL_law_213 ?_
  refine E_aload_n (pc := 214) 0 dL_law_214 rfl rfl ?_
  refine E_iload_n (pc := 215) 3 dL_law_215 rfl rfl ?_
  refine E_iconst (pc := 216) (2) dL_law_216 (by decide) ?_
  refine E_iadd (pc := 217) dL_law_217 ?_
  refine E_ald_ro (pc := 218) dL_law_218 rfl (vin_s 2 rfl (by omega) hL) ?_
  refine E_i2l (pc := 219) dL_law_219 ?_
  refine E_ldc2 (pc := 220) (4294967295) dL_law_220 kk_RL_13 ?_
  refine E_land (pc := 223) dL_law_223 ?_
  refine E_lor (pc := 224) dL_law_224 ?_
  refine E_callV (pc := 225) dL_law_225 c1 rfl kv_RL_15 rfl rfl rfl ⟨Nat.le_of_ble_eq_true rfl, Nat.le_of_ble_eq_true rfl, Nat.le_of_ble_eq_true rfl, Nat.le_of_ble_eq_true rfl⟩ (Nat.le_of_ble_eq_true rfl) ?_
  rintro r h1 hq
  obtain ⟨a, rfl, Q2, c2, k2⟩ := k1 _ _ hq
  refine E_aload_n (pc := 228) 2 dL_law_228 rfl rfl ?_
  refine E_aload_n (pc := 229) 0 dL_law_229 rfl rfl ?_
  refine E_iload_n (pc := 230) 3 dL_law_230 rfl rfl ?_
  refine E_iconst (pc := 231) (1) dL_law_231 (by decide) ?_
  refine E_iadd (pc := 232) dL_law_232 ?_
  refine E_ald_ro (pc := 233) dL_law_233 rfl (vin_s 1 rfl (by omega) hL) ?_
  refine E_i2l (pc := 234) dL_law_234 ?_
  refine E_bipush (pc := 235) (32) dL_law_235 (by decide) ?_
  refine E_lshl (pc := 237) dL_law_237 ?_
  refine E_aload_n (pc := 238) 0 dL_law_238 rfl rfl ?_
  refine E_iload_n (pc := 239) 3 dL_law_239 rfl rfl ?_
  refine E_iconst (pc := 240) (2) dL_law_240 (by decide) ?_
  refine E_iadd (pc := 241) dL_law_241 ?_
  refine E_ald_ro (pc := 242) dL_law_242 rfl (vin_s 2 rfl (by omega) hL) ?_
  refine E_i2l (pc := 243) dL_law_243 ?_
  refine E_ldc2 (pc := 244) (4294967295) dL_law_244 kk_RL_13 ?_
  refine E_land (pc := 247) dL_law_247 ?_
  refine E_lor (pc := 248) dL_law_248 ?_
  refine E_callV (pc := 249) dL_law_249 c2 rfl kv_RL_19 rfl rfl rfl ⟨Nat.le_of_ble_eq_true rfl, Nat.le_of_ble_eq_true rfl, Nat.le_of_ble_eq_true rfl, Nat.le_of_ble_eq_true rfl⟩ (Nat.le_of_ble_eq_true rfl) ?_
  rintro r2 h2 hq2
  obtain ⟨rfl, hR⟩ := k2 _ _ hq2
  refine E_icmp_eq (pc := 252) 1533 dL_law_252 rfl (fun q252 => ?_) (fun q252 => absurd rfl q252)
  exact next _ hR
set_option maxHeartbeats 4000000 in
theorem law_1 {l : Launch} {G : GE} {L k : Nat} {xs : Nat → Int32} {h : Hp} (hL : L ≤ 3584) (hk : 7 * k + 7 ≤ L) (z : Rel h) (next : ∀ h2, Rel0 h2 → Ev l G mL_law (fkL G L xs) 1533 [some (vR g_script 0), some (vR g_oab 0), some (vR g_model 0), some (vI (nI (7 * k)))] [] h2) : Ev l G mL_law (fkL G L xs) 257 [some (vR g_script 0), some (vR g_oab 0), some (vR g_model 0), some (vI (nI (7 * k)))] [] h := by
  obtain ⟨Q1, c1, k1⟩ := @both_end l G h z (xs (ixN (nI (7 * k) + 1)))
  refine E_aload_n (pc := 257) 1 dL_law_257 rfl rfl ?_
  refine E_aload_n (pc := 258) 0 dL_law_258 rfl rfl ?_
  refine E_iload_n (pc := 259) 3 dL_law_259 rfl rfl ?_
  refine E_iconst (pc := 260) (1) dL_law_260 (by decide) ?_
  refine E_iadd (pc := 261) dL_law_261 ?_
  refine E_ald_ro (pc := 262) dL_law_262 rfl (vin_s 1 rfl (by omega) hL) ?_
  refine E_callV (pc := 263) dL_law_263 c1 rfl kv_RL_20 rfl rfl rfl ⟨Nat.le_of_ble_eq_true rfl, Nat.le_of_ble_eq_true rfl, Nat.le_of_ble_eq_true rfl, Nat.le_of_ble_eq_true rfl⟩ (Nat.le_of_ble_eq_true rfl) ?_
  rintro r h1 hq
  obtain ⟨a, rfl, Q2, c2, k2⟩ := k1 _ _ hq
  refine E_aload_n (pc := 266) 2 dL_law_266 rfl rfl ?_
  refine E_aload_n (pc := 267) 0 dL_law_267 rfl rfl ?_
  refine E_iload_n (pc := 268) 3 dL_law_268 rfl rfl ?_
  refine E_iconst (pc := 269) (1) dL_law_269 (by decide) ?_
  refine E_iadd (pc := 270) dL_law_270 ?_
  refine E_ald_ro (pc := 271) dL_law_271 rfl (vin_s 1 rfl (by omega) hL) ?_
  refine E_callV (pc := 272) dL_law_272 c2 rfl kv_RL_24 rfl rfl rfl ⟨Nat.le_of_ble_eq_true rfl, Nat.le_of_ble_eq_true rfl, Nat.le_of_ble_eq_true rfl, Nat.le_of_ble_eq_true rfl⟩ (Nat.le_of_ble_eq_true rfl) ?_
  rintro r2 h2 hq2
  obtain ⟨rfl, hR⟩ := k2 _ _ hq2
  refine E_icmp_eq (pc := 275) 1533 dL_law_275 rfl (fun q275 => ?_) (fun q275 => absurd rfl q275)
  exact next _ hR
set_option maxHeartbeats 4000000 in
theorem law_2 {l : Launch} {G : GE} {L k : Nat} {xs : Nat → Int32} {h : Hp} (hL : L ≤ 3584) (hk : 7 * k + 7 ≤ L) (z : Rel h) (next : ∀ h2, Rel0 h2 → Ev l G mL_law (fkL G L xs) 1533 [some (vR g_script 0), some (vR g_oab 0), some (vR g_model 0), some (vI (nI (7 * k)))] [] h2) : Ev l G mL_law (fkL G L xs) 280 [some (vR g_script 0), some (vR g_oab 0), some (vR g_model 0), some (vI (nI (7 * k)))] [] h := by
  obtain ⟨Q1, c1, k1⟩ := @both_text l G h z 
  refine E_aload_n (pc := 280) 1 dL_law_280 rfl rfl ?_
  refine E_callV (pc := 281) dL_law_281 c1 rfl kv_RL_25 rfl rfl rfl ⟨Nat.le_of_ble_eq_true rfl, Nat.le_of_ble_eq_true rfl, Nat.le_of_ble_eq_true rfl, Nat.le_of_ble_eq_true rfl⟩ (Nat.le_of_ble_eq_true rfl) ?_
  rintro r h1 hq
  obtain ⟨a, rfl, Q2, c2, k2⟩ := k1 _ _ hq
  refine E_aload_n (pc := 284) 2 dL_law_284 rfl rfl ?_
  refine E_callV (pc := 285) dL_law_285 c2 rfl kv_RL_29 rfl rfl rfl ⟨Nat.le_of_ble_eq_true rfl, Nat.le_of_ble_eq_true rfl, Nat.le_of_ble_eq_true rfl, Nat.le_of_ble_eq_true rfl⟩ (Nat.le_of_ble_eq_true rfl) ?_
  rintro r2 h2 hq2
  obtain ⟨rfl, hR⟩ := k2 _ _ hq2
  refine E_icmp_eq (pc := 288) 1533 dL_law_288 rfl (fun q288 => ?_) (fun q288 => absurd rfl q288)
  exact next _ hR
set_option maxHeartbeats 4000000 in
theorem law_3 {l : Launch} {G : GE} {L k : Nat} {xs : Nat → Int32} {h : Hp} (hL : L ≤ 3584) (hk : 7 * k + 7 ≤ L) (z : Rel h) (next : ∀ h2, Rel0 h2 → Ev l G mL_law (fkL G L xs) 1533 [some (vR g_script 0), some (vR g_oab 0), some (vR g_model 0), some (vI (nI (7 * k)))] [] h2) : Ev l G mL_law (fkL G L xs) 293 [some (vR g_script 0), some (vR g_oab 0), some (vR g_model 0), some (vI (nI (7 * k)))] [] h := by
  obtain ⟨Q1, c1, k1⟩ := @both_fault l G h z 
  refine E_aload_n (pc := 293) 1 dL_law_293 rfl rfl ?_
  refine E_callV (pc := 294) dL_law_294 c1 rfl kv_RL_30 rfl rfl rfl ⟨Nat.le_of_ble_eq_true rfl, Nat.le_of_ble_eq_true rfl, Nat.le_of_ble_eq_true rfl, Nat.le_of_ble_eq_true rfl⟩ (Nat.le_of_ble_eq_true rfl) ?_
  rintro r h1 hq
  obtain ⟨a, rfl, Q2, c2, k2⟩ := k1 _ _ hq
  refine E_aload_n (pc := 297) 2 dL_law_297 rfl rfl ?_
  refine E_callV (pc := 298) dL_law_298 c2 rfl kv_RL_33 rfl rfl rfl ⟨Nat.le_of_ble_eq_true rfl, Nat.le_of_ble_eq_true rfl, Nat.le_of_ble_eq_true rfl, Nat.le_of_ble_eq_true rfl⟩ (Nat.le_of_ble_eq_true rfl) ?_
  rintro r2 h2 hq2
  obtain ⟨rfl, hR⟩ := k2 _ _ hq2
  refine E_icmp_eq (pc := 301) 1533 dL_law_301 rfl (fun q301 => ?_) (fun q301 => absurd rfl q301)
  exact next _ hR
set_option maxHeartbeats 4000000 in
theorem law_4 {l : Launch} {G : GE} {L k : Nat} {xs : Nat → Int32} {h : Hp} (hL : L ≤ 3584) (hk : 7 * k + 7 ≤ L) (z : Rel h) (next : ∀ h2, Rel0 h2 → Ev l G mL_law (fkL G L xs) 1533 [some (vR g_script 0), some (vR g_oab 0), some (vR g_model 0), some (vI (nI (7 * k)))] [] h2) : Ev l G mL_law (fkL G L xs) 306 [some (vR g_script 0), some (vR g_oab 0), some (vR g_model 0), some (vI (nI (7 * k)))] [] h := by
  obtain ⟨Q1, c1, k1⟩ := @both_rule l G h z (xs (ixN (nI (7 * k) + 1)))
  refine E_aload_n (pc := 306) 1 dL_law_306 rfl rfl ?_
  refine E_aload_n (pc := 307) 0 dL_law_307 rfl rfl ?_
  refine E_iload_n (pc := 308) 3 dL_law_308 rfl rfl ?_
  refine E_iconst (pc := 309) (1) dL_law_309 (by decide) ?_
  refine E_iadd (pc := 310) dL_law_310 ?_
  refine E_ald_ro (pc := 311) dL_law_311 rfl (vin_s 1 rfl (by omega) hL) ?_
  refine E_callV (pc := 312) dL_law_312 c1 rfl kv_RL_34 rfl rfl rfl ⟨Nat.le_of_ble_eq_true rfl, Nat.le_of_ble_eq_true rfl, Nat.le_of_ble_eq_true rfl, Nat.le_of_ble_eq_true rfl⟩ (Nat.le_of_ble_eq_true rfl) ?_
  rintro r h1 hq
  obtain ⟨a, rfl, Q2, c2, k2⟩ := k1 _ _ hq
  refine E_aload_n (pc := 315) 2 dL_law_315 rfl rfl ?_
  refine E_aload_n (pc := 316) 0 dL_law_316 rfl rfl ?_
  refine E_iload_n (pc := 317) 3 dL_law_317 rfl rfl ?_
  refine E_iconst (pc := 318) (1) dL_law_318 (by decide) ?_
  refine E_iadd (pc := 319) dL_law_319 ?_
  refine E_ald_ro (pc := 320) dL_law_320 rfl (vin_s 1 rfl (by omega) hL) ?_
  refine E_callV (pc := 321) dL_law_321 c2 rfl kv_RL_37 rfl rfl rfl ⟨Nat.le_of_ble_eq_true rfl, Nat.le_of_ble_eq_true rfl, Nat.le_of_ble_eq_true rfl, Nat.le_of_ble_eq_true rfl⟩ (Nat.le_of_ble_eq_true rfl) ?_
  rintro r2 h2 hq2
  obtain ⟨rfl, hR⟩ := k2 _ _ hq2
  refine E_icmp_eq (pc := 324) 1533 dL_law_324 rfl (fun q324 => ?_) (fun q324 => absurd rfl q324)
  exact next _ hR
set_option maxHeartbeats 4000000 in
theorem law_5 {l : Launch} {G : GE} {L k : Nat} {xs : Nat → Int32} {h : Hp} (hL : L ≤ 3584) (hk : 7 * k + 7 ≤ L) (z : Rel h) (next : ∀ h2, Rel0 h2 → Ev l G mL_law (fkL G L xs) 1533 [some (vR g_script 0), some (vR g_oab 0), some (vR g_model 0), some (vI (nI (7 * k)))] [] h2) : Ev l G mL_law (fkL G L xs) 329 [some (vR g_script 0), some (vR g_oab 0), some (vR g_model 0), some (vI (nI (7 * k)))] [] h := by
  obtain ⟨Q1, c1, k1⟩ := @both_way l G h z (xs (ixN (nI (7 * k) + 1))) (xs (ixN (nI (7 * k) + 2))) (xs (ixN (nI (7 * k) + 3)))
  refine E_aload_n (pc := 329) 1 dL_law_329 rfl rfl ?_
  refine E_aload_n (pc := 330) 0 dL_law_330 rfl rfl ?_
  refine E_iload_n (pc := 331) 3 dL_law_331 rfl rfl ?_
  refine E_iconst (pc := 332) (1) dL_law_332 (by decide) ?_
  refine E_iadd (pc := 333) dL_law_333 ?_
  refine E_ald_ro (pc := 334) dL_law_334 rfl (vin_s 1 rfl (by omega) hL) ?_
  refine E_aload_n (pc := 335) 0 dL_law_335 rfl rfl ?_
  refine E_iload_n (pc := 336) 3 dL_law_336 rfl rfl ?_
  refine E_iconst (pc := 337) (2) dL_law_337 (by decide) ?_
  refine E_iadd (pc := 338) dL_law_338 ?_
  refine E_ald_ro (pc := 339) dL_law_339 rfl (vin_s 2 rfl (by omega) hL) ?_
  refine E_aload_n (pc := 340) 0 dL_law_340 rfl rfl ?_
  refine E_iload_n (pc := 341) 3 dL_law_341 rfl rfl ?_
  refine E_iconst (pc := 342) (3) dL_law_342 (by decide) ?_
  refine E_iadd (pc := 343) dL_law_343 ?_
  refine E_ald_ro (pc := 344) dL_law_344 rfl (vin_s 3 rfl (by omega) hL) ?_
  refine E_callV (pc := 345) dL_law_345 c1 rfl kv_RL_38 rfl rfl rfl ⟨Nat.le_of_ble_eq_true rfl, Nat.le_of_ble_eq_true rfl, Nat.le_of_ble_eq_true rfl, Nat.le_of_ble_eq_true rfl⟩ (Nat.le_of_ble_eq_true rfl) ?_
  rintro r h1 hq
  obtain ⟨a, rfl, Q2, c2, k2⟩ := k1 _ _ hq
  refine E_aload_n (pc := 348) 2 dL_law_348 rfl rfl ?_
  refine E_aload_n (pc := 349) 0 dL_law_349 rfl rfl ?_
  refine E_iload_n (pc := 350) 3 dL_law_350 rfl rfl ?_
  refine E_iconst (pc := 351) (1) dL_law_351 (by decide) ?_
  refine E_iadd (pc := 352) dL_law_352 ?_
  refine E_ald_ro (pc := 353) dL_law_353 rfl (vin_s 1 rfl (by omega) hL) ?_
  refine E_aload_n (pc := 354) 0 dL_law_354 rfl rfl ?_
  refine E_iload_n (pc := 355) 3 dL_law_355 rfl rfl ?_
  refine E_iconst (pc := 356) (2) dL_law_356 (by decide) ?_
  refine E_iadd (pc := 357) dL_law_357 ?_
  refine E_ald_ro (pc := 358) dL_law_358 rfl (vin_s 2 rfl (by omega) hL) ?_
  refine E_aload_n (pc := 359) 0 dL_law_359 rfl rfl ?_
  refine E_iload_n (pc := 360) 3 dL_law_360 rfl rfl ?_
  refine E_iconst (pc := 361) (3) dL_law_361 (by decide) ?_
  refine E_iadd (pc := 362) dL_law_362 ?_
  refine E_ald_ro (pc := 363) dL_law_363 rfl (vin_s 3 rfl (by omega) hL) ?_
  refine E_callV (pc := 364) dL_law_364 c2 rfl kv_RL_42 rfl rfl rfl ⟨Nat.le_of_ble_eq_true rfl, Nat.le_of_ble_eq_true rfl, Nat.le_of_ble_eq_true rfl, Nat.le_of_ble_eq_true rfl⟩ (Nat.le_of_ble_eq_true rfl) ?_
  rintro r2 h2 hq2
  obtain ⟨rfl, hR⟩ := k2 _ _ hq2
  refine E_icmp_eq (pc := 367) 1533 dL_law_367 rfl (fun q367 => ?_) (fun q367 => absurd rfl q367)
  exact next _ hR
set_option maxHeartbeats 4000000 in
theorem law_6 {l : Launch} {G : GE} {L k : Nat} {xs : Nat → Int32} {h : Hp} (hL : L ≤ 3584) (hk : 7 * k + 7 ≤ L) (z : Rel h) (next : ∀ h2, Rel0 h2 → Ev l G mL_law (fkL G L xs) 1533 [some (vR g_script 0), some (vR g_oab 0), some (vR g_model 0), some (vI (nI (7 * k)))] [] h2) : Ev l G mL_law (fkL G L xs) 372 [some (vR g_script 0), some (vR g_oab 0), some (vR g_model 0), some (vI (nI (7 * k)))] [] h := by
  obtain ⟨Q1, c1, k1⟩ := @both_put l G h z (xs (ixN (nI (7 * k) + 1))) (xs (ixN (nI (7 * k) + 2))) (xs (ixN (nI (7 * k) + 3))) (xs (ixN (nI (7 * k) + 4))) (xs (ixN (nI (7 * k) + 5)))
  refine E_aload_n (pc := 372) 1 dL_law_372 rfl rfl ?_
  refine E_aload_n (pc := 373) 0 dL_law_373 rfl rfl ?_
  refine E_iload_n (pc := 374) 3 dL_law_374 rfl rfl ?_
  refine E_iconst (pc := 375) (1) dL_law_375 (by decide) ?_
  refine E_iadd (pc := 376) dL_law_376 ?_
  refine E_ald_ro (pc := 377) dL_law_377 rfl (vin_s 1 rfl (by omega) hL) ?_
  refine E_aload_n (pc := 378) 0 dL_law_378 rfl rfl ?_
  refine E_iload_n (pc := 379) 3 dL_law_379 rfl rfl ?_
  refine E_iconst (pc := 380) (2) dL_law_380 (by decide) ?_
  refine E_iadd (pc := 381) dL_law_381 ?_
  refine E_ald_ro (pc := 382) dL_law_382 rfl (vin_s 2 rfl (by omega) hL) ?_
  refine E_aload_n (pc := 383) 0 dL_law_383 rfl rfl ?_
  refine E_iload_n (pc := 384) 3 dL_law_384 rfl rfl ?_
  refine E_iconst (pc := 385) (3) dL_law_385 (by decide) ?_
  refine E_iadd (pc := 386) dL_law_386 ?_
  refine E_ald_ro (pc := 387) dL_law_387 rfl (vin_s 3 rfl (by omega) hL) ?_
  refine E_aload_n (pc := 388) 0 dL_law_388 rfl rfl ?_
  refine E_iload_n (pc := 389) 3 dL_law_389 rfl rfl ?_
  refine E_iconst (pc := 390) (4) dL_law_390 (by decide) ?_
  refine E_iadd (pc := 391) dL_law_391 ?_
  refine E_ald_ro (pc := 392) dL_law_392 rfl (vin_s 4 rfl (by omega) hL) ?_
  refine E_aload_n (pc := 393) 0 dL_law_393 rfl rfl ?_
  refine E_iload_n (pc := 394) 3 dL_law_394 rfl rfl ?_
  refine E_iconst (pc := 395) (5) dL_law_395 (by decide) ?_
  refine E_iadd (pc := 396) dL_law_396 ?_
  refine E_ald_ro (pc := 397) dL_law_397 rfl (vin_s 5 rfl (by omega) hL) ?_
  refine E_callV (pc := 398) dL_law_398 c1 rfl kv_RL_43 rfl rfl rfl ⟨Nat.le_of_ble_eq_true rfl, Nat.le_of_ble_eq_true rfl, Nat.le_of_ble_eq_true rfl, Nat.le_of_ble_eq_true rfl⟩ (Nat.le_of_ble_eq_true rfl) ?_
  rintro r h1 hq
  obtain ⟨a, rfl, Q2, c2, k2⟩ := k1 _ _ hq
  refine E_aload_n (pc := 401) 2 dL_law_401 rfl rfl ?_
  refine E_aload_n (pc := 402) 0 dL_law_402 rfl rfl ?_
  refine E_iload_n (pc := 403) 3 dL_law_403 rfl rfl ?_
  refine E_iconst (pc := 404) (1) dL_law_404 (by decide) ?_
  refine E_iadd (pc := 405) dL_law_405 ?_
  refine E_ald_ro (pc := 406) dL_law_406 rfl (vin_s 1 rfl (by omega) hL) ?_
  refine E_aload_n (pc := 407) 0 dL_law_407 rfl rfl ?_
  refine E_iload_n (pc := 408) 3 dL_law_408 rfl rfl ?_
  refine E_iconst (pc := 409) (2) dL_law_409 (by decide) ?_
  refine E_iadd (pc := 410) dL_law_410 ?_
  refine E_ald_ro (pc := 411) dL_law_411 rfl (vin_s 2 rfl (by omega) hL) ?_
  refine E_aload_n (pc := 412) 0 dL_law_412 rfl rfl ?_
  refine E_iload_n (pc := 413) 3 dL_law_413 rfl rfl ?_
  refine E_iconst (pc := 414) (3) dL_law_414 (by decide) ?_
  refine E_iadd (pc := 415) dL_law_415 ?_
  refine E_ald_ro (pc := 416) dL_law_416 rfl (vin_s 3 rfl (by omega) hL) ?_
  refine E_aload_n (pc := 417) 0 dL_law_417 rfl rfl ?_
  refine E_iload_n (pc := 418) 3 dL_law_418 rfl rfl ?_
  refine E_iconst (pc := 419) (4) dL_law_419 (by decide) ?_
  refine E_iadd (pc := 420) dL_law_420 ?_
  refine E_ald_ro (pc := 421) dL_law_421 rfl (vin_s 4 rfl (by omega) hL) ?_
  refine E_aload_n (pc := 422) 0 dL_law_422 rfl rfl ?_
  refine E_iload_n (pc := 423) 3 dL_law_423 rfl rfl ?_
  refine E_iconst (pc := 424) (5) dL_law_424 (by decide) ?_
  refine E_iadd (pc := 425) dL_law_425 ?_
  refine E_ald_ro (pc := 426) dL_law_426 rfl (vin_s 5 rfl (by omega) hL) ?_
  refine E_callV (pc := 427) dL_law_427 c2 rfl kv_RL_47 rfl rfl rfl ⟨Nat.le_of_ble_eq_true rfl, Nat.le_of_ble_eq_true rfl, Nat.le_of_ble_eq_true rfl, Nat.le_of_ble_eq_true rfl⟩ (Nat.le_of_ble_eq_true rfl) ?_
  rintro r2 h2 hq2
  obtain ⟨rfl, hR⟩ := k2 _ _ hq2
  refine E_icmp_eq (pc := 430) 1533 dL_law_430 rfl (fun q430 => ?_) (fun q430 => absurd rfl q430)
  exact next _ hR
set_option maxHeartbeats 4000000 in
theorem law_7 {l : Launch} {G : GE} {L k : Nat} {xs : Nat → Int32} {h : Hp} (hL : L ≤ 3584) (hk : 7 * k + 7 ≤ L) (z : Rel h) (next : ∀ h2, Rel0 h2 → Ev l G mL_law (fkL G L xs) 1533 [some (vR g_script 0), some (vR g_oab 0), some (vR g_model 0), some (vI (nI (7 * k)))] [] h2) : Ev l G mL_law (fkL G L xs) 435 [some (vR g_script 0), some (vR g_oab 0), some (vR g_model 0), some (vI (nI (7 * k)))] [] h := by
  obtain ⟨Q1, c1, k1⟩ := @both_at l G h z (xs (ixN (nI (7 * k) + 1))) (xs (ixN (nI (7 * k) + 2))) (xs (ixN (nI (7 * k) + 3))) (xs (ixN (nI (7 * k) + 4)))
  refine E_aload_n (pc := 435) 1 dL_law_435 rfl rfl ?_
  refine E_aload_n (pc := 436) 0 dL_law_436 rfl rfl ?_
  refine E_iload_n (pc := 437) 3 dL_law_437 rfl rfl ?_
  refine E_iconst (pc := 438) (1) dL_law_438 (by decide) ?_
  refine E_iadd (pc := 439) dL_law_439 ?_
  refine E_ald_ro (pc := 440) dL_law_440 rfl (vin_s 1 rfl (by omega) hL) ?_
  refine E_aload_n (pc := 441) 0 dL_law_441 rfl rfl ?_
  refine E_iload_n (pc := 442) 3 dL_law_442 rfl rfl ?_
  refine E_iconst (pc := 443) (2) dL_law_443 (by decide) ?_
  refine E_iadd (pc := 444) dL_law_444 ?_
  refine E_ald_ro (pc := 445) dL_law_445 rfl (vin_s 2 rfl (by omega) hL) ?_
  refine E_aload_n (pc := 446) 0 dL_law_446 rfl rfl ?_
  refine E_iload_n (pc := 447) 3 dL_law_447 rfl rfl ?_
  refine E_iconst (pc := 448) (3) dL_law_448 (by decide) ?_
  refine E_iadd (pc := 449) dL_law_449 ?_
  refine E_ald_ro (pc := 450) dL_law_450 rfl (vin_s 3 rfl (by omega) hL) ?_
  refine E_aload_n (pc := 451) 0 dL_law_451 rfl rfl ?_
  refine E_iload_n (pc := 452) 3 dL_law_452 rfl rfl ?_
  refine E_iconst (pc := 453) (4) dL_law_453 (by decide) ?_
  refine E_iadd (pc := 454) dL_law_454 ?_
  refine E_ald_ro (pc := 455) dL_law_455 rfl (vin_s 4 rfl (by omega) hL) ?_
  refine E_callV (pc := 456) dL_law_456 c1 rfl kv_RL_48 rfl rfl rfl ⟨Nat.le_of_ble_eq_true rfl, Nat.le_of_ble_eq_true rfl, Nat.le_of_ble_eq_true rfl, Nat.le_of_ble_eq_true rfl⟩ (Nat.le_of_ble_eq_true rfl) ?_
  rintro r h1 hq
  obtain ⟨a, rfl, Q2, c2, k2⟩ := k1 _ _ hq
  refine E_aload_n (pc := 459) 2 dL_law_459 rfl rfl ?_
  refine E_aload_n (pc := 460) 0 dL_law_460 rfl rfl ?_
  refine E_iload_n (pc := 461) 3 dL_law_461 rfl rfl ?_
  refine E_iconst (pc := 462) (1) dL_law_462 (by decide) ?_
  refine E_iadd (pc := 463) dL_law_463 ?_
  refine E_ald_ro (pc := 464) dL_law_464 rfl (vin_s 1 rfl (by omega) hL) ?_
  refine E_aload_n (pc := 465) 0 dL_law_465 rfl rfl ?_
  refine E_iload_n (pc := 466) 3 dL_law_466 rfl rfl ?_
  refine E_iconst (pc := 467) (2) dL_law_467 (by decide) ?_
  refine E_iadd (pc := 468) dL_law_468 ?_
  refine E_ald_ro (pc := 469) dL_law_469 rfl (vin_s 2 rfl (by omega) hL) ?_
  refine E_aload_n (pc := 470) 0 dL_law_470 rfl rfl ?_
  refine E_iload_n (pc := 471) 3 dL_law_471 rfl rfl ?_
  refine E_iconst (pc := 472) (3) dL_law_472 (by decide) ?_
  refine E_iadd (pc := 473) dL_law_473 ?_
  refine E_ald_ro (pc := 474) dL_law_474 rfl (vin_s 3 rfl (by omega) hL) ?_
  refine E_aload_n (pc := 475) 0 dL_law_475 rfl rfl ?_
  refine E_iload_n (pc := 476) 3 dL_law_476 rfl rfl ?_
  refine E_iconst (pc := 477) (4) dL_law_477 (by decide) ?_
  refine E_iadd (pc := 478) dL_law_478 ?_
  refine E_ald_ro (pc := 479) dL_law_479 rfl (vin_s 4 rfl (by omega) hL) ?_
  refine E_callV (pc := 480) dL_law_480 c2 rfl kv_RL_52 rfl rfl rfl ⟨Nat.le_of_ble_eq_true rfl, Nat.le_of_ble_eq_true rfl, Nat.le_of_ble_eq_true rfl, Nat.le_of_ble_eq_true rfl⟩ (Nat.le_of_ble_eq_true rfl) ?_
  rintro r2 h2 hq2
  obtain ⟨rfl, hR⟩ := k2 _ _ hq2
  refine E_icmp_eq (pc := 483) 1533 dL_law_483 rfl (fun q483 => ?_) (fun q483 => absurd rfl q483)
  exact next _ hR
set_option maxHeartbeats 4000000 in
theorem law_8 {l : Launch} {G : GE} {L k : Nat} {xs : Nat → Int32} {h : Hp} (hL : L ≤ 3584) (hk : 7 * k + 7 ≤ L) (z : Rel h) (next : ∀ h2, Rel0 h2 → Ev l G mL_law (fkL G L xs) 1533 [some (vR g_script 0), some (vR g_oab 0), some (vR g_model 0), some (vI (nI (7 * k)))] [] h2) : Ev l G mL_law (fkL G L xs) 488 [some (vR g_script 0), some (vR g_oab 0), some (vR g_model 0), some (vI (nI (7 * k)))] [] h := by
  obtain ⟨Q1, c1, k1⟩ := @both_of l G h z (xs (ixN (nI (7 * k) + 1))) (xs (ixN (nI (7 * k) + 2)))
  refine E_aload_n (pc := 488) 1 dL_law_488 rfl rfl ?_
  refine E_aload_n (pc := 489) 0 dL_law_489 rfl rfl ?_
  refine E_iload_n (pc := 490) 3 dL_law_490 rfl rfl ?_
  refine E_iconst (pc := 491) (1) dL_law_491 (by decide) ?_
  refine E_iadd (pc := 492) dL_law_492 ?_
  refine E_ald_ro (pc := 493) dL_law_493 rfl (vin_s 1 rfl (by omega) hL) ?_
  refine E_aload_n (pc := 494) 0 dL_law_494 rfl rfl ?_
  refine E_iload_n (pc := 495) 3 dL_law_495 rfl rfl ?_
  refine E_iconst (pc := 496) (2) dL_law_496 (by decide) ?_
  refine E_iadd (pc := 497) dL_law_497 ?_
  refine E_ald_ro (pc := 498) dL_law_498 rfl (vin_s 2 rfl (by omega) hL) ?_
  refine E_callV (pc := 499) dL_law_499 c1 rfl kv_RL_53 rfl rfl rfl ⟨Nat.le_of_ble_eq_true rfl, Nat.le_of_ble_eq_true rfl, Nat.le_of_ble_eq_true rfl, Nat.le_of_ble_eq_true rfl⟩ (Nat.le_of_ble_eq_true rfl) ?_
  rintro r h1 hq
  obtain ⟨a, rfl, Q2, c2, k2⟩ := k1 _ _ hq
  refine E_aload_n (pc := 502) 2 dL_law_502 rfl rfl ?_
  refine E_aload_n (pc := 503) 0 dL_law_503 rfl rfl ?_
  refine E_iload_n (pc := 504) 3 dL_law_504 rfl rfl ?_
  refine E_iconst (pc := 505) (1) dL_law_505 (by decide) ?_
  refine E_iadd (pc := 506) dL_law_506 ?_
  refine E_ald_ro (pc := 507) dL_law_507 rfl (vin_s 1 rfl (by omega) hL) ?_
  refine E_aload_n (pc := 508) 0 dL_law_508 rfl rfl ?_
  refine E_iload_n (pc := 509) 3 dL_law_509 rfl rfl ?_
  refine E_iconst (pc := 510) (2) dL_law_510 (by decide) ?_
  refine E_iadd (pc := 511) dL_law_511 ?_
  refine E_ald_ro (pc := 512) dL_law_512 rfl (vin_s 2 rfl (by omega) hL) ?_
  refine E_callV (pc := 513) dL_law_513 c2 rfl kv_RL_57 rfl rfl rfl ⟨Nat.le_of_ble_eq_true rfl, Nat.le_of_ble_eq_true rfl, Nat.le_of_ble_eq_true rfl, Nat.le_of_ble_eq_true rfl⟩ (Nat.le_of_ble_eq_true rfl) ?_
  rintro r2 h2 hq2
  obtain ⟨rfl, hR⟩ := k2 _ _ hq2
  refine E_icmp_eq (pc := 516) 1533 dL_law_516 rfl (fun q516 => ?_) (fun q516 => absurd rfl q516)
  exact next _ hR
set_option maxHeartbeats 4000000 in
theorem law_9 {l : Launch} {G : GE} {L k : Nat} {xs : Nat → Int32} {h : Hp} (hL : L ≤ 3584) (hk : 7 * k + 7 ≤ L) (z : Rel h) (next : ∀ h2, Rel0 h2 → Ev l G mL_law (fkL G L xs) 1533 [some (vR g_script 0), some (vR g_oab 0), some (vR g_model 0), some (vI (nI (7 * k)))] [] h2) : Ev l G mL_law (fkL G L xs) 521 [some (vR g_script 0), some (vR g_oab 0), some (vR g_model 0), some (vI (nI (7 * k)))] [] h := by
  obtain ⟨Q1, c1, k1⟩ := @both_copy l G h z (xs (ixN (nI (7 * k) + 1))) (xs (ixN (nI (7 * k) + 2)))
  refine E_aload_n (pc := 521) 1 dL_law_521 rfl rfl ?_
  refine E_aload_n (pc := 522) 0 dL_law_522 rfl rfl ?_
  refine E_iload_n (pc := 523) 3 dL_law_523 rfl rfl ?_
  refine E_iconst (pc := 524) (1) dL_law_524 (by decide) ?_
  refine E_iadd (pc := 525) dL_law_525 ?_
  refine E_ald_ro (pc := 526) dL_law_526 rfl (vin_s 1 rfl (by omega) hL) ?_
  refine E_aload_n (pc := 527) 0 dL_law_527 rfl rfl ?_
  refine E_iload_n (pc := 528) 3 dL_law_528 rfl rfl ?_
  refine E_iconst (pc := 529) (2) dL_law_529 (by decide) ?_
  refine E_iadd (pc := 530) dL_law_530 ?_
  refine E_ald_ro (pc := 531) dL_law_531 rfl (vin_s 2 rfl (by omega) hL) ?_
  refine E_callV (pc := 532) dL_law_532 c1 rfl kv_RL_58 rfl rfl rfl ⟨Nat.le_of_ble_eq_true rfl, Nat.le_of_ble_eq_true rfl, Nat.le_of_ble_eq_true rfl, Nat.le_of_ble_eq_true rfl⟩ (Nat.le_of_ble_eq_true rfl) ?_
  rintro r h1 hq
  obtain ⟨a, rfl, Q2, c2, k2⟩ := k1 _ _ hq
  refine E_aload_n (pc := 535) 2 dL_law_535 rfl rfl ?_
  refine E_aload_n (pc := 536) 0 dL_law_536 rfl rfl ?_
  refine E_iload_n (pc := 537) 3 dL_law_537 rfl rfl ?_
  refine E_iconst (pc := 538) (1) dL_law_538 (by decide) ?_
  refine E_iadd (pc := 539) dL_law_539 ?_
  refine E_ald_ro (pc := 540) dL_law_540 rfl (vin_s 1 rfl (by omega) hL) ?_
  refine E_aload_n (pc := 541) 0 dL_law_541 rfl rfl ?_
  refine E_iload_n (pc := 542) 3 dL_law_542 rfl rfl ?_
  refine E_iconst (pc := 543) (2) dL_law_543 (by decide) ?_
  refine E_iadd (pc := 544) dL_law_544 ?_
  refine E_ald_ro (pc := 545) dL_law_545 rfl (vin_s 2 rfl (by omega) hL) ?_
  refine E_callV (pc := 546) dL_law_546 c2 rfl kv_RL_61 rfl rfl rfl ⟨Nat.le_of_ble_eq_true rfl, Nat.le_of_ble_eq_true rfl, Nat.le_of_ble_eq_true rfl, Nat.le_of_ble_eq_true rfl⟩ (Nat.le_of_ble_eq_true rfl) ?_
  rintro r2 h2 hq2
  obtain ⟨rfl, hR⟩ := k2 _ _ hq2
  refine E_icmp_eq (pc := 549) 1533 dL_law_549 rfl (fun q549 => ?_) (fun q549 => absurd rfl q549)
  exact next _ hR
set_option maxHeartbeats 4000000 in
theorem law_10 {l : Launch} {G : GE} {L k : Nat} {xs : Nat → Int32} {h : Hp} (hL : L ≤ 3584) (hk : 7 * k + 7 ≤ L) (z : Rel h) (next : ∀ h2, Rel0 h2 → Ev l G mL_law (fkL G L xs) 1533 [some (vR g_script 0), some (vR g_oab 0), some (vR g_model 0), some (vI (nI (7 * k)))] [] h2) : Ev l G mL_law (fkL G L xs) 554 [some (vR g_script 0), some (vR g_oab 0), some (vR g_model 0), some (vI (nI (7 * k)))] [] h := by
  obtain ⟨Q1, c1, k1⟩ := @both_place l G h z (xs (ixN (nI (7 * k) + 1))) (xs (ixN (nI (7 * k) + 2))) (xs (ixN (nI (7 * k) + 3))) (xs (ixN (nI (7 * k) + 4)))
  refine E_aload_n (pc := 554) 1 dL_law_554 rfl rfl ?_
  refine E_aload_n (pc := 555) 0 dL_law_555 rfl rfl ?_
  refine E_iload_n (pc := 556) 3 dL_law_556 rfl rfl ?_
  refine E_iconst (pc := 557) (1) dL_law_557 (by decide) ?_
  refine E_iadd (pc := 558) dL_law_558 ?_
  refine E_ald_ro (pc := 559) dL_law_559 rfl (vin_s 1 rfl (by omega) hL) ?_
  refine E_aload_n (pc := 560) 0 dL_law_560 rfl rfl ?_
  refine E_iload_n (pc := 561) 3 dL_law_561 rfl rfl ?_
  refine E_iconst (pc := 562) (2) dL_law_562 (by decide) ?_
  refine E_iadd (pc := 563) dL_law_563 ?_
  refine E_ald_ro (pc := 564) dL_law_564 rfl (vin_s 2 rfl (by omega) hL) ?_
  refine E_aload_n (pc := 565) 0 dL_law_565 rfl rfl ?_
  refine E_iload_n (pc := 566) 3 dL_law_566 rfl rfl ?_
  refine E_iconst (pc := 567) (3) dL_law_567 (by decide) ?_
  refine E_iadd (pc := 568) dL_law_568 ?_
  refine E_ald_ro (pc := 569) dL_law_569 rfl (vin_s 3 rfl (by omega) hL) ?_
  refine E_aload_n (pc := 570) 0 dL_law_570 rfl rfl ?_
  refine E_iload_n (pc := 571) 3 dL_law_571 rfl rfl ?_
  refine E_iconst (pc := 572) (4) dL_law_572 (by decide) ?_
  refine E_iadd (pc := 573) dL_law_573 ?_
  refine E_ald_ro (pc := 574) dL_law_574 rfl (vin_s 4 rfl (by omega) hL) ?_
  refine E_callV (pc := 575) dL_law_575 c1 rfl kv_RL_62 rfl rfl rfl ⟨Nat.le_of_ble_eq_true rfl, Nat.le_of_ble_eq_true rfl, Nat.le_of_ble_eq_true rfl, Nat.le_of_ble_eq_true rfl⟩ (Nat.le_of_ble_eq_true rfl) ?_
  rintro r h1 hq
  obtain ⟨a, rfl, Q2, c2, k2⟩ := k1 _ _ hq
  refine E_aload_n (pc := 578) 2 dL_law_578 rfl rfl ?_
  refine E_aload_n (pc := 579) 0 dL_law_579 rfl rfl ?_
  refine E_iload_n (pc := 580) 3 dL_law_580 rfl rfl ?_
  refine E_iconst (pc := 581) (1) dL_law_581 (by decide) ?_
  refine E_iadd (pc := 582) dL_law_582 ?_
  refine E_ald_ro (pc := 583) dL_law_583 rfl (vin_s 1 rfl (by omega) hL) ?_
  refine E_aload_n (pc := 584) 0 dL_law_584 rfl rfl ?_
  refine E_iload_n (pc := 585) 3 dL_law_585 rfl rfl ?_
  refine E_iconst (pc := 586) (2) dL_law_586 (by decide) ?_
  refine E_iadd (pc := 587) dL_law_587 ?_
  refine E_ald_ro (pc := 588) dL_law_588 rfl (vin_s 2 rfl (by omega) hL) ?_
  refine E_aload_n (pc := 589) 0 dL_law_589 rfl rfl ?_
  refine E_iload_n (pc := 590) 3 dL_law_590 rfl rfl ?_
  refine E_iconst (pc := 591) (3) dL_law_591 (by decide) ?_
  refine E_iadd (pc := 592) dL_law_592 ?_
  refine E_ald_ro (pc := 593) dL_law_593 rfl (vin_s 3 rfl (by omega) hL) ?_
  refine E_aload_n (pc := 594) 0 dL_law_594 rfl rfl ?_
  refine E_iload_n (pc := 595) 3 dL_law_595 rfl rfl ?_
  refine E_iconst (pc := 596) (4) dL_law_596 (by decide) ?_
  refine E_iadd (pc := 597) dL_law_597 ?_
  refine E_ald_ro (pc := 598) dL_law_598 rfl (vin_s 4 rfl (by omega) hL) ?_
  refine E_callV (pc := 599) dL_law_599 c2 rfl kv_RL_65 rfl rfl rfl ⟨Nat.le_of_ble_eq_true rfl, Nat.le_of_ble_eq_true rfl, Nat.le_of_ble_eq_true rfl, Nat.le_of_ble_eq_true rfl⟩ (Nat.le_of_ble_eq_true rfl) ?_
  rintro r2 h2 hq2
  obtain ⟨rfl, hR⟩ := k2 _ _ hq2
  refine E_icmp_eq (pc := 602) 1533 dL_law_602 rfl (fun q602 => ?_) (fun q602 => absurd rfl q602)
  exact next _ hR
set_option maxHeartbeats 4000000 in
theorem law_11 {l : Launch} {G : GE} {L k : Nat} {xs : Nat → Int32} {h : Hp} (hL : L ≤ 3584) (hk : 7 * k + 7 ≤ L) (z : Rel h) (next : ∀ h2, Rel0 h2 → Ev l G mL_law (fkL G L xs) 1533 [some (vR g_script 0), some (vR g_oab 0), some (vR g_model 0), some (vI (nI (7 * k)))] [] h2) : Ev l G mL_law (fkL G L xs) 607 [some (vR g_script 0), some (vR g_oab 0), some (vR g_model 0), some (vI (nI (7 * k)))] [] h := by
  obtain ⟨Q1, c1, k1⟩ := @both_near l G h z (xs (ixN (nI (7 * k) + 1))) (xs (ixN (nI (7 * k) + 2))) (xs (ixN (nI (7 * k) + 3)))
  refine E_aload_n (pc := 607) 1 dL_law_607 rfl rfl ?_
  refine E_aload_n (pc := 608) 0 dL_law_608 rfl rfl ?_
  refine E_iload_n (pc := 609) 3 dL_law_609 rfl rfl ?_
  refine E_iconst (pc := 610) (1) dL_law_610 (by decide) ?_
  refine E_iadd (pc := 611) dL_law_611 ?_
  refine E_ald_ro (pc := 612) dL_law_612 rfl (vin_s 1 rfl (by omega) hL) ?_
  refine E_aload_n (pc := 613) 0 dL_law_613 rfl rfl ?_
  refine E_iload_n (pc := 614) 3 dL_law_614 rfl rfl ?_
  refine E_iconst (pc := 615) (2) dL_law_615 (by decide) ?_
  refine E_iadd (pc := 616) dL_law_616 ?_
  refine E_ald_ro (pc := 617) dL_law_617 rfl (vin_s 2 rfl (by omega) hL) ?_
  refine E_aload_n (pc := 618) 0 dL_law_618 rfl rfl ?_
  refine E_iload_n (pc := 619) 3 dL_law_619 rfl rfl ?_
  refine E_iconst (pc := 620) (3) dL_law_620 (by decide) ?_
  refine E_iadd (pc := 621) dL_law_621 ?_
  refine E_ald_ro (pc := 622) dL_law_622 rfl (vin_s 3 rfl (by omega) hL) ?_
  refine E_callV (pc := 623) dL_law_623 c1 rfl kv_RL_66 rfl rfl rfl ⟨Nat.le_of_ble_eq_true rfl, Nat.le_of_ble_eq_true rfl, Nat.le_of_ble_eq_true rfl, Nat.le_of_ble_eq_true rfl⟩ (Nat.le_of_ble_eq_true rfl) ?_
  rintro r h1 hq
  obtain ⟨a, rfl, Q2, c2, k2⟩ := k1 _ _ hq
  refine E_aload_n (pc := 626) 2 dL_law_626 rfl rfl ?_
  refine E_aload_n (pc := 627) 0 dL_law_627 rfl rfl ?_
  refine E_iload_n (pc := 628) 3 dL_law_628 rfl rfl ?_
  refine E_iconst (pc := 629) (1) dL_law_629 (by decide) ?_
  refine E_iadd (pc := 630) dL_law_630 ?_
  refine E_ald_ro (pc := 631) dL_law_631 rfl (vin_s 1 rfl (by omega) hL) ?_
  refine E_aload_n (pc := 632) 0 dL_law_632 rfl rfl ?_
  refine E_iload_n (pc := 633) 3 dL_law_633 rfl rfl ?_
  refine E_iconst (pc := 634) (2) dL_law_634 (by decide) ?_
  refine E_iadd (pc := 635) dL_law_635 ?_
  refine E_ald_ro (pc := 636) dL_law_636 rfl (vin_s 2 rfl (by omega) hL) ?_
  refine E_aload_n (pc := 637) 0 dL_law_637 rfl rfl ?_
  refine E_iload_n (pc := 638) 3 dL_law_638 rfl rfl ?_
  refine E_iconst (pc := 639) (3) dL_law_639 (by decide) ?_
  refine E_iadd (pc := 640) dL_law_640 ?_
  refine E_ald_ro (pc := 641) dL_law_641 rfl (vin_s 3 rfl (by omega) hL) ?_
  refine E_callV (pc := 642) dL_law_642 c2 rfl kv_RL_69 rfl rfl rfl ⟨Nat.le_of_ble_eq_true rfl, Nat.le_of_ble_eq_true rfl, Nat.le_of_ble_eq_true rfl, Nat.le_of_ble_eq_true rfl⟩ (Nat.le_of_ble_eq_true rfl) ?_
  rintro r2 h2 hq2
  obtain ⟨rfl, hR⟩ := k2 _ _ hq2
  refine E_icmp_eq (pc := 645) 1533 dL_law_645 rfl (fun q645 => ?_) (fun q645 => absurd rfl q645)
  exact next _ hR
set_option maxHeartbeats 4000000 in
theorem law_12 {l : Launch} {G : GE} {L k : Nat} {xs : Nat → Int32} {h : Hp} (hL : L ≤ 3584) (hk : 7 * k + 7 ≤ L) (z : Rel h) (next : ∀ h2, Rel0 h2 → Ev l G mL_law (fkL G L xs) 1533 [some (vR g_script 0), some (vR g_oab 0), some (vR g_model 0), some (vI (nI (7 * k)))] [] h2) : Ev l G mL_law (fkL G L xs) 650 [some (vR g_script 0), some (vR g_oab 0), some (vR g_model 0), some (vI (nI (7 * k)))] [] h := by
  obtain ⟨Q1, c1, k1⟩ := @both_high l G h z (xs (ixN (nI (7 * k) + 1)))
  refine E_aload_n (pc := 650) 1 dL_law_650 rfl rfl ?_
  refine E_aload_n (pc := 651) 0 dL_law_651 rfl rfl ?_
  refine E_iload_n (pc := 652) 3 dL_law_652 rfl rfl ?_
  refine E_iconst (pc := 653) (1) dL_law_653 (by decide) ?_
  refine E_iadd (pc := 654) dL_law_654 ?_
  refine E_ald_ro (pc := 655) dL_law_655 rfl (vin_s 1 rfl (by omega) hL) ?_
  refine E_callV (pc := 656) dL_law_656 c1 rfl kv_RL_70 rfl rfl rfl ⟨Nat.le_of_ble_eq_true rfl, Nat.le_of_ble_eq_true rfl, Nat.le_of_ble_eq_true rfl, Nat.le_of_ble_eq_true rfl⟩ (Nat.le_of_ble_eq_true rfl) ?_
  rintro r h1 hq
  obtain ⟨a, rfl, Q2, c2, k2⟩ := k1 _ _ hq
  refine E_aload_n (pc := 659) 2 dL_law_659 rfl rfl ?_
  refine E_aload_n (pc := 660) 0 dL_law_660 rfl rfl ?_
  refine E_iload_n (pc := 661) 3 dL_law_661 rfl rfl ?_
  refine E_iconst (pc := 662) (1) dL_law_662 (by decide) ?_
  refine E_iadd (pc := 663) dL_law_663 ?_
  refine E_ald_ro (pc := 664) dL_law_664 rfl (vin_s 1 rfl (by omega) hL) ?_
  refine E_callV (pc := 665) dL_law_665 c2 rfl kv_RL_73 rfl rfl rfl ⟨Nat.le_of_ble_eq_true rfl, Nat.le_of_ble_eq_true rfl, Nat.le_of_ble_eq_true rfl, Nat.le_of_ble_eq_true rfl⟩ (Nat.le_of_ble_eq_true rfl) ?_
  rintro r2 h2 hq2
  obtain ⟨rfl, hR⟩ := k2 _ _ hq2
  refine E_icmp_eq (pc := 668) 1533 dL_law_668 rfl (fun q668 => ?_) (fun q668 => absurd rfl q668)
  exact next _ hR
set_option maxHeartbeats 4000000 in
theorem law_13 {l : Launch} {G : GE} {L k : Nat} {xs : Nat → Int32} {h : Hp} (hL : L ≤ 3584) (hk : 7 * k + 7 ≤ L) (z : Rel h) (next : ∀ h2, Rel0 h2 → Ev l G mL_law (fkL G L xs) 1533 [some (vR g_script 0), some (vR g_oab 0), some (vR g_model 0), some (vI (nI (7 * k)))] [] h2) : Ev l G mL_law (fkL G L xs) 673 [some (vR g_script 0), some (vR g_oab 0), some (vR g_model 0), some (vI (nI (7 * k)))] [] h := by
  obtain ⟨Q1, c1, k1⟩ := @both_lowest l G h z (xs (ixN (nI (7 * k) + 1)))
  refine E_aload_n (pc := 673) 1 dL_law_673 rfl rfl ?_
  refine E_aload_n (pc := 674) 0 dL_law_674 rfl rfl ?_
  refine E_iload_n (pc := 675) 3 dL_law_675 rfl rfl ?_
  refine E_iconst (pc := 676) (1) dL_law_676 (by decide) ?_
  refine E_iadd (pc := 677) dL_law_677 ?_
  refine E_ald_ro (pc := 678) dL_law_678 rfl (vin_s 1 rfl (by omega) hL) ?_
  refine E_callV (pc := 679) dL_law_679 c1 rfl kv_RL_74 rfl rfl rfl ⟨Nat.le_of_ble_eq_true rfl, Nat.le_of_ble_eq_true rfl, Nat.le_of_ble_eq_true rfl, Nat.le_of_ble_eq_true rfl⟩ (Nat.le_of_ble_eq_true rfl) ?_
  rintro r h1 hq
  obtain ⟨a, rfl, Q2, c2, k2⟩ := k1 _ _ hq
  refine E_aload_n (pc := 682) 2 dL_law_682 rfl rfl ?_
  refine E_aload_n (pc := 683) 0 dL_law_683 rfl rfl ?_
  refine E_iload_n (pc := 684) 3 dL_law_684 rfl rfl ?_
  refine E_iconst (pc := 685) (1) dL_law_685 (by decide) ?_
  refine E_iadd (pc := 686) dL_law_686 ?_
  refine E_ald_ro (pc := 687) dL_law_687 rfl (vin_s 1 rfl (by omega) hL) ?_
  refine E_callV (pc := 688) dL_law_688 c2 rfl kv_RL_77 rfl rfl rfl ⟨Nat.le_of_ble_eq_true rfl, Nat.le_of_ble_eq_true rfl, Nat.le_of_ble_eq_true rfl, Nat.le_of_ble_eq_true rfl⟩ (Nat.le_of_ble_eq_true rfl) ?_
  rintro r2 h2 hq2
  obtain ⟨rfl, hR⟩ := k2 _ _ hq2
  refine E_icmp_eq (pc := 691) 1533 dL_law_691 rfl (fun q691 => ?_) (fun q691 => absurd rfl q691)
  exact next _ hR
set_option maxHeartbeats 4000000 in
theorem law_14 {l : Launch} {G : GE} {L k : Nat} {xs : Nat → Int32} {h : Hp} (hL : L ≤ 3584) (hk : 7 * k + 7 ≤ L) (z : Rel h) (next : ∀ h2, Rel0 h2 → Ev l G mL_law (fkL G L xs) 1533 [some (vR g_script 0), some (vR g_oab 0), some (vR g_model 0), some (vI (nI (7 * k)))] [] h2) : Ev l G mL_law (fkL G L xs) 696 [some (vR g_script 0), some (vR g_oab 0), some (vR g_model 0), some (vI (nI (7 * k)))] [] h := by
  obtain ⟨Q1, c1, k1⟩ := @both_under l G h z (xs (ixN (nI (7 * k) + 1)))
  refine E_aload_n (pc := 696) 1 dL_law_696 rfl rfl ?_
  refine E_aload_n (pc := 697) 0 dL_law_697 rfl rfl ?_
  refine E_iload_n (pc := 698) 3 dL_law_698 rfl rfl ?_
  refine E_iconst (pc := 699) (1) dL_law_699 (by decide) ?_
  refine E_iadd (pc := 700) dL_law_700 ?_
  refine E_ald_ro (pc := 701) dL_law_701 rfl (vin_s 1 rfl (by omega) hL) ?_
  refine E_callV (pc := 702) dL_law_702 c1 rfl kv_RL_78 rfl rfl rfl ⟨Nat.le_of_ble_eq_true rfl, Nat.le_of_ble_eq_true rfl, Nat.le_of_ble_eq_true rfl, Nat.le_of_ble_eq_true rfl⟩ (Nat.le_of_ble_eq_true rfl) ?_
  rintro r h1 hq
  obtain ⟨a, rfl, Q2, c2, k2⟩ := k1 _ _ hq
  refine E_aload_n (pc := 705) 2 dL_law_705 rfl rfl ?_
  refine E_aload_n (pc := 706) 0 dL_law_706 rfl rfl ?_
  refine E_iload_n (pc := 707) 3 dL_law_707 rfl rfl ?_
  refine E_iconst (pc := 708) (1) dL_law_708 (by decide) ?_
  refine E_iadd (pc := 709) dL_law_709 ?_
  refine E_ald_ro (pc := 710) dL_law_710 rfl (vin_s 1 rfl (by omega) hL) ?_
  refine E_callV (pc := 711) dL_law_711 c2 rfl kv_RL_81 rfl rfl rfl ⟨Nat.le_of_ble_eq_true rfl, Nat.le_of_ble_eq_true rfl, Nat.le_of_ble_eq_true rfl, Nat.le_of_ble_eq_true rfl⟩ (Nat.le_of_ble_eq_true rfl) ?_
  rintro r2 h2 hq2
  obtain ⟨rfl, hR⟩ := k2 _ _ hq2
  refine E_icmp_eq (pc := 714) 1533 dL_law_714 rfl (fun q714 => ?_) (fun q714 => absurd rfl q714)
  exact next _ hR
set_option maxHeartbeats 4000000 in
theorem law_15 {l : Launch} {G : GE} {L k : Nat} {xs : Nat → Int32} {h : Hp} (hL : L ≤ 3584) (hk : 7 * k + 7 ≤ L) (z : Rel h) (next : ∀ h2, Rel0 h2 → Ev l G mL_law (fkL G L xs) 1533 [some (vR g_script 0), some (vR g_oab 0), some (vR g_model 0), some (vI (nI (7 * k)))] [] h2) : Ev l G mL_law (fkL G L xs) 719 [some (vR g_script 0), some (vR g_oab 0), some (vR g_model 0), some (vI (nI (7 * k)))] [] h := by
  obtain ⟨Q1, c1, k1⟩ := @both_order l G h z (xs (ixN (nI (7 * k) + 1)))
  refine E_aload_n (pc := 719) 1 dL_law_719 rfl rfl ?_
  refine E_aload_n (pc := 720) 0 dL_law_720 rfl rfl ?_
  refine E_iload_n (pc := 721) 3 dL_law_721 rfl rfl ?_
  refine E_iconst (pc := 722) (1) dL_law_722 (by decide) ?_
  refine E_iadd (pc := 723) dL_law_723 ?_
  refine E_ald_ro (pc := 724) dL_law_724 rfl (vin_s 1 rfl (by omega) hL) ?_
  refine E_callV (pc := 725) dL_law_725 c1 rfl kv_RL_82 rfl rfl rfl ⟨Nat.le_of_ble_eq_true rfl, Nat.le_of_ble_eq_true rfl, Nat.le_of_ble_eq_true rfl, Nat.le_of_ble_eq_true rfl⟩ (Nat.le_of_ble_eq_true rfl) ?_
  rintro r h1 hq
  obtain ⟨a, rfl, Q2, c2, k2⟩ := k1 _ _ hq
  refine E_aload_n (pc := 728) 2 dL_law_728 rfl rfl ?_
  refine E_aload_n (pc := 729) 0 dL_law_729 rfl rfl ?_
  refine E_iload_n (pc := 730) 3 dL_law_730 rfl rfl ?_
  refine E_iconst (pc := 731) (1) dL_law_731 (by decide) ?_
  refine E_iadd (pc := 732) dL_law_732 ?_
  refine E_ald_ro (pc := 733) dL_law_733 rfl (vin_s 1 rfl (by omega) hL) ?_
  refine E_callV (pc := 734) dL_law_734 c2 rfl kv_RL_85 rfl rfl rfl ⟨Nat.le_of_ble_eq_true rfl, Nat.le_of_ble_eq_true rfl, Nat.le_of_ble_eq_true rfl, Nat.le_of_ble_eq_true rfl⟩ (Nat.le_of_ble_eq_true rfl) ?_
  rintro r2 h2 hq2
  obtain ⟨rfl, hR⟩ := k2 _ _ hq2
  refine E_icmp_eq (pc := 737) 1533 dL_law_737 rfl (fun q737 => ?_) (fun q737 => absurd rfl q737)
  exact next _ hR
set_option maxHeartbeats 4000000 in
theorem law_16 {l : Launch} {G : GE} {L k : Nat} {xs : Nat → Int32} {h : Hp} (hL : L ≤ 3584) (hk : 7 * k + 7 ≤ L) (z : Rel h) (next : ∀ h2, Rel0 h2 → Ev l G mL_law (fkL G L xs) 1533 [some (vR g_script 0), some (vR g_oab 0), some (vR g_model 0), some (vI (nI (7 * k)))] [] h2) : Ev l G mL_law (fkL G L xs) 742 [some (vR g_script 0), some (vR g_oab 0), some (vR g_model 0), some (vI (nI (7 * k)))] [] h := by
  obtain ⟨Q1, c1, k1⟩ := @both_barred l G h z (xs (ixN (nI (7 * k) + 1)))
  refine E_aload_n (pc := 742) 1 dL_law_742 rfl rfl ?_
  refine E_aload_n (pc := 743) 0 dL_law_743 rfl rfl ?_
  refine E_iload_n (pc := 744) 3 dL_law_744 rfl rfl ?_
  refine E_iconst (pc := 745) (1) dL_law_745 (by decide) ?_
  refine E_iadd (pc := 746) dL_law_746 ?_
  refine E_ald_ro (pc := 747) dL_law_747 rfl (vin_s 1 rfl (by omega) hL) ?_
  refine E_callV (pc := 748) dL_law_748 c1 rfl kv_RL_86 rfl rfl rfl ⟨Nat.le_of_ble_eq_true rfl, Nat.le_of_ble_eq_true rfl, Nat.le_of_ble_eq_true rfl, Nat.le_of_ble_eq_true rfl⟩ (Nat.le_of_ble_eq_true rfl) ?_
  rintro r h1 hq
  obtain ⟨a, rfl, Q2, c2, k2⟩ := k1 _ _ hq
  refine E_aload_n (pc := 751) 2 dL_law_751 rfl rfl ?_
  refine E_aload_n (pc := 752) 0 dL_law_752 rfl rfl ?_
  refine E_iload_n (pc := 753) 3 dL_law_753 rfl rfl ?_
  refine E_iconst (pc := 754) (1) dL_law_754 (by decide) ?_
  refine E_iadd (pc := 755) dL_law_755 ?_
  refine E_ald_ro (pc := 756) dL_law_756 rfl (vin_s 1 rfl (by omega) hL) ?_
  refine E_callV (pc := 757) dL_law_757 c2 rfl kv_RL_89 rfl rfl rfl ⟨Nat.le_of_ble_eq_true rfl, Nat.le_of_ble_eq_true rfl, Nat.le_of_ble_eq_true rfl, Nat.le_of_ble_eq_true rfl⟩ (Nat.le_of_ble_eq_true rfl) ?_
  rintro r2 h2 hq2
  obtain ⟨rfl, hR⟩ := k2 _ _ hq2
  refine E_icmp_eq (pc := 760) 1533 dL_law_760 rfl (fun q760 => ?_) (fun q760 => absurd rfl q760)
  exact next _ hR
set_option maxHeartbeats 4000000 in
theorem law_17 {l : Launch} {G : GE} {L k : Nat} {xs : Nat → Int32} {h : Hp} (hL : L ≤ 3584) (hk : 7 * k + 7 ≤ L) (z : Rel h) (next : ∀ h2, Rel0 h2 → Ev l G mL_law (fkL G L xs) 1533 [some (vR g_script 0), some (vR g_oab 0), some (vR g_model 0), some (vI (nI (7 * k)))] [] h2) : Ev l G mL_law (fkL G L xs) 765 [some (vR g_script 0), some (vR g_oab 0), some (vR g_model 0), some (vI (nI (7 * k)))] [] h := by
  obtain ⟨Q1, c1, k1⟩ := @both_pits l G h z (xs (ixN (nI (7 * k) + 1)))
  refine E_aload_n (pc := 765) 1 dL_law_765 rfl rfl ?_
  refine E_aload_n (pc := 766) 0 dL_law_766 rfl rfl ?_
  refine E_iload_n (pc := 767) 3 dL_law_767 rfl rfl ?_
  refine E_iconst (pc := 768) (1) dL_law_768 (by decide) ?_
  refine E_iadd (pc := 769) dL_law_769 ?_
  refine E_ald_ro (pc := 770) dL_law_770 rfl (vin_s 1 rfl (by omega) hL) ?_
  refine E_callV (pc := 771) dL_law_771 c1 rfl kv_RL_90 rfl rfl rfl ⟨Nat.le_of_ble_eq_true rfl, Nat.le_of_ble_eq_true rfl, Nat.le_of_ble_eq_true rfl, Nat.le_of_ble_eq_true rfl⟩ (Nat.le_of_ble_eq_true rfl) ?_
  rintro r h1 hq
  obtain ⟨a, rfl, Q2, c2, k2⟩ := k1 _ _ hq
  refine E_aload_n (pc := 774) 2 dL_law_774 rfl rfl ?_
  refine E_aload_n (pc := 775) 0 dL_law_775 rfl rfl ?_
  refine E_iload_n (pc := 776) 3 dL_law_776 rfl rfl ?_
  refine E_iconst (pc := 777) (1) dL_law_777 (by decide) ?_
  refine E_iadd (pc := 778) dL_law_778 ?_
  refine E_ald_ro (pc := 779) dL_law_779 rfl (vin_s 1 rfl (by omega) hL) ?_
  refine E_callV (pc := 780) dL_law_780 c2 rfl kv_RL_93 rfl rfl rfl ⟨Nat.le_of_ble_eq_true rfl, Nat.le_of_ble_eq_true rfl, Nat.le_of_ble_eq_true rfl, Nat.le_of_ble_eq_true rfl⟩ (Nat.le_of_ble_eq_true rfl) ?_
  rintro r2 h2 hq2
  obtain ⟨rfl, hR⟩ := k2 _ _ hq2
  refine E_icmp_eq (pc := 783) 1533 dL_law_783 rfl (fun q783 => ?_) (fun q783 => absurd rfl q783)
  exact next _ hR
set_option maxHeartbeats 4000000 in
theorem law_18 {l : Launch} {G : GE} {L k : Nat} {xs : Nat → Int32} {h : Hp} (hL : L ≤ 3584) (hk : 7 * k + 7 ≤ L) (z : Rel h) (next : ∀ h2, Rel0 h2 → Ev l G mL_law (fkL G L xs) 1533 [some (vR g_script 0), some (vR g_oab 0), some (vR g_model 0), some (vI (nI (7 * k)))] [] h2) : Ev l G mL_law (fkL G L xs) 788 [some (vR g_script 0), some (vR g_oab 0), some (vR g_model 0), some (vI (nI (7 * k)))] [] h := by
  obtain ⟨Q1, c1, k1⟩ := @both_worth l G h z (xs (ixN (nI (7 * k) + 1))) (xs (ixN (nI (7 * k) + 2)))
  refine E_aload_n (pc := 788) 1 dL_law_788 rfl rfl ?_
  refine E_aload_n (pc := 789) 0 dL_law_789 rfl rfl ?_
  refine E_iload_n (pc := 790) 3 dL_law_790 rfl rfl ?_
  refine E_iconst (pc := 791) (1) dL_law_791 (by decide) ?_
  refine E_iadd (pc := 792) dL_law_792 ?_
  refine E_ald_ro (pc := 793) dL_law_793 rfl (vin_s 1 rfl (by omega) hL) ?_
  refine E_aload_n (pc := 794) 0 dL_law_794 rfl rfl ?_
  refine E_iload_n (pc := 795) 3 dL_law_795 rfl rfl ?_
  refine E_iconst (pc := 796) (2) dL_law_796 (by decide) ?_
  refine E_iadd (pc := 797) dL_law_797 ?_
  refine E_ald_ro (pc := 798) dL_law_798 rfl (vin_s 2 rfl (by omega) hL) ?_
  refine E_callV (pc := 799) dL_law_799 c1 rfl kv_RL_94 rfl rfl rfl ⟨Nat.le_of_ble_eq_true rfl, Nat.le_of_ble_eq_true rfl, Nat.le_of_ble_eq_true rfl, Nat.le_of_ble_eq_true rfl⟩ (Nat.le_of_ble_eq_true rfl) ?_
  rintro r h1 hq
  obtain ⟨a, rfl, Q2, c2, k2⟩ := k1 _ _ hq
  refine E_aload_n (pc := 802) 2 dL_law_802 rfl rfl ?_
  refine E_aload_n (pc := 803) 0 dL_law_803 rfl rfl ?_
  refine E_iload_n (pc := 804) 3 dL_law_804 rfl rfl ?_
  refine E_iconst (pc := 805) (1) dL_law_805 (by decide) ?_
  refine E_iadd (pc := 806) dL_law_806 ?_
  refine E_ald_ro (pc := 807) dL_law_807 rfl (vin_s 1 rfl (by omega) hL) ?_
  refine E_aload_n (pc := 808) 0 dL_law_808 rfl rfl ?_
  refine E_iload_n (pc := 809) 3 dL_law_809 rfl rfl ?_
  refine E_iconst (pc := 810) (2) dL_law_810 (by decide) ?_
  refine E_iadd (pc := 811) dL_law_811 ?_
  refine E_ald_ro (pc := 812) dL_law_812 rfl (vin_s 2 rfl (by omega) hL) ?_
  refine E_callV (pc := 813) dL_law_813 c2 rfl kv_RL_97 rfl rfl rfl ⟨Nat.le_of_ble_eq_true rfl, Nat.le_of_ble_eq_true rfl, Nat.le_of_ble_eq_true rfl, Nat.le_of_ble_eq_true rfl⟩ (Nat.le_of_ble_eq_true rfl) ?_
  rintro r2 h2 hq2
  obtain ⟨rfl, hR⟩ := k2 _ _ hq2
  refine E_icmp_eq (pc := 816) 1533 dL_law_816 rfl (fun q816 => ?_) (fun q816 => absurd rfl q816)
  exact next _ hR
set_option maxHeartbeats 4000000 in
theorem law_19 {l : Launch} {G : GE} {L k : Nat} {xs : Nat → Int32} {h : Hp} (hL : L ≤ 3584) (hk : 7 * k + 7 ≤ L) (z : Rel h) (next : ∀ h2, Rel0 h2 → Ev l G mL_law (fkL G L xs) 1533 [some (vR g_script 0), some (vR g_oab 0), some (vR g_model 0), some (vI (nI (7 * k)))] [] h2) : Ev l G mL_law (fkL G L xs) 821 [some (vR g_script 0), some (vR g_oab 0), some (vR g_model 0), some (vI (nI (7 * k)))] [] h := by
  obtain ⟨Q1, c1, k1⟩ := @both_better l G h z (xs (ixN (nI (7 * k) + 1)))
  refine E_aload_n (pc := 821) 1 dL_law_821 rfl rfl ?_
  refine E_aload_n (pc := 822) 0 dL_law_822 rfl rfl ?_
  refine E_iload_n (pc := 823) 3 dL_law_823 rfl rfl ?_
  refine E_iconst (pc := 824) (1) dL_law_824 (by decide) ?_
  refine E_iadd (pc := 825) dL_law_825 ?_
  refine E_ald_ro (pc := 826) dL_law_826 rfl (vin_s 1 rfl (by omega) hL) ?_
  refine E_callV (pc := 827) dL_law_827 c1 rfl kv_RL_98 rfl rfl rfl ⟨Nat.le_of_ble_eq_true rfl, Nat.le_of_ble_eq_true rfl, Nat.le_of_ble_eq_true rfl, Nat.le_of_ble_eq_true rfl⟩ (Nat.le_of_ble_eq_true rfl) ?_
  rintro r h1 hq
  obtain ⟨a, rfl, Q2, c2, k2⟩ := k1 _ _ hq
  refine E_aload_n (pc := 830) 2 dL_law_830 rfl rfl ?_
  refine E_aload_n (pc := 831) 0 dL_law_831 rfl rfl ?_
  refine E_iload_n (pc := 832) 3 dL_law_832 rfl rfl ?_
  refine E_iconst (pc := 833) (1) dL_law_833 (by decide) ?_
  refine E_iadd (pc := 834) dL_law_834 ?_
  refine E_ald_ro (pc := 835) dL_law_835 rfl (vin_s 1 rfl (by omega) hL) ?_
  refine E_callV (pc := 836) dL_law_836 c2 rfl kv_RL_101 rfl rfl rfl ⟨Nat.le_of_ble_eq_true rfl, Nat.le_of_ble_eq_true rfl, Nat.le_of_ble_eq_true rfl, Nat.le_of_ble_eq_true rfl⟩ (Nat.le_of_ble_eq_true rfl) ?_
  rintro r2 h2 hq2
  obtain ⟨rfl, hR⟩ := k2 _ _ hq2
  refine E_icmp_eq (pc := 839) 1533 dL_law_839 rfl (fun q839 => ?_) (fun q839 => absurd rfl q839)
  exact next _ hR
set_option maxHeartbeats 4000000 in
theorem law_20 {l : Launch} {G : GE} {L k : Nat} {xs : Nat → Int32} {h : Hp} (hL : L ≤ 3584) (hk : 7 * k + 7 ≤ L) (z : Rel h) (next : ∀ h2, Rel0 h2 → Ev l G mL_law (fkL G L xs) 1533 [some (vR g_script 0), some (vR g_oab 0), some (vR g_model 0), some (vI (nI (7 * k)))] [] h2) : Ev l G mL_law (fkL G L xs) 844 [some (vR g_script 0), some (vR g_oab 0), some (vR g_model 0), some (vI (nI (7 * k)))] [] h := by
  obtain ⟨Q1, c1, k1⟩ := @both_climb l G h z (xs (ixN (nI (7 * k) + 1))) (xs (ixN (nI (7 * k) + 2)))
  refine E_aload_n (pc := 844) 1 dL_law_844 rfl rfl ?_
  refine E_aload_n (pc := 845) 0 dL_law_845 rfl rfl ?_
  refine E_iload_n (pc := 846) 3 dL_law_846 rfl rfl ?_
  refine E_iconst (pc := 847) (1) dL_law_847 (by decide) ?_
  refine E_iadd (pc := 848) dL_law_848 ?_
  refine E_ald_ro (pc := 849) dL_law_849 rfl (vin_s 1 rfl (by omega) hL) ?_
  refine E_aload_n (pc := 850) 0 dL_law_850 rfl rfl ?_
  refine E_iload_n (pc := 851) 3 dL_law_851 rfl rfl ?_
  refine E_iconst (pc := 852) (2) dL_law_852 (by decide) ?_
  refine E_iadd (pc := 853) dL_law_853 ?_
  refine E_ald_ro (pc := 854) dL_law_854 rfl (vin_s 2 rfl (by omega) hL) ?_
  refine E_callV (pc := 855) dL_law_855 c1 rfl kv_RL_102 rfl rfl rfl ⟨Nat.le_of_ble_eq_true rfl, Nat.le_of_ble_eq_true rfl, Nat.le_of_ble_eq_true rfl, Nat.le_of_ble_eq_true rfl⟩ (Nat.le_of_ble_eq_true rfl) ?_
  rintro r h1 hq
  obtain ⟨a, rfl, Q2, c2, k2⟩ := k1 _ _ hq
  refine E_aload_n (pc := 858) 2 dL_law_858 rfl rfl ?_
  refine E_aload_n (pc := 859) 0 dL_law_859 rfl rfl ?_
  refine E_iload_n (pc := 860) 3 dL_law_860 rfl rfl ?_
  refine E_iconst (pc := 861) (1) dL_law_861 (by decide) ?_
  refine E_iadd (pc := 862) dL_law_862 ?_
  refine E_ald_ro (pc := 863) dL_law_863 rfl (vin_s 1 rfl (by omega) hL) ?_
  refine E_aload_n (pc := 864) 0 dL_law_864 rfl rfl ?_
  refine E_iload_n (pc := 865) 3 dL_law_865 rfl rfl ?_
  refine E_iconst (pc := 866) (2) dL_law_866 (by decide) ?_
  refine E_iadd (pc := 867) dL_law_867 ?_
  refine E_ald_ro (pc := 868) dL_law_868 rfl (vin_s 2 rfl (by omega) hL) ?_
  refine E_callV (pc := 869) dL_law_869 c2 rfl kv_RL_105 rfl rfl rfl ⟨Nat.le_of_ble_eq_true rfl, Nat.le_of_ble_eq_true rfl, Nat.le_of_ble_eq_true rfl, Nat.le_of_ble_eq_true rfl⟩ (Nat.le_of_ble_eq_true rfl) ?_
  rintro r2 h2 hq2
  obtain ⟨rfl, hR⟩ := k2 _ _ hq2
  refine E_icmp_eq (pc := 872) 1533 dL_law_872 rfl (fun q872 => ?_) (fun q872 => absurd rfl q872)
  exact next _ hR
set_option maxHeartbeats 4000000 in
theorem law_21 {l : Launch} {G : GE} {L k : Nat} {xs : Nat → Int32} {h : Hp} (hL : L ≤ 3584) (hk : 7 * k + 7 ≤ L) (z : Rel h) (next : ∀ h2, Rel0 h2 → Ev l G mL_law (fkL G L xs) 1533 [some (vR g_script 0), some (vR g_oab 0), some (vR g_model 0), some (vI (nI (7 * k)))] [] h2) : Ev l G mL_law (fkL G L xs) 877 [some (vR g_script 0), some (vR g_oab 0), some (vR g_model 0), some (vI (nI (7 * k)))] [] h := by
  obtain ⟨Q1, c1, k1⟩ := @both_around l G h z (xs (ixN (nI (7 * k) + 1))) (xs (ixN (nI (7 * k) + 2)))
  refine E_aload_n (pc := 877) 1 dL_law_877 rfl rfl ?_
  refine E_aload_n (pc := 878) 0 dL_law_878 rfl rfl ?_
  refine E_iload_n (pc := 879) 3 dL_law_879 rfl rfl ?_
  refine E_iconst (pc := 880) (1) dL_law_880 (by decide) ?_
  refine E_iadd (pc := 881) dL_law_881 ?_
  refine E_ald_ro (pc := 882) dL_law_882 rfl (vin_s 1 rfl (by omega) hL) ?_
  refine E_aload_n (pc := 883) 0 dL_law_883 rfl rfl ?_
  refine E_iload_n (pc := 884) 3 dL_law_884 rfl rfl ?_
  refine E_iconst (pc := 885) (2) dL_law_885 (by decide) ?_
  refine E_iadd (pc := 886) dL_law_886 ?_
  refine E_ald_ro (pc := 887) dL_law_887 rfl (vin_s 2 rfl (by omega) hL) ?_
  refine E_callV (pc := 888) dL_law_888 c1 rfl kv_RL_106 rfl rfl rfl ⟨Nat.le_of_ble_eq_true rfl, Nat.le_of_ble_eq_true rfl, Nat.le_of_ble_eq_true rfl, Nat.le_of_ble_eq_true rfl⟩ (Nat.le_of_ble_eq_true rfl) ?_
  rintro r h1 hq
  obtain ⟨a, rfl, Q2, c2, k2⟩ := k1 _ _ hq
  refine E_aload_n (pc := 891) 2 dL_law_891 rfl rfl ?_
  refine E_aload_n (pc := 892) 0 dL_law_892 rfl rfl ?_
  refine E_iload_n (pc := 893) 3 dL_law_893 rfl rfl ?_
  refine E_iconst (pc := 894) (1) dL_law_894 (by decide) ?_
  refine E_iadd (pc := 895) dL_law_895 ?_
  refine E_ald_ro (pc := 896) dL_law_896 rfl (vin_s 1 rfl (by omega) hL) ?_
  refine E_aload_n (pc := 897) 0 dL_law_897 rfl rfl ?_
  refine E_iload_n (pc := 898) 3 dL_law_898 rfl rfl ?_
  refine E_iconst (pc := 899) (2) dL_law_899 (by decide) ?_
  refine E_iadd (pc := 900) dL_law_900 ?_
  refine E_ald_ro (pc := 901) dL_law_901 rfl (vin_s 2 rfl (by omega) hL) ?_
  refine E_callV (pc := 902) dL_law_902 c2 rfl kv_RL_109 rfl rfl rfl ⟨Nat.le_of_ble_eq_true rfl, Nat.le_of_ble_eq_true rfl, Nat.le_of_ble_eq_true rfl, Nat.le_of_ble_eq_true rfl⟩ (Nat.le_of_ble_eq_true rfl) ?_
  rintro r2 h2 hq2
  obtain ⟨rfl, hR⟩ := k2 _ _ hq2
  refine E_icmp_eq (pc := 905) 1533 dL_law_905 rfl (fun q905 => ?_) (fun q905 => absurd rfl q905)
  exact next _ hR
set_option maxHeartbeats 4000000 in
theorem law_22 {l : Launch} {G : GE} {L k : Nat} {xs : Nat → Int32} {h : Hp} (hL : L ≤ 3584) (hk : 7 * k + 7 ≤ L) (z : Rel h) (next : ∀ h2, Rel0 h2 → Ev l G mL_law (fkL G L xs) 1533 [some (vR g_script 0), some (vR g_oab 0), some (vR g_model 0), some (vI (nI (7 * k)))] [] h2) : Ev l G mL_law (fkL G L xs) 910 [some (vR g_script 0), some (vR g_oab 0), some (vR g_model 0), some (vI (nI (7 * k)))] [] h := by
  obtain ⟨Q1, c1, k1⟩ := @both_valley l G h z (xs (ixN (nI (7 * k) + 1))) (xs (ixN (nI (7 * k) + 2))) (xs (ixN (nI (7 * k) + 3)))
  refine E_aload_n (pc := 910) 1 dL_law_910 rfl rfl ?_
  refine E_aload_n (pc := 911) 0 dL_law_911 rfl rfl ?_
  refine E_iload_n (pc := 912) 3 dL_law_912 rfl rfl ?_
  refine E_iconst (pc := 913) (1) dL_law_913 (by decide) ?_
  refine E_iadd (pc := 914) dL_law_914 ?_
  refine E_ald_ro (pc := 915) dL_law_915 rfl (vin_s 1 rfl (by omega) hL) ?_
  refine E_aload_n (pc := 916) 0 dL_law_916 rfl rfl ?_
  refine E_iload_n (pc := 917) 3 dL_law_917 rfl rfl ?_
  refine E_iconst (pc := 918) (2) dL_law_918 (by decide) ?_
  refine E_iadd (pc := 919) dL_law_919 ?_
  refine E_ald_ro (pc := 920) dL_law_920 rfl (vin_s 2 rfl (by omega) hL) ?_
  refine E_aload_n (pc := 921) 0 dL_law_921 rfl rfl ?_
  refine E_iload_n (pc := 922) 3 dL_law_922 rfl rfl ?_
  refine E_iconst (pc := 923) (3) dL_law_923 (by decide) ?_
  refine E_iadd (pc := 924) dL_law_924 ?_
  refine E_ald_ro (pc := 925) dL_law_925 rfl (vin_s 3 rfl (by omega) hL) ?_
  refine E_callV (pc := 926) dL_law_926 c1 rfl kv_RL_110 rfl rfl rfl ⟨Nat.le_of_ble_eq_true rfl, Nat.le_of_ble_eq_true rfl, Nat.le_of_ble_eq_true rfl, Nat.le_of_ble_eq_true rfl⟩ (Nat.le_of_ble_eq_true rfl) ?_
  rintro r h1 hq
  obtain ⟨a, rfl, Q2, c2, k2⟩ := k1 _ _ hq
  refine E_aload_n (pc := 929) 2 dL_law_929 rfl rfl ?_
  refine E_aload_n (pc := 930) 0 dL_law_930 rfl rfl ?_
  refine E_iload_n (pc := 931) 3 dL_law_931 rfl rfl ?_
  refine E_iconst (pc := 932) (1) dL_law_932 (by decide) ?_
  refine E_iadd (pc := 933) dL_law_933 ?_
  refine E_ald_ro (pc := 934) dL_law_934 rfl (vin_s 1 rfl (by omega) hL) ?_
  refine E_aload_n (pc := 935) 0 dL_law_935 rfl rfl ?_
  refine E_iload_n (pc := 936) 3 dL_law_936 rfl rfl ?_
  refine E_iconst (pc := 937) (2) dL_law_937 (by decide) ?_
  refine E_iadd (pc := 938) dL_law_938 ?_
  refine E_ald_ro (pc := 939) dL_law_939 rfl (vin_s 2 rfl (by omega) hL) ?_
  refine E_aload_n (pc := 940) 0 dL_law_940 rfl rfl ?_
  refine E_iload_n (pc := 941) 3 dL_law_941 rfl rfl ?_
  refine E_iconst (pc := 942) (3) dL_law_942 (by decide) ?_
  refine E_iadd (pc := 943) dL_law_943 ?_
  refine E_ald_ro (pc := 944) dL_law_944 rfl (vin_s 3 rfl (by omega) hL) ?_
  refine E_callV (pc := 945) dL_law_945 c2 rfl kv_RL_113 rfl rfl rfl ⟨Nat.le_of_ble_eq_true rfl, Nat.le_of_ble_eq_true rfl, Nat.le_of_ble_eq_true rfl, Nat.le_of_ble_eq_true rfl⟩ (Nat.le_of_ble_eq_true rfl) ?_
  rintro r2 h2 hq2
  obtain ⟨rfl, hR⟩ := k2 _ _ hq2
  refine E_icmp_eq (pc := 948) 1533 dL_law_948 rfl (fun q948 => ?_) (fun q948 => absurd rfl q948)
  exact next _ hR
set_option maxHeartbeats 4000000 in
theorem law_23 {l : Launch} {G : GE} {L k : Nat} {xs : Nat → Int32} {h : Hp} (hL : L ≤ 3584) (hk : 7 * k + 7 ≤ L) (z : Rel h) (next : ∀ h2, Rel0 h2 → Ev l G mL_law (fkL G L xs) 1533 [some (vR g_script 0), some (vR g_oab 0), some (vR g_model 0), some (vI (nI (7 * k)))] [] h2) : Ev l G mL_law (fkL G L xs) 953 [some (vR g_script 0), some (vR g_oab 0), some (vR g_model 0), some (vI (nI (7 * k)))] [] h := by
  obtain ⟨Q1, c1, k1⟩ := @both_best l G h z (xs (ixN (nI (7 * k) + 1)))
  refine E_aload_n (pc := 953) 1 dL_law_953 rfl rfl ?_
  refine E_aload_n (pc := 954) 0 dL_law_954 rfl rfl ?_
  refine E_iload_n (pc := 955) 3 dL_law_955 rfl rfl ?_
  refine E_iconst (pc := 956) (1) dL_law_956 (by decide) ?_
  refine E_iadd (pc := 957) dL_law_957 ?_
  refine E_ald_ro (pc := 958) dL_law_958 rfl (vin_s 1 rfl (by omega) hL) ?_
  refine E_callV (pc := 959) dL_law_959 c1 rfl kv_RL_114 rfl rfl rfl ⟨Nat.le_of_ble_eq_true rfl, Nat.le_of_ble_eq_true rfl, Nat.le_of_ble_eq_true rfl, Nat.le_of_ble_eq_true rfl⟩ (Nat.le_of_ble_eq_true rfl) ?_
  rintro r h1 hq
  obtain ⟨a, rfl, Q2, c2, k2⟩ := k1 _ _ hq
  refine E_aload_n (pc := 962) 2 dL_law_962 rfl rfl ?_
  refine E_aload_n (pc := 963) 0 dL_law_963 rfl rfl ?_
  refine E_iload_n (pc := 964) 3 dL_law_964 rfl rfl ?_
  refine E_iconst (pc := 965) (1) dL_law_965 (by decide) ?_
  refine E_iadd (pc := 966) dL_law_966 ?_
  refine E_ald_ro (pc := 967) dL_law_967 rfl (vin_s 1 rfl (by omega) hL) ?_
  refine E_callV (pc := 968) dL_law_968 c2 rfl kv_RL_117 rfl rfl rfl ⟨Nat.le_of_ble_eq_true rfl, Nat.le_of_ble_eq_true rfl, Nat.le_of_ble_eq_true rfl, Nat.le_of_ble_eq_true rfl⟩ (Nat.le_of_ble_eq_true rfl) ?_
  rintro r2 h2 hq2
  obtain ⟨rfl, hR⟩ := k2 _ _ hq2
  refine E_icmp_eq (pc := 971) 1533 dL_law_971 rfl (fun q971 => ?_) (fun q971 => absurd rfl q971)
  exact next _ hR
set_option maxHeartbeats 4000000 in
theorem law_24 {l : Launch} {G : GE} {L k : Nat} {xs : Nat → Int32} {h : Hp} (hL : L ≤ 3584) (hk : 7 * k + 7 ≤ L) (z : Rel h) (next : ∀ h2, Rel0 h2 → Ev l G mL_law (fkL G L xs) 1533 [some (vR g_script 0), some (vR g_oab 0), some (vR g_model 0), some (vI (nI (7 * k)))] [] h2) : Ev l G mL_law (fkL G L xs) 976 [some (vR g_script 0), some (vR g_oab 0), some (vR g_model 0), some (vI (nI (7 * k)))] [] h := by
  obtain ⟨Q1, c1, k1⟩ := @both_suits l G h z (xs (ixN (nI (7 * k) + 1))) (xs (ixN (nI (7 * k) + 2)))
  refine E_aload_n (pc := 976) 1 dL_law_976 rfl rfl ?_
  refine E_aload_n (pc := 977) 0 dL_law_977 rfl rfl ?_
  refine E_iload_n (pc := 978) 3 dL_law_978 rfl rfl ?_
  refine E_iconst (pc := 979) (1) dL_law_979 (by decide) ?_
  refine E_iadd (pc := 980) dL_law_980 ?_
  refine E_ald_ro (pc := 981) dL_law_981 rfl (vin_s 1 rfl (by omega) hL) ?_
  refine E_aload_n (pc := 982) 0 dL_law_982 rfl rfl ?_
  refine E_iload_n (pc := 983) 3 dL_law_983 rfl rfl ?_
  refine E_iconst (pc := 984) (2) dL_law_984 (by decide) ?_
  refine E_iadd (pc := 985) dL_law_985 ?_
  refine E_ald_ro (pc := 986) dL_law_986 rfl (vin_s 2 rfl (by omega) hL) ?_
  refine E_callV (pc := 987) dL_law_987 c1 rfl kv_RL_118 rfl rfl rfl ⟨Nat.le_of_ble_eq_true rfl, Nat.le_of_ble_eq_true rfl, Nat.le_of_ble_eq_true rfl, Nat.le_of_ble_eq_true rfl⟩ (Nat.le_of_ble_eq_true rfl) ?_
  rintro r h1 hq
  obtain ⟨a, rfl, Q2, c2, k2⟩ := k1 _ _ hq
  refine E_aload_n (pc := 990) 2 dL_law_990 rfl rfl ?_
  refine E_aload_n (pc := 991) 0 dL_law_991 rfl rfl ?_
  refine E_iload_n (pc := 992) 3 dL_law_992 rfl rfl ?_
  refine E_iconst (pc := 993) (1) dL_law_993 (by decide) ?_
  refine E_iadd (pc := 994) dL_law_994 ?_
  refine E_ald_ro (pc := 995) dL_law_995 rfl (vin_s 1 rfl (by omega) hL) ?_
  refine E_aload_n (pc := 996) 0 dL_law_996 rfl rfl ?_
  refine E_iload_n (pc := 997) 3 dL_law_997 rfl rfl ?_
  refine E_iconst (pc := 998) (2) dL_law_998 (by decide) ?_
  refine E_iadd (pc := 999) dL_law_999 ?_
  refine E_ald_ro (pc := 1000) dL_law_1000 rfl (vin_s 2 rfl (by omega) hL) ?_
  refine E_callV (pc := 1001) dL_law_1001 c2 rfl kv_RL_121 rfl rfl rfl ⟨Nat.le_of_ble_eq_true rfl, Nat.le_of_ble_eq_true rfl, Nat.le_of_ble_eq_true rfl, Nat.le_of_ble_eq_true rfl⟩ (Nat.le_of_ble_eq_true rfl) ?_
  rintro r2 h2 hq2
  obtain ⟨rfl, hR⟩ := k2 _ _ hq2
  refine E_icmp_eq (pc := 1004) 1533 dL_law_1004 rfl (fun q1004 => ?_) (fun q1004 => absurd rfl q1004)
  exact next _ hR
set_option maxHeartbeats 4000000 in
theorem law_25 {l : Launch} {G : GE} {L k : Nat} {xs : Nat → Int32} {h : Hp} (hL : L ≤ 3584) (hk : 7 * k + 7 ≤ L) (z : Rel h) (next : ∀ h2, Rel0 h2 → Ev l G mL_law (fkL G L xs) 1533 [some (vR g_script 0), some (vR g_oab 0), some (vR g_model 0), some (vI (nI (7 * k)))] [] h2) : Ev l G mL_law (fkL G L xs) 1009 [some (vR g_script 0), some (vR g_oab 0), some (vR g_model 0), some (vI (nI (7 * k)))] [] h := by
  obtain ⟨Q1, c1, k1⟩ := @both_pays l G h z (xs (ixN (nI (7 * k) + 1))) (xs (ixN (nI (7 * k) + 2))) (xs (ixN (nI (7 * k) + 3))) (xs (ixN (nI (7 * k) + 4)))
  refine E_aload_n (pc := 1009) 1 dL_law_1009 rfl rfl ?_
  refine E_aload_n (pc := 1010) 0 dL_law_1010 rfl rfl ?_
  refine E_iload_n (pc := 1011) 3 dL_law_1011 rfl rfl ?_
  refine E_iconst (pc := 1012) (1) dL_law_1012 (by decide) ?_
  refine E_iadd (pc := 1013) dL_law_1013 ?_
  refine E_ald_ro (pc := 1014) dL_law_1014 rfl (vin_s 1 rfl (by omega) hL) ?_
  refine E_aload_n (pc := 1015) 0 dL_law_1015 rfl rfl ?_
  refine E_iload_n (pc := 1016) 3 dL_law_1016 rfl rfl ?_
  refine E_iconst (pc := 1017) (2) dL_law_1017 (by decide) ?_
  refine E_iadd (pc := 1018) dL_law_1018 ?_
  refine E_ald_ro (pc := 1019) dL_law_1019 rfl (vin_s 2 rfl (by omega) hL) ?_
  refine E_aload_n (pc := 1020) 0 dL_law_1020 rfl rfl ?_
  refine E_iload_n (pc := 1021) 3 dL_law_1021 rfl rfl ?_
  refine E_iconst (pc := 1022) (3) dL_law_1022 (by decide) ?_
  refine E_iadd (pc := 1023) dL_law_1023 ?_
  refine E_ald_ro (pc := 1024) dL_law_1024 rfl (vin_s 3 rfl (by omega) hL) ?_
  refine E_aload_n (pc := 1025) 0 dL_law_1025 rfl rfl ?_
  refine E_iload_n (pc := 1026) 3 dL_law_1026 rfl rfl ?_
  refine E_iconst (pc := 1027) (4) dL_law_1027 (by decide) ?_
  refine E_iadd (pc := 1028) dL_law_1028 ?_
  refine E_ald_ro (pc := 1029) dL_law_1029 rfl (vin_s 4 rfl (by omega) hL) ?_
  refine E_callV (pc := 1030) dL_law_1030 c1 rfl kv_RL_122 rfl rfl rfl ⟨Nat.le_of_ble_eq_true rfl, Nat.le_of_ble_eq_true rfl, Nat.le_of_ble_eq_true rfl, Nat.le_of_ble_eq_true rfl⟩ (Nat.le_of_ble_eq_true rfl) ?_
  rintro r h1 hq
  obtain ⟨a, rfl, Q2, c2, k2⟩ := k1 _ _ hq
  refine E_aload_n (pc := 1033) 2 dL_law_1033 rfl rfl ?_
  refine E_aload_n (pc := 1034) 0 dL_law_1034 rfl rfl ?_
  refine E_iload_n (pc := 1035) 3 dL_law_1035 rfl rfl ?_
  refine E_iconst (pc := 1036) (1) dL_law_1036 (by decide) ?_
  refine E_iadd (pc := 1037) dL_law_1037 ?_
  refine E_ald_ro (pc := 1038) dL_law_1038 rfl (vin_s 1 rfl (by omega) hL) ?_
  refine E_aload_n (pc := 1039) 0 dL_law_1039 rfl rfl ?_
  refine E_iload_n (pc := 1040) 3 dL_law_1040 rfl rfl ?_
  refine E_iconst (pc := 1041) (2) dL_law_1041 (by decide) ?_
  refine E_iadd (pc := 1042) dL_law_1042 ?_
  refine E_ald_ro (pc := 1043) dL_law_1043 rfl (vin_s 2 rfl (by omega) hL) ?_
  refine E_aload_n (pc := 1044) 0 dL_law_1044 rfl rfl ?_
  refine E_iload_n (pc := 1045) 3 dL_law_1045 rfl rfl ?_
  refine E_iconst (pc := 1046) (3) dL_law_1046 (by decide) ?_
  refine E_iadd (pc := 1047) dL_law_1047 ?_
  refine E_ald_ro (pc := 1048) dL_law_1048 rfl (vin_s 3 rfl (by omega) hL) ?_
  refine E_aload_n (pc := 1049) 0 dL_law_1049 rfl rfl ?_
  refine E_iload_n (pc := 1050) 3 dL_law_1050 rfl rfl ?_
  refine E_iconst (pc := 1051) (4) dL_law_1051 (by decide) ?_
  refine E_iadd (pc := 1052) dL_law_1052 ?_
  refine E_ald_ro (pc := 1053) dL_law_1053 rfl (vin_s 4 rfl (by omega) hL) ?_
  refine E_callV (pc := 1054) dL_law_1054 c2 rfl kv_RL_125 rfl rfl rfl ⟨Nat.le_of_ble_eq_true rfl, Nat.le_of_ble_eq_true rfl, Nat.le_of_ble_eq_true rfl, Nat.le_of_ble_eq_true rfl⟩ (Nat.le_of_ble_eq_true rfl) ?_
  rintro r2 h2 hq2
  obtain ⟨rfl, hR⟩ := k2 _ _ hq2
  refine E_icmp_eq (pc := 1057) 1533 dL_law_1057 rfl (fun q1057 => ?_) (fun q1057 => absurd rfl q1057)
  exact next _ hR
set_option maxHeartbeats 4000000 in
theorem law_26 {l : Launch} {G : GE} {L k : Nat} {xs : Nat → Int32} {h : Hp} (hL : L ≤ 3584) (hk : 7 * k + 7 ≤ L) (z : Rel h) (next : ∀ h2, Rel0 h2 → Ev l G mL_law (fkL G L xs) 1533 [some (vR g_script 0), some (vR g_oab 0), some (vR g_model 0), some (vI (nI (7 * k)))] [] h2) : Ev l G mL_law (fkL G L xs) 1062 [some (vR g_script 0), some (vR g_oab 0), some (vR g_model 0), some (vI (nI (7 * k)))] [] h := by
  obtain ⟨Q1, c1, k1⟩ := @both_jumper l G h z (xs (ixN (nI (7 * k) + 1)))
  refine E_aload_n (pc := 1062) 1 dL_law_1062 rfl rfl ?_
  refine E_aload_n (pc := 1063) 0 dL_law_1063 rfl rfl ?_
  refine E_iload_n (pc := 1064) 3 dL_law_1064 rfl rfl ?_
  refine E_iconst (pc := 1065) (1) dL_law_1065 (by decide) ?_
  refine E_iadd (pc := 1066) dL_law_1066 ?_
  refine E_ald_ro (pc := 1067) dL_law_1067 rfl (vin_s 1 rfl (by omega) hL) ?_
  refine E_callV (pc := 1068) dL_law_1068 c1 rfl kv_RL_126 rfl rfl rfl ⟨Nat.le_of_ble_eq_true rfl, Nat.le_of_ble_eq_true rfl, Nat.le_of_ble_eq_true rfl, Nat.le_of_ble_eq_true rfl⟩ (Nat.le_of_ble_eq_true rfl) ?_
  rintro r h1 hq
  obtain ⟨a, rfl, Q2, c2, k2⟩ := k1 _ _ hq
  refine E_aload_n (pc := 1071) 2 dL_law_1071 rfl rfl ?_
  refine E_aload_n (pc := 1072) 0 dL_law_1072 rfl rfl ?_
  refine E_iload_n (pc := 1073) 3 dL_law_1073 rfl rfl ?_
  refine E_iconst (pc := 1074) (1) dL_law_1074 (by decide) ?_
  refine E_iadd (pc := 1075) dL_law_1075 ?_
  refine E_ald_ro (pc := 1076) dL_law_1076 rfl (vin_s 1 rfl (by omega) hL) ?_
  refine E_callV (pc := 1077) dL_law_1077 c2 rfl kv_RL_129 rfl rfl rfl ⟨Nat.le_of_ble_eq_true rfl, Nat.le_of_ble_eq_true rfl, Nat.le_of_ble_eq_true rfl, Nat.le_of_ble_eq_true rfl⟩ (Nat.le_of_ble_eq_true rfl) ?_
  rintro r2 h2 hq2
  obtain ⟨rfl, hR⟩ := k2 _ _ hq2
  refine E_icmp_eq (pc := 1080) 1533 dL_law_1080 rfl (fun q1080 => ?_) (fun q1080 => absurd rfl q1080)
  exact next _ hR
set_option maxHeartbeats 4000000 in
theorem law_27 {l : Launch} {G : GE} {L k : Nat} {xs : Nat → Int32} {h : Hp} (hL : L ≤ 3584) (hk : 7 * k + 7 ≤ L) (z : Rel h) (next : ∀ h2, Rel0 h2 → Ev l G mL_law (fkL G L xs) 1533 [some (vR g_script 0), some (vR g_oab 0), some (vR g_model 0), some (vI (nI (7 * k)))] [] h2) : Ev l G mL_law (fkL G L xs) 1085 [some (vR g_script 0), some (vR g_oab 0), some (vR g_model 0), some (vI (nI (7 * k)))] [] h := by
  obtain ⟨Q1, c1, k1⟩ := @both_takes l G h z (xs (ixN (nI (7 * k) + 1))) (xs (ixN (nI (7 * k) + 2)))
  refine E_aload_n (pc := 1085) 1 dL_law_1085 rfl rfl ?_
  refine E_aload_n (pc := 1086) 0 dL_law_1086 rfl rfl ?_
  refine E_iload_n (pc := 1087) 3 dL_law_1087 rfl rfl ?_
  refine E_iconst (pc := 1088) (1) dL_law_1088 (by decide) ?_
  refine E_iadd (pc := 1089) dL_law_1089 ?_
  refine E_ald_ro (pc := 1090) dL_law_1090 rfl (vin_s 1 rfl (by omega) hL) ?_
  refine E_aload_n (pc := 1091) 0 dL_law_1091 rfl rfl ?_
  refine E_iload_n (pc := 1092) 3 dL_law_1092 rfl rfl ?_
  refine E_iconst (pc := 1093) (2) dL_law_1093 (by decide) ?_
  refine E_iadd (pc := 1094) dL_law_1094 ?_
  refine E_ald_ro (pc := 1095) dL_law_1095 rfl (vin_s 2 rfl (by omega) hL) ?_
  refine E_callV (pc := 1096) dL_law_1096 c1 rfl kv_RL_130 rfl rfl rfl ⟨Nat.le_of_ble_eq_true rfl, Nat.le_of_ble_eq_true rfl, Nat.le_of_ble_eq_true rfl, Nat.le_of_ble_eq_true rfl⟩ (Nat.le_of_ble_eq_true rfl) ?_
  rintro r h1 hq
  obtain ⟨a, rfl, Q2, c2, k2⟩ := k1 _ _ hq
  refine E_aload_n (pc := 1099) 2 dL_law_1099 rfl rfl ?_
  refine E_aload_n (pc := 1100) 0 dL_law_1100 rfl rfl ?_
  refine E_iload_n (pc := 1101) 3 dL_law_1101 rfl rfl ?_
  refine E_iconst (pc := 1102) (1) dL_law_1102 (by decide) ?_
  refine E_iadd (pc := 1103) dL_law_1103 ?_
  refine E_ald_ro (pc := 1104) dL_law_1104 rfl (vin_s 1 rfl (by omega) hL) ?_
  refine E_aload_n (pc := 1105) 0 dL_law_1105 rfl rfl ?_
  refine E_iload_n (pc := 1106) 3 dL_law_1106 rfl rfl ?_
  refine E_iconst (pc := 1107) (2) dL_law_1107 (by decide) ?_
  refine E_iadd (pc := 1108) dL_law_1108 ?_
  refine E_ald_ro (pc := 1109) dL_law_1109 rfl (vin_s 2 rfl (by omega) hL) ?_
  refine E_callV (pc := 1110) dL_law_1110 c2 rfl kv_RL_133 rfl rfl rfl ⟨Nat.le_of_ble_eq_true rfl, Nat.le_of_ble_eq_true rfl, Nat.le_of_ble_eq_true rfl, Nat.le_of_ble_eq_true rfl⟩ (Nat.le_of_ble_eq_true rfl) ?_
  rintro r2 h2 hq2
  obtain ⟨rfl, hR⟩ := k2 _ _ hq2
  refine E_icmp_eq (pc := 1113) 1533 dL_law_1113 rfl (fun q1113 => ?_) (fun q1113 => absurd rfl q1113)
  exact next _ hR
set_option maxHeartbeats 4000000 in
theorem law_28 {l : Launch} {G : GE} {L k : Nat} {xs : Nat → Int32} {h : Hp} (hL : L ≤ 3584) (hk : 7 * k + 7 ≤ L) (z : Rel h) (next : ∀ h2, Rel0 h2 → Ev l G mL_law (fkL G L xs) 1533 [some (vR g_script 0), some (vR g_oab 0), some (vR g_model 0), some (vI (nI (7 * k)))] [] h2) : Ev l G mL_law (fkL G L xs) 1118 [some (vR g_script 0), some (vR g_oab 0), some (vR g_model 0), some (vI (nI (7 * k)))] [] h := by
  obtain ⟨Q1, c1, k1⟩ := @both_years l G h z (xs (ixN (nI (7 * k) + 1)))
  refine E_aload_n (pc := 1118) 1 dL_law_1118 rfl rfl ?_
  refine E_aload_n (pc := 1119) 0 dL_law_1119 rfl rfl ?_
  refine E_iload_n (pc := 1120) 3 dL_law_1120 rfl rfl ?_
  refine E_iconst (pc := 1121) (1) dL_law_1121 (by decide) ?_
  refine E_iadd (pc := 1122) dL_law_1122 ?_
  refine E_ald_ro (pc := 1123) dL_law_1123 rfl (vin_s 1 rfl (by omega) hL) ?_
  refine E_callV (pc := 1124) dL_law_1124 c1 rfl kv_RL_134 rfl rfl rfl ⟨Nat.le_of_ble_eq_true rfl, Nat.le_of_ble_eq_true rfl, Nat.le_of_ble_eq_true rfl, Nat.le_of_ble_eq_true rfl⟩ (Nat.le_of_ble_eq_true rfl) ?_
  rintro r h1 hq
  obtain ⟨a, rfl, Q2, c2, k2⟩ := k1 _ _ hq
  refine E_aload_n (pc := 1127) 2 dL_law_1127 rfl rfl ?_
  refine E_aload_n (pc := 1128) 0 dL_law_1128 rfl rfl ?_
  refine E_iload_n (pc := 1129) 3 dL_law_1129 rfl rfl ?_
  refine E_iconst (pc := 1130) (1) dL_law_1130 (by decide) ?_
  refine E_iadd (pc := 1131) dL_law_1131 ?_
  refine E_ald_ro (pc := 1132) dL_law_1132 rfl (vin_s 1 rfl (by omega) hL) ?_
  refine E_callV (pc := 1133) dL_law_1133 c2 rfl kv_RL_137 rfl rfl rfl ⟨Nat.le_of_ble_eq_true rfl, Nat.le_of_ble_eq_true rfl, Nat.le_of_ble_eq_true rfl, Nat.le_of_ble_eq_true rfl⟩ (Nat.le_of_ble_eq_true rfl) ?_
  rintro r2 h2 hq2
  obtain ⟨rfl, hR⟩ := k2 _ _ hq2
  refine E_icmp_eq (pc := 1136) 1533 dL_law_1136 rfl (fun q1136 => ?_) (fun q1136 => absurd rfl q1136)
  exact next _ hR
set_option maxHeartbeats 4000000 in
theorem law_29 {l : Launch} {G : GE} {L k : Nat} {xs : Nat → Int32} {h : Hp} (hL : L ≤ 3584) (hk : 7 * k + 7 ≤ L) (z : Rel h) (next : ∀ h2, Rel0 h2 → Ev l G mL_law (fkL G L xs) 1533 [some (vR g_script 0), some (vR g_oab 0), some (vR g_model 0), some (vI (nI (7 * k)))] [] h2) : Ev l G mL_law (fkL G L xs) 1141 [some (vR g_script 0), some (vR g_oab 0), some (vR g_model 0), some (vI (nI (7 * k)))] [] h := by
  obtain ⟨Q1, c1, k1⟩ := @both_who l G h z (xs (ixN (nI (7 * k) + 1)))
  refine E_aload_n (pc := 1141) 1 dL_law_1141 rfl rfl ?_
  refine E_aload_n (pc := 1142) 0 dL_law_1142 rfl rfl ?_
  refine E_iload_n (pc := 1143) 3 dL_law_1143 rfl rfl ?_
  refine E_iconst (pc := 1144) (1) dL_law_1144 (by decide) ?_
  refine E_iadd (pc := 1145) dL_law_1145 ?_
  refine E_ald_ro (pc := 1146) dL_law_1146 rfl (vin_s 1 rfl (by omega) hL) ?_
  refine E_callV (pc := 1147) dL_law_1147 c1 rfl kv_RL_138 rfl rfl rfl ⟨Nat.le_of_ble_eq_true rfl, Nat.le_of_ble_eq_true rfl, Nat.le_of_ble_eq_true rfl, Nat.le_of_ble_eq_true rfl⟩ (Nat.le_of_ble_eq_true rfl) ?_
  rintro r h1 hq
  obtain ⟨a, rfl, Q2, c2, k2⟩ := k1 _ _ hq
  refine E_aload_n (pc := 1150) 2 dL_law_1150 rfl rfl ?_
  refine E_aload_n (pc := 1151) 0 dL_law_1151 rfl rfl ?_
  refine E_iload_n (pc := 1152) 3 dL_law_1152 rfl rfl ?_
  refine E_iconst (pc := 1153) (1) dL_law_1153 (by decide) ?_
  refine E_iadd (pc := 1154) dL_law_1154 ?_
  refine E_ald_ro (pc := 1155) dL_law_1155 rfl (vin_s 1 rfl (by omega) hL) ?_
  refine E_callV (pc := 1156) dL_law_1156 c2 rfl kv_RL_141 rfl rfl rfl ⟨Nat.le_of_ble_eq_true rfl, Nat.le_of_ble_eq_true rfl, Nat.le_of_ble_eq_true rfl, Nat.le_of_ble_eq_true rfl⟩ (Nat.le_of_ble_eq_true rfl) ?_
  rintro r2 h2 hq2
  obtain ⟨rfl, hR⟩ := k2 _ _ hq2
  refine E_icmp_eq (pc := 1159) 1533 dL_law_1159 rfl (fun q1159 => ?_) (fun q1159 => absurd rfl q1159)
  exact next _ hR
set_option maxHeartbeats 4000000 in
theorem law_30 {l : Launch} {G : GE} {L k : Nat} {xs : Nat → Int32} {h : Hp} (hL : L ≤ 3584) (hk : 7 * k + 7 ≤ L) (z : Rel h) (next : ∀ h2, Rel0 h2 → Ev l G mL_law (fkL G L xs) 1533 [some (vR g_script 0), some (vR g_oab 0), some (vR g_model 0), some (vI (nI (7 * k)))] [] h2) : Ev l G mL_law (fkL G L xs) 1164 [some (vR g_script 0), some (vR g_oab 0), some (vR g_model 0), some (vI (nI (7 * k)))] [] h := by
  obtain ⟨Q1, c1, k1⟩ := @both_all l G h z 
  refine E_aload_n (pc := 1164) 1 dL_law_1164 rfl rfl ?_
  refine E_callV (pc := 1165) dL_law_1165 c1 rfl kv_RL_142 rfl rfl rfl ⟨Nat.le_of_ble_eq_true rfl, Nat.le_of_ble_eq_true rfl, Nat.le_of_ble_eq_true rfl, Nat.le_of_ble_eq_true rfl⟩ (Nat.le_of_ble_eq_true rfl) ?_
  rintro r h1 hq
  obtain ⟨a, rfl, Q2, c2, k2⟩ := k1 _ _ hq
  refine E_aload_n (pc := 1168) 2 dL_law_1168 rfl rfl ?_
  refine E_callV (pc := 1169) dL_law_1169 c2 rfl kv_RL_145 rfl rfl rfl ⟨Nat.le_of_ble_eq_true rfl, Nat.le_of_ble_eq_true rfl, Nat.le_of_ble_eq_true rfl, Nat.le_of_ble_eq_true rfl⟩ (Nat.le_of_ble_eq_true rfl) ?_
  rintro r2 h2 hq2
  obtain ⟨rfl, hR⟩ := k2 _ _ hq2
  refine E_icmp_eq (pc := 1172) 1533 dL_law_1172 rfl (fun q1172 => ?_) (fun q1172 => absurd rfl q1172)
  exact next _ hR
set_option maxHeartbeats 4000000 in
theorem law_31 {l : Launch} {G : GE} {L k : Nat} {xs : Nat → Int32} {h : Hp} (hL : L ≤ 3584) (hk : 7 * k + 7 ≤ L) (z : Rel h) (next : ∀ h2, Rel0 h2 → Ev l G mL_law (fkL G L xs) 1533 [some (vR g_script 0), some (vR g_oab 0), some (vR g_model 0), some (vI (nI (7 * k)))] [] h2) : Ev l G mL_law (fkL G L xs) 1177 [some (vR g_script 0), some (vR g_oab 0), some (vR g_model 0), some (vI (nI (7 * k)))] [] h := by
  obtain ⟨Q1, c1, k1⟩ := @both_odd l G h z (xs (ixN (nI (7 * k) + 1))) (xs (ixN (nI (7 * k) + 2))) (xs (ixN (nI (7 * k) + 3)))
  refine E_aload_n (pc := 1177) 1 dL_law_1177 rfl rfl ?_
  refine E_aload_n (pc := 1178) 0 dL_law_1178 rfl rfl ?_
  refine E_iload_n (pc := 1179) 3 dL_law_1179 rfl rfl ?_
  refine E_iconst (pc := 1180) (1) dL_law_1180 (by decide) ?_
  refine E_iadd (pc := 1181) dL_law_1181 ?_
  refine E_ald_ro (pc := 1182) dL_law_1182 rfl (vin_s 1 rfl (by omega) hL) ?_
  refine E_aload_n (pc := 1183) 0 dL_law_1183 rfl rfl ?_
  refine E_iload_n (pc := 1184) 3 dL_law_1184 rfl rfl ?_
  refine E_iconst (pc := 1185) (2) dL_law_1185 (by decide) ?_
  refine E_iadd (pc := 1186) dL_law_1186 ?_
  refine E_ald_ro (pc := 1187) dL_law_1187 rfl (vin_s 2 rfl (by omega) hL) ?_
  refine E_aload_n (pc := 1188) 0 dL_law_1188 rfl rfl ?_
  refine E_iload_n (pc := 1189) 3 dL_law_1189 rfl rfl ?_
  refine E_iconst (pc := 1190) (3) dL_law_1190 (by decide) ?_
  refine E_iadd (pc := 1191) dL_law_1191 ?_
  refine E_ald_ro (pc := 1192) dL_law_1192 rfl (vin_s 3 rfl (by omega) hL) ?_
  refine E_callV (pc := 1193) dL_law_1193 c1 rfl kv_RL_146 rfl rfl rfl ⟨Nat.le_of_ble_eq_true rfl, Nat.le_of_ble_eq_true rfl, Nat.le_of_ble_eq_true rfl, Nat.le_of_ble_eq_true rfl⟩ (Nat.le_of_ble_eq_true rfl) ?_
  rintro r h1 hq
  obtain ⟨a, rfl, Q2, c2, k2⟩ := k1 _ _ hq
  refine E_aload_n (pc := 1196) 2 dL_law_1196 rfl rfl ?_
  refine E_aload_n (pc := 1197) 0 dL_law_1197 rfl rfl ?_
  refine E_iload_n (pc := 1198) 3 dL_law_1198 rfl rfl ?_
  refine E_iconst (pc := 1199) (1) dL_law_1199 (by decide) ?_
  refine E_iadd (pc := 1200) dL_law_1200 ?_
  refine E_ald_ro (pc := 1201) dL_law_1201 rfl (vin_s 1 rfl (by omega) hL) ?_
  refine E_aload_n (pc := 1202) 0 dL_law_1202 rfl rfl ?_
  refine E_iload_n (pc := 1203) 3 dL_law_1203 rfl rfl ?_
  refine E_iconst (pc := 1204) (2) dL_law_1204 (by decide) ?_
  refine E_iadd (pc := 1205) dL_law_1205 ?_
  refine E_ald_ro (pc := 1206) dL_law_1206 rfl (vin_s 2 rfl (by omega) hL) ?_
  refine E_aload_n (pc := 1207) 0 dL_law_1207 rfl rfl ?_
  refine E_iload_n (pc := 1208) 3 dL_law_1208 rfl rfl ?_
  refine E_iconst (pc := 1209) (3) dL_law_1209 (by decide) ?_
  refine E_iadd (pc := 1210) dL_law_1210 ?_
  refine E_ald_ro (pc := 1211) dL_law_1211 rfl (vin_s 3 rfl (by omega) hL) ?_
  refine E_callV (pc := 1212) dL_law_1212 c2 rfl kv_RL_149 rfl rfl rfl ⟨Nat.le_of_ble_eq_true rfl, Nat.le_of_ble_eq_true rfl, Nat.le_of_ble_eq_true rfl, Nat.le_of_ble_eq_true rfl⟩ (Nat.le_of_ble_eq_true rfl) ?_
  rintro r2 h2 hq2
  obtain ⟨rfl, hR⟩ := k2 _ _ hq2
  refine E_icmp_eq (pc := 1215) 1533 dL_law_1215 rfl (fun q1215 => ?_) (fun q1215 => absurd rfl q1215)
  exact next _ hR
set_option maxHeartbeats 4000000 in
theorem law_32 {l : Launch} {G : GE} {L k : Nat} {xs : Nat → Int32} {h : Hp} (hL : L ≤ 3584) (hk : 7 * k + 7 ≤ L) (z : Rel h) (next : ∀ h2, Rel0 h2 → Ev l G mL_law (fkL G L xs) 1533 [some (vR g_script 0), some (vR g_oab 0), some (vR g_model 0), some (vI (nI (7 * k)))] [] h2) : Ev l G mL_law (fkL G L xs) 1220 [some (vR g_script 0), some (vR g_oab 0), some (vR g_model 0), some (vI (nI (7 * k)))] [] h := by
  obtain ⟨Q1, c1, k1⟩ := @both_odds l G h z (xs (ixN (nI (7 * k) + 1))) (xs (ixN (nI (7 * k) + 2))) (xs (ixN (nI (7 * k) + 3))) (xs (ixN (nI (7 * k) + 4))) (xs (ixN (nI (7 * k) + 5)))
  refine E_aload_n (pc := 1220) 1 dL_law_1220 rfl rfl ?_
  refine E_aload_n (pc := 1221) 0 dL_law_1221 rfl rfl ?_
  refine E_iload_n (pc := 1222) 3 dL_law_1222 rfl rfl ?_
  refine E_iconst (pc := 1223) (1) dL_law_1223 (by decide) ?_
  refine E_iadd (pc := 1224) dL_law_1224 ?_
  refine E_ald_ro (pc := 1225) dL_law_1225 rfl (vin_s 1 rfl (by omega) hL) ?_
  refine E_aload_n (pc := 1226) 0 dL_law_1226 rfl rfl ?_
  refine E_iload_n (pc := 1227) 3 dL_law_1227 rfl rfl ?_
  refine E_iconst (pc := 1228) (2) dL_law_1228 (by decide) ?_
  refine E_iadd (pc := 1229) dL_law_1229 ?_
  refine E_ald_ro (pc := 1230) dL_law_1230 rfl (vin_s 2 rfl (by omega) hL) ?_
  refine E_aload_n (pc := 1231) 0 dL_law_1231 rfl rfl ?_
  refine E_iload_n (pc := 1232) 3 dL_law_1232 rfl rfl ?_
  refine E_iconst (pc := 1233) (3) dL_law_1233 (by decide) ?_
  refine E_iadd (pc := 1234) dL_law_1234 ?_
  refine E_ald_ro (pc := 1235) dL_law_1235 rfl (vin_s 3 rfl (by omega) hL) ?_
  refine E_aload_n (pc := 1236) 0 dL_law_1236 rfl rfl ?_
  refine E_iload_n (pc := 1237) 3 dL_law_1237 rfl rfl ?_
  refine E_iconst (pc := 1238) (4) dL_law_1238 (by decide) ?_
  refine E_iadd (pc := 1239) dL_law_1239 ?_
  refine E_ald_ro (pc := 1240) dL_law_1240 rfl (vin_s 4 rfl (by omega) hL) ?_
  refine E_aload_n (pc := 1241) 0 dL_law_1241 rfl rfl ?_
  refine E_iload_n (pc := 1242) 3 dL_law_1242 rfl rfl ?_
  refine E_iconst (pc := 1243) (5) dL_law_1243 (by decide) ?_
  refine E_iadd (pc := 1244) dL_law_1244 ?_
  refine E_ald_ro (pc := 1245) dL_law_1245 rfl (vin_s 5 rfl (by omega) hL) ?_
  refine E_callV (pc := 1246) dL_law_1246 c1 rfl kv_RL_150 rfl rfl rfl ⟨Nat.le_of_ble_eq_true rfl, Nat.le_of_ble_eq_true rfl, Nat.le_of_ble_eq_true rfl, Nat.le_of_ble_eq_true rfl⟩ (Nat.le_of_ble_eq_true rfl) ?_
  rintro r h1 hq
  obtain ⟨a, rfl, Q2, c2, k2⟩ := k1 _ _ hq
  refine E_aload_n (pc := 1249) 2 dL_law_1249 rfl rfl ?_
  refine E_aload_n (pc := 1250) 0 dL_law_1250 rfl rfl ?_
  refine E_iload_n (pc := 1251) 3 dL_law_1251 rfl rfl ?_
  refine E_iconst (pc := 1252) (1) dL_law_1252 (by decide) ?_
  refine E_iadd (pc := 1253) dL_law_1253 ?_
  refine E_ald_ro (pc := 1254) dL_law_1254 rfl (vin_s 1 rfl (by omega) hL) ?_
  refine E_aload_n (pc := 1255) 0 dL_law_1255 rfl rfl ?_
  refine E_iload_n (pc := 1256) 3 dL_law_1256 rfl rfl ?_
  refine E_iconst (pc := 1257) (2) dL_law_1257 (by decide) ?_
  refine E_iadd (pc := 1258) dL_law_1258 ?_
  refine E_ald_ro (pc := 1259) dL_law_1259 rfl (vin_s 2 rfl (by omega) hL) ?_
  refine E_aload_n (pc := 1260) 0 dL_law_1260 rfl rfl ?_
  refine E_iload_n (pc := 1261) 3 dL_law_1261 rfl rfl ?_
  refine E_iconst (pc := 1262) (3) dL_law_1262 (by decide) ?_
  refine E_iadd (pc := 1263) dL_law_1263 ?_
  refine E_ald_ro (pc := 1264) dL_law_1264 rfl (vin_s 3 rfl (by omega) hL) ?_
  refine E_aload_n (pc := 1265) 0 dL_law_1265 rfl rfl ?_
  refine E_iload_n (pc := 1266) 3 dL_law_1266 rfl rfl ?_
  refine E_iconst (pc := 1267) (4) dL_law_1267 (by decide) ?_
  refine E_iadd (pc := 1268) dL_law_1268 ?_
  refine E_ald_ro (pc := 1269) dL_law_1269 rfl (vin_s 4 rfl (by omega) hL) ?_
  refine E_aload_n (pc := 1270) 0 dL_law_1270 rfl rfl ?_
  refine E_iload_n (pc := 1271) 3 dL_law_1271 rfl rfl ?_
  refine E_iconst (pc := 1272) (5) dL_law_1272 (by decide) ?_
  refine E_iadd (pc := 1273) dL_law_1273 ?_
  refine E_ald_ro (pc := 1274) dL_law_1274 rfl (vin_s 5 rfl (by omega) hL) ?_
  refine E_callV (pc := 1275) dL_law_1275 c2 rfl kv_RL_153 rfl rfl rfl ⟨Nat.le_of_ble_eq_true rfl, Nat.le_of_ble_eq_true rfl, Nat.le_of_ble_eq_true rfl, Nat.le_of_ble_eq_true rfl⟩ (Nat.le_of_ble_eq_true rfl) ?_
  rintro r2 h2 hq2
  obtain ⟨rfl, hR⟩ := k2 _ _ hq2
  refine E_icmp_eq (pc := 1278) 1533 dL_law_1278 rfl (fun q1278 => ?_) (fun q1278 => absurd rfl q1278)
  exact next _ hR
set_option maxHeartbeats 4000000 in
theorem law_33 {l : Launch} {G : GE} {L k : Nat} {xs : Nat → Int32} {h : Hp} (hL : L ≤ 3584) (hk : 7 * k + 7 ≤ L) (z : Rel h) (next : ∀ h2, Rel0 h2 → Ev l G mL_law (fkL G L xs) 1533 [some (vR g_script 0), some (vR g_oab 0), some (vR g_model 0), some (vI (nI (7 * k)))] [] h2) : Ev l G mL_law (fkL G L xs) 1283 [some (vR g_script 0), some (vR g_oab 0), some (vR g_model 0), some (vI (nI (7 * k)))] [] h := by
  obtain ⟨Q1, c1, k1⟩ := @both_asks l G h z (xs (ixN (nI (7 * k) + 1))) (xs (ixN (nI (7 * k) + 2))) (xs (ixN (nI (7 * k) + 3))) (xs (ixN (nI (7 * k) + 4)))
  refine E_aload_n (pc := 1283) 1 dL_law_1283 rfl rfl ?_
  refine E_aload_n (pc := 1284) 0 dL_law_1284 rfl rfl ?_
  refine E_iload_n (pc := 1285) 3 dL_law_1285 rfl rfl ?_
  refine E_iconst (pc := 1286) (1) dL_law_1286 (by decide) ?_
  refine E_iadd (pc := 1287) dL_law_1287 ?_
  refine E_ald_ro (pc := 1288) dL_law_1288 rfl (vin_s 1 rfl (by omega) hL) ?_
  refine E_aload_n (pc := 1289) 0 dL_law_1289 rfl rfl ?_
  refine E_iload_n (pc := 1290) 3 dL_law_1290 rfl rfl ?_
  refine E_iconst (pc := 1291) (2) dL_law_1291 (by decide) ?_
  refine E_iadd (pc := 1292) dL_law_1292 ?_
  refine E_ald_ro (pc := 1293) dL_law_1293 rfl (vin_s 2 rfl (by omega) hL) ?_
  refine E_aload_n (pc := 1294) 0 dL_law_1294 rfl rfl ?_
  refine E_iload_n (pc := 1295) 3 dL_law_1295 rfl rfl ?_
  refine E_iconst (pc := 1296) (3) dL_law_1296 (by decide) ?_
  refine E_iadd (pc := 1297) dL_law_1297 ?_
  refine E_ald_ro (pc := 1298) dL_law_1298 rfl (vin_s 3 rfl (by omega) hL) ?_
  refine E_aload_n (pc := 1299) 0 dL_law_1299 rfl rfl ?_
  refine E_iload_n (pc := 1300) 3 dL_law_1300 rfl rfl ?_
  refine E_iconst (pc := 1301) (4) dL_law_1301 (by decide) ?_
  refine E_iadd (pc := 1302) dL_law_1302 ?_
  refine E_ald_ro (pc := 1303) dL_law_1303 rfl (vin_s 4 rfl (by omega) hL) ?_
  refine E_callV (pc := 1304) dL_law_1304 c1 rfl kv_RL_154 rfl rfl rfl ⟨Nat.le_of_ble_eq_true rfl, Nat.le_of_ble_eq_true rfl, Nat.le_of_ble_eq_true rfl, Nat.le_of_ble_eq_true rfl⟩ (Nat.le_of_ble_eq_true rfl) ?_
  rintro r h1 hq
  obtain ⟨a, rfl, Q2, c2, k2⟩ := k1 _ _ hq
  refine E_aload_n (pc := 1307) 2 dL_law_1307 rfl rfl ?_
  refine E_aload_n (pc := 1308) 0 dL_law_1308 rfl rfl ?_
  refine E_iload_n (pc := 1309) 3 dL_law_1309 rfl rfl ?_
  refine E_iconst (pc := 1310) (1) dL_law_1310 (by decide) ?_
  refine E_iadd (pc := 1311) dL_law_1311 ?_
  refine E_ald_ro (pc := 1312) dL_law_1312 rfl (vin_s 1 rfl (by omega) hL) ?_
  refine E_aload_n (pc := 1313) 0 dL_law_1313 rfl rfl ?_
  refine E_iload_n (pc := 1314) 3 dL_law_1314 rfl rfl ?_
  refine E_iconst (pc := 1315) (2) dL_law_1315 (by decide) ?_
  refine E_iadd (pc := 1316) dL_law_1316 ?_
  refine E_ald_ro (pc := 1317) dL_law_1317 rfl (vin_s 2 rfl (by omega) hL) ?_
  refine E_aload_n (pc := 1318) 0 dL_law_1318 rfl rfl ?_
  refine E_iload_n (pc := 1319) 3 dL_law_1319 rfl rfl ?_
  refine E_iconst (pc := 1320) (3) dL_law_1320 (by decide) ?_
  refine E_iadd (pc := 1321) dL_law_1321 ?_
  refine E_ald_ro (pc := 1322) dL_law_1322 rfl (vin_s 3 rfl (by omega) hL) ?_
  refine E_aload_n (pc := 1323) 0 dL_law_1323 rfl rfl ?_
  refine E_iload_n (pc := 1324) 3 dL_law_1324 rfl rfl ?_
  refine E_iconst (pc := 1325) (4) dL_law_1325 (by decide) ?_
  refine E_iadd (pc := 1326) dL_law_1326 ?_
  refine E_ald_ro (pc := 1327) dL_law_1327 rfl (vin_s 4 rfl (by omega) hL) ?_
  refine E_callV (pc := 1328) dL_law_1328 c2 rfl kv_RL_157 rfl rfl rfl ⟨Nat.le_of_ble_eq_true rfl, Nat.le_of_ble_eq_true rfl, Nat.le_of_ble_eq_true rfl, Nat.le_of_ble_eq_true rfl⟩ (Nat.le_of_ble_eq_true rfl) ?_
  rintro r2 h2 hq2
  obtain ⟨rfl, hR⟩ := k2 _ _ hq2
  refine E_icmp_eq (pc := 1331) 1533 dL_law_1331 rfl (fun q1331 => ?_) (fun q1331 => absurd rfl q1331)
  exact next _ hR
set_option maxHeartbeats 4000000 in
theorem law_34 {l : Launch} {G : GE} {L k : Nat} {xs : Nat → Int32} {h : Hp} (hL : L ≤ 3584) (hk : 7 * k + 7 ≤ L) (z : Rel h) (next : ∀ h2, Rel0 h2 → Ev l G mL_law (fkL G L xs) 1533 [some (vR g_script 0), some (vR g_oab 0), some (vR g_model 0), some (vI (nI (7 * k)))] [] h2) : Ev l G mL_law (fkL G L xs) 1336 [some (vR g_script 0), some (vR g_oab 0), some (vR g_model 0), some (vI (nI (7 * k)))] [] h := by
  obtain ⟨Q1, c1, k1⟩ := @both_sheet l G h z (xs (ixN (nI (7 * k) + 1))) (xs (ixN (nI (7 * k) + 2))) (xs (ixN (nI (7 * k) + 3)))
  refine E_aload_n (pc := 1336) 1 dL_law_1336 rfl rfl ?_
  refine E_aload_n (pc := 1337) 0 dL_law_1337 rfl rfl ?_
  refine E_iload_n (pc := 1338) 3 dL_law_1338 rfl rfl ?_
  refine E_iconst (pc := 1339) (1) dL_law_1339 (by decide) ?_
  refine E_iadd (pc := 1340) dL_law_1340 ?_
  refine E_ald_ro (pc := 1341) dL_law_1341 rfl (vin_s 1 rfl (by omega) hL) ?_
  refine E_aload_n (pc := 1342) 0 dL_law_1342 rfl rfl ?_
  refine E_iload_n (pc := 1343) 3 dL_law_1343 rfl rfl ?_
  refine E_iconst (pc := 1344) (2) dL_law_1344 (by decide) ?_
  refine E_iadd (pc := 1345) dL_law_1345 ?_
  refine E_ald_ro (pc := 1346) dL_law_1346 rfl (vin_s 2 rfl (by omega) hL) ?_
  refine E_aload_n (pc := 1347) 0 dL_law_1347 rfl rfl ?_
  refine E_iload_n (pc := 1348) 3 dL_law_1348 rfl rfl ?_
  refine E_iconst (pc := 1349) (3) dL_law_1349 (by decide) ?_
  refine E_iadd (pc := 1350) dL_law_1350 ?_
  refine E_ald_ro (pc := 1351) dL_law_1351 rfl (vin_s 3 rfl (by omega) hL) ?_
  refine E_callV (pc := 1352) dL_law_1352 c1 rfl kv_RL_158 rfl rfl rfl ⟨Nat.le_of_ble_eq_true rfl, Nat.le_of_ble_eq_true rfl, Nat.le_of_ble_eq_true rfl, Nat.le_of_ble_eq_true rfl⟩ (Nat.le_of_ble_eq_true rfl) ?_
  rintro r h1 hq
  obtain ⟨a, rfl, Q2, c2, k2⟩ := k1 _ _ hq
  refine E_aload_n (pc := 1355) 2 dL_law_1355 rfl rfl ?_
  refine E_aload_n (pc := 1356) 0 dL_law_1356 rfl rfl ?_
  refine E_iload_n (pc := 1357) 3 dL_law_1357 rfl rfl ?_
  refine E_iconst (pc := 1358) (1) dL_law_1358 (by decide) ?_
  refine E_iadd (pc := 1359) dL_law_1359 ?_
  refine E_ald_ro (pc := 1360) dL_law_1360 rfl (vin_s 1 rfl (by omega) hL) ?_
  refine E_aload_n (pc := 1361) 0 dL_law_1361 rfl rfl ?_
  refine E_iload_n (pc := 1362) 3 dL_law_1362 rfl rfl ?_
  refine E_iconst (pc := 1363) (2) dL_law_1363 (by decide) ?_
  refine E_iadd (pc := 1364) dL_law_1364 ?_
  refine E_ald_ro (pc := 1365) dL_law_1365 rfl (vin_s 2 rfl (by omega) hL) ?_
  refine E_aload_n (pc := 1366) 0 dL_law_1366 rfl rfl ?_
  refine E_iload_n (pc := 1367) 3 dL_law_1367 rfl rfl ?_
  refine E_iconst (pc := 1368) (3) dL_law_1368 (by decide) ?_
  refine E_iadd (pc := 1369) dL_law_1369 ?_
  refine E_ald_ro (pc := 1370) dL_law_1370 rfl (vin_s 3 rfl (by omega) hL) ?_
  refine E_callV (pc := 1371) dL_law_1371 c2 rfl kv_RL_161 rfl rfl rfl ⟨Nat.le_of_ble_eq_true rfl, Nat.le_of_ble_eq_true rfl, Nat.le_of_ble_eq_true rfl, Nat.le_of_ble_eq_true rfl⟩ (Nat.le_of_ble_eq_true rfl) ?_
  rintro r2 h2 hq2
  obtain ⟨rfl, hR⟩ := k2 _ _ hq2
  refine E_icmp_eq (pc := 1374) 1533 dL_law_1374 rfl (fun q1374 => ?_) (fun q1374 => absurd rfl q1374)
  exact next _ hR
set_option maxHeartbeats 4000000 in
theorem law_35 {l : Launch} {G : GE} {L k : Nat} {xs : Nat → Int32} {h : Hp} (hL : L ≤ 3584) (hk : 7 * k + 7 ≤ L) (z : Rel h) (next : ∀ h2, Rel0 h2 → Ev l G mL_law (fkL G L xs) 1533 [some (vR g_script 0), some (vR g_oab 0), some (vR g_model 0), some (vI (nI (7 * k)))] [] h2) : Ev l G mL_law (fkL G L xs) 1379 [some (vR g_script 0), some (vR g_oab 0), some (vR g_model 0), some (vI (nI (7 * k)))] [] h := by
  obtain ⟨Q1, c1, k1⟩ := @both_lay l G h z (xs (ixN (nI (7 * k) + 1))) (xs (ixN (nI (7 * k) + 2))) (xs (ixN (nI (7 * k) + 3)))
  refine E_aload_n (pc := 1379) 1 dL_law_1379 rfl rfl ?_
  refine E_aload_n (pc := 1380) 0 dL_law_1380 rfl rfl ?_
  refine E_iload_n (pc := 1381) 3 dL_law_1381 rfl rfl ?_
  refine E_iconst (pc := 1382) (1) dL_law_1382 (by decide) ?_
  refine E_iadd (pc := 1383) dL_law_1383 ?_
  refine E_ald_ro (pc := 1384) dL_law_1384 rfl (vin_s 1 rfl (by omega) hL) ?_
  refine E_aload_n (pc := 1385) 0 dL_law_1385 rfl rfl ?_
  refine E_iload_n (pc := 1386) 3 dL_law_1386 rfl rfl ?_
  refine E_iconst (pc := 1387) (2) dL_law_1387 (by decide) ?_
  refine E_iadd (pc := 1388) dL_law_1388 ?_
  refine E_ald_ro (pc := 1389) dL_law_1389 rfl (vin_s 2 rfl (by omega) hL) ?_
  refine E_aload_n (pc := 1390) 0 dL_law_1390 rfl rfl ?_
  refine E_iload_n (pc := 1391) 3 dL_law_1391 rfl rfl ?_
  refine E_iconst (pc := 1392) (3) dL_law_1392 (by decide) ?_
  refine E_iadd (pc := 1393) dL_law_1393 ?_
  refine E_ald_ro (pc := 1394) dL_law_1394 rfl (vin_s 3 rfl (by omega) hL) ?_
  refine E_callV (pc := 1395) dL_law_1395 c1 rfl kv_RL_162 rfl rfl rfl ⟨Nat.le_of_ble_eq_true rfl, Nat.le_of_ble_eq_true rfl, Nat.le_of_ble_eq_true rfl, Nat.le_of_ble_eq_true rfl⟩ (Nat.le_of_ble_eq_true rfl) ?_
  rintro r h1 hq
  obtain ⟨a, rfl, Q2, c2, k2⟩ := k1 _ _ hq
  refine E_aload_n (pc := 1398) 2 dL_law_1398 rfl rfl ?_
  refine E_aload_n (pc := 1399) 0 dL_law_1399 rfl rfl ?_
  refine E_iload_n (pc := 1400) 3 dL_law_1400 rfl rfl ?_
  refine E_iconst (pc := 1401) (1) dL_law_1401 (by decide) ?_
  refine E_iadd (pc := 1402) dL_law_1402 ?_
  refine E_ald_ro (pc := 1403) dL_law_1403 rfl (vin_s 1 rfl (by omega) hL) ?_
  refine E_aload_n (pc := 1404) 0 dL_law_1404 rfl rfl ?_
  refine E_iload_n (pc := 1405) 3 dL_law_1405 rfl rfl ?_
  refine E_iconst (pc := 1406) (2) dL_law_1406 (by decide) ?_
  refine E_iadd (pc := 1407) dL_law_1407 ?_
  refine E_ald_ro (pc := 1408) dL_law_1408 rfl (vin_s 2 rfl (by omega) hL) ?_
  refine E_aload_n (pc := 1409) 0 dL_law_1409 rfl rfl ?_
  refine E_iload_n (pc := 1410) 3 dL_law_1410 rfl rfl ?_
  refine E_iconst (pc := 1411) (3) dL_law_1411 (by decide) ?_
  refine E_iadd (pc := 1412) dL_law_1412 ?_
  refine E_ald_ro (pc := 1413) dL_law_1413 rfl (vin_s 3 rfl (by omega) hL) ?_
  refine E_callV (pc := 1414) dL_law_1414 c2 rfl kv_RL_165 rfl rfl rfl ⟨Nat.le_of_ble_eq_true rfl, Nat.le_of_ble_eq_true rfl, Nat.le_of_ble_eq_true rfl, Nat.le_of_ble_eq_true rfl⟩ (Nat.le_of_ble_eq_true rfl) ?_
  rintro r2 h2 hq2
  obtain ⟨rfl, hR⟩ := k2 _ _ hq2
  refine E_icmp_eq (pc := 1417) 1533 dL_law_1417 rfl (fun q1417 => ?_) (fun q1417 => absurd rfl q1417)
  exact next _ hR
set_option maxHeartbeats 4000000 in
theorem law_36 {l : Launch} {G : GE} {L k : Nat} {xs : Nat → Int32} {h : Hp} (hL : L ≤ 3584) (hk : 7 * k + 7 ≤ L) (z : Rel h) (next : ∀ h2, Rel0 h2 → Ev l G mL_law (fkL G L xs) 1533 [some (vR g_script 0), some (vR g_oab 0), some (vR g_model 0), some (vI (nI (7 * k)))] [] h2) : Ev l G mL_law (fkL G L xs) 1422 [some (vR g_script 0), some (vR g_oab 0), some (vR g_model 0), some (vI (nI (7 * k)))] [] h := by
  obtain ⟨Q1, c1, k1⟩ := @both_film l G h z (xs (ixN (nI (7 * k) + 1))) (xs (ixN (nI (7 * k) + 2))) (xs (ixN (nI (7 * k) + 3))) (xs (ixN (nI (7 * k) + 4))) (xs (ixN (nI (7 * k) + 5))) (xs (ixN (nI (7 * k) + 6)))
  refine E_aload_n (pc := 1422) 1 dL_law_1422 rfl rfl ?_
  refine E_aload_n (pc := 1423) 0 dL_law_1423 rfl rfl ?_
  refine E_iload_n (pc := 1424) 3 dL_law_1424 rfl rfl ?_
  refine E_iconst (pc := 1425) (1) dL_law_1425 (by decide) ?_
  refine E_iadd (pc := 1426) dL_law_1426 ?_
  refine E_ald_ro (pc := 1427) dL_law_1427 rfl (vin_s 1 rfl (by omega) hL) ?_
  refine E_aload_n (pc := 1428) 0 dL_law_1428 rfl rfl ?_
  refine E_iload_n (pc := 1429) 3 dL_law_1429 rfl rfl ?_
  refine E_iconst (pc := 1430) (2) dL_law_1430 (by decide) ?_
  refine E_iadd (pc := 1431) dL_law_1431 ?_
  refine E_ald_ro (pc := 1432) dL_law_1432 rfl (vin_s 2 rfl (by omega) hL) ?_
  refine E_aload_n (pc := 1433) 0 dL_law_1433 rfl rfl ?_
  refine E_iload_n (pc := 1434) 3 dL_law_1434 rfl rfl ?_
  refine E_iconst (pc := 1435) (3) dL_law_1435 (by decide) ?_
  refine E_iadd (pc := 1436) dL_law_1436 ?_
  refine E_ald_ro (pc := 1437) dL_law_1437 rfl (vin_s 3 rfl (by omega) hL) ?_
  refine E_aload_n (pc := 1438) 0 dL_law_1438 rfl rfl ?_
  refine E_iload_n (pc := 1439) 3 dL_law_1439 rfl rfl ?_
  refine E_iconst (pc := 1440) (4) dL_law_1440 (by decide) ?_
  refine E_iadd (pc := 1441) dL_law_1441 ?_
  refine E_ald_ro (pc := 1442) dL_law_1442 rfl (vin_s 4 rfl (by omega) hL) ?_
  refine E_aload_n (pc := 1443) 0 dL_law_1443 rfl rfl ?_
  refine E_iload_n (pc := 1444) 3 dL_law_1444 rfl rfl ?_
  refine E_iconst (pc := 1445) (5) dL_law_1445 (by decide) ?_
  refine E_iadd (pc := 1446) dL_law_1446 ?_
  refine E_ald_ro (pc := 1447) dL_law_1447 rfl (vin_s 5 rfl (by omega) hL) ?_
  refine E_aload_n (pc := 1448) 0 dL_law_1448 rfl rfl ?_
  refine E_iload_n (pc := 1449) 3 dL_law_1449 rfl rfl ?_
  refine E_bipush (pc := 1450) (6) dL_law_1450 (by decide) ?_
  refine E_iadd (pc := 1452) dL_law_1452 ?_
  refine E_ald_ro (pc := 1453) dL_law_1453 rfl (vin_s 6 rfl (by omega) hL) ?_
  refine E_callV (pc := 1454) dL_law_1454 c1 rfl kv_RL_166 rfl rfl rfl ⟨Nat.le_of_ble_eq_true rfl, Nat.le_of_ble_eq_true rfl, Nat.le_of_ble_eq_true rfl, Nat.le_of_ble_eq_true rfl⟩ (Nat.le_of_ble_eq_true rfl) ?_
  rintro r h1 hq
  obtain ⟨a, rfl, Q2, c2, k2⟩ := k1 _ _ hq
  refine E_aload_n (pc := 1457) 2 dL_law_1457 rfl rfl ?_
  refine E_aload_n (pc := 1458) 0 dL_law_1458 rfl rfl ?_
  refine E_iload_n (pc := 1459) 3 dL_law_1459 rfl rfl ?_
  refine E_iconst (pc := 1460) (1) dL_law_1460 (by decide) ?_
  refine E_iadd (pc := 1461) dL_law_1461 ?_
  refine E_ald_ro (pc := 1462) dL_law_1462 rfl (vin_s 1 rfl (by omega) hL) ?_
  refine E_aload_n (pc := 1463) 0 dL_law_1463 rfl rfl ?_
  refine E_iload_n (pc := 1464) 3 dL_law_1464 rfl rfl ?_
  refine E_iconst (pc := 1465) (2) dL_law_1465 (by decide) ?_
  refine E_iadd (pc := 1466) dL_law_1466 ?_
  refine E_ald_ro (pc := 1467) dL_law_1467 rfl (vin_s 2 rfl (by omega) hL) ?_
  refine E_aload_n (pc := 1468) 0 dL_law_1468 rfl rfl ?_
  refine E_iload_n (pc := 1469) 3 dL_law_1469 rfl rfl ?_
  refine E_iconst (pc := 1470) (3) dL_law_1470 (by decide) ?_
  refine E_iadd (pc := 1471) dL_law_1471 ?_
  refine E_ald_ro (pc := 1472) dL_law_1472 rfl (vin_s 3 rfl (by omega) hL) ?_
  refine E_aload_n (pc := 1473) 0 dL_law_1473 rfl rfl ?_
  refine E_iload_n (pc := 1474) 3 dL_law_1474 rfl rfl ?_
  refine E_iconst (pc := 1475) (4) dL_law_1475 (by decide) ?_
  refine E_iadd (pc := 1476) dL_law_1476 ?_
  refine E_ald_ro (pc := 1477) dL_law_1477 rfl (vin_s 4 rfl (by omega) hL) ?_
  refine E_aload_n (pc := 1478) 0 dL_law_1478 rfl rfl ?_
  refine E_iload_n (pc := 1479) 3 dL_law_1479 rfl rfl ?_
  refine E_iconst (pc := 1480) (5) dL_law_1480 (by decide) ?_
  refine E_iadd (pc := 1481) dL_law_1481 ?_
  refine E_ald_ro (pc := 1482) dL_law_1482 rfl (vin_s 5 rfl (by omega) hL) ?_
  refine E_aload_n (pc := 1483) 0 dL_law_1483 rfl rfl ?_
  refine E_iload_n (pc := 1484) 3 dL_law_1484 rfl rfl ?_
  refine E_bipush (pc := 1485) (6) dL_law_1485 (by decide) ?_
  refine E_iadd (pc := 1487) dL_law_1487 ?_
  refine E_ald_ro (pc := 1488) dL_law_1488 rfl (vin_s 6 rfl (by omega) hL) ?_
  refine E_callV (pc := 1489) dL_law_1489 c2 rfl kv_RL_170 rfl rfl rfl ⟨Nat.le_of_ble_eq_true rfl, Nat.le_of_ble_eq_true rfl, Nat.le_of_ble_eq_true rfl, Nat.le_of_ble_eq_true rfl⟩ (Nat.le_of_ble_eq_true rfl) ?_
  rintro r2 h2 hq2
  obtain ⟨rfl, hR⟩ := k2 _ _ hq2
  refine E_icmp_eq (pc := 1492) 1533 dL_law_1492 rfl (fun q1492 => ?_) (fun q1492 => absurd rfl q1492)
  exact next _ hR
set_option maxHeartbeats 4000000 in
theorem law_37 {l : Launch} {G : GE} {L k : Nat} {xs : Nat → Int32} {h : Hp} (hL : L ≤ 3584) (hk : 7 * k + 7 ≤ L) (z : Rel h) (next : ∀ h2, Rel0 h2 → Ev l G mL_law (fkL G L xs) 1533 [some (vR g_script 0), some (vR g_oab 0), some (vR g_model 0), some (vI (nI (7 * k)))] [] h2) : Ev l G mL_law (fkL G L xs) 1497 [some (vR g_script 0), some (vR g_oab 0), some (vR g_model 0), some (vI (nI (7 * k)))] [] h := by
  obtain ⟨Q1, c1, k1⟩ := @both_torn l G h z 
  refine E_aload_n (pc := 1497) 1 dL_law_1497 rfl rfl ?_
  refine E_callV (pc := 1498) dL_law_1498 c1 rfl kv_RL_171 rfl rfl rfl ⟨Nat.le_of_ble_eq_true rfl, Nat.le_of_ble_eq_true rfl, Nat.le_of_ble_eq_true rfl, Nat.le_of_ble_eq_true rfl⟩ (Nat.le_of_ble_eq_true rfl) ?_
  rintro r h1 hq
  obtain ⟨a, rfl, Q2, c2, k2⟩ := k1 _ _ hq
  refine E_aload_n (pc := 1501) 2 dL_law_1501 rfl rfl ?_
  refine E_callV (pc := 1502) dL_law_1502 c2 rfl kv_RL_174 rfl rfl rfl ⟨Nat.le_of_ble_eq_true rfl, Nat.le_of_ble_eq_true rfl, Nat.le_of_ble_eq_true rfl, Nat.le_of_ble_eq_true rfl⟩ (Nat.le_of_ble_eq_true rfl) ?_
  rintro r2 h2 hq2
  obtain ⟨rfl, hR⟩ := k2 _ _ hq2
  refine E_icmp_eq (pc := 1505) 1533 dL_law_1505 rfl (fun q1505 => ?_) (fun q1505 => absurd rfl q1505)
  exact next _ hR
set_option maxHeartbeats 4000000 in
theorem law_38 {l : Launch} {G : GE} {L k : Nat} {xs : Nat → Int32} {h : Hp} (hL : L ≤ 3584) (hk : 7 * k + 7 ≤ L) (z : Rel h) (next : ∀ h2, Rel0 h2 → Ev l G mL_law (fkL G L xs) 1533 [some (vR g_script 0), some (vR g_oab 0), some (vR g_model 0), some (vI (nI (7 * k)))] [] h2) : Ev l G mL_law (fkL G L xs) 1510 [some (vR g_script 0), some (vR g_oab 0), some (vR g_model 0), some (vI (nI (7 * k)))] [] h := by
  obtain ⟨Q1, c1, k1⟩ := @both_count l G h z (xs (ixN (nI (7 * k) + 1)))
  refine E_aload_n (pc := 1510) 1 dL_law_1510 rfl rfl ?_
  refine E_aload_n (pc := 1511) 0 dL_law_1511 rfl rfl ?_
  refine E_iload_n (pc := 1512) 3 dL_law_1512 rfl rfl ?_
  refine E_iconst (pc := 1513) (1) dL_law_1513 (by decide) ?_
  refine E_iadd (pc := 1514) dL_law_1514 ?_
  refine E_ald_ro (pc := 1515) dL_law_1515 rfl (vin_s 1 rfl (by omega) hL) ?_
  refine E_callV (pc := 1516) dL_law_1516 c1 rfl kv_RL_175 rfl rfl rfl ⟨Nat.le_of_ble_eq_true rfl, Nat.le_of_ble_eq_true rfl, Nat.le_of_ble_eq_true rfl, Nat.le_of_ble_eq_true rfl⟩ (Nat.le_of_ble_eq_true rfl) ?_
  rintro r h1 hq
  obtain ⟨a, rfl, Q2, c2, k2⟩ := k1 _ _ hq
  refine E_aload_n (pc := 1519) 2 dL_law_1519 rfl rfl ?_
  refine E_aload_n (pc := 1520) 0 dL_law_1520 rfl rfl ?_
  refine E_iload_n (pc := 1521) 3 dL_law_1521 rfl rfl ?_
  refine E_iconst (pc := 1522) (1) dL_law_1522 (by decide) ?_
  refine E_iadd (pc := 1523) dL_law_1523 ?_
  refine E_ald_ro (pc := 1524) dL_law_1524 rfl (vin_s 1 rfl (by omega) hL) ?_
  refine E_callV (pc := 1525) dL_law_1525 c2 rfl kv_RL_178 rfl rfl rfl ⟨Nat.le_of_ble_eq_true rfl, Nat.le_of_ble_eq_true rfl, Nat.le_of_ble_eq_true rfl, Nat.le_of_ble_eq_true rfl⟩ (Nat.le_of_ble_eq_true rfl) ?_
  rintro r2 h2 hq2
  obtain ⟨rfl, hR⟩ := k2 _ _ hq2
  refine E_icmp_eq (pc := 1528) 1533 dL_law_1528 rfl (fun q1528 => ?_) (fun q1528 => absurd rfl q1528)
  exact next _ hR
