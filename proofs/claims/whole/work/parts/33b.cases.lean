set_option maxHeartbeats 4000000 in
set_option maxRecDepth 100000 in
theorem lc_220 {M : MT} {S : ST} {E : ET} {n : Nat × Nat} {g : Nat → va_E} {b0 L i : Nat} {xs : Nat → Int32} (C : Cx M S cL_law 4 RL ret room_1) (X : LX M b0 L xs) (hi : i + 6 ≤ L) (hL : L ≤ 3072) (hn : n.1 ≤ room_1.cells ∧ n.2 ≤ room_1.slots) {K : KV} {z : MZ} (hB : BC S E g K) (hM : MC S E g z) (hR : RR K z) (nx : NX M S E n b0 i) : G M S E n g 220 [some (.ref b0), some (.ref (E.1 0)), some (.ref (E.1 286)), some (.int (nI i))] [] := by
  obtain ⟨hsn, v, rem, v2, rem2, pt, inp, out, sl⟩ := K
  refine r_aload_n (pc := 220) C dL_law_220 rfl ?_
  refine r_aload_n (pc := 221) C dL_law_221 rfl ?_
  refine r_iload_n (pc := 222) C dL_law_222 rfl ?_
  refine r_iconst (pc := 223) (v := nI 1) C dL_law_223 (by decide +kernel) ?_
  refine r_iadd (pc := 224) C dL_law_224 ?_
  refine r_sld (pc := 225) C X dL_law_225 (nI_add i 1) (by omega) hL ?_
  refine r_callV (pc := 226) C dL_law_226 cv_RL_13 (c_X7_reset hB hR.so unOk (xs (i + 1))) ⟨rfl, rfl, by decide, by decide⟩ (show Ce E g 0 _ from hB.1) rfl rfl (Nat.le_of_ble_eq_true rfl) hn ?_
  rintro _ g1 ⟨_, rfl, rfl, hB1, hF1⟩
  have hM1 := hM.far hF1 (Nat.le_refl _)
  show G M S E n g1 229 _ [.int _]
  refine r_aload_n (pc := 229) C dL_law_229 rfl ?_
  refine r_aload_n (pc := 230) C dL_law_230 rfl ?_
  refine r_iload_n (pc := 231) C dL_law_231 rfl ?_
  refine r_iconst (pc := 232) (v := nI 1) C dL_law_232 (by decide +kernel) ?_
  refine r_iadd (pc := 233) C dL_law_233 ?_
  refine r_sld (pc := 234) C X dL_law_234 (nI_add i 1) (by omega) hL ?_
  refine r_callV (pc := 235) C dL_law_235 cv_RL_17 (c_X8_reset hM1 hR.z4 hR.z24 unZ_ok (xs (i + 1))) ⟨rfl, rfl, by decide, by decide⟩ (hM1).1 rfl rfl (Nat.le_of_ble_eq_true rfl) hn ?_
  rintro _ g2 ⟨_, rfl, rfl, ⟨z', hM2, hs⟩, hF2⟩
  show G M S E n g2 238 _ [.int _, .int _]
  have rr := rr_reset hR (xs (i + 1))
  exact r_icmp_eq (pc := 238) (tgt := 1542) C dL_law_238 (by decide) (fun _ => nx _ _ _ (hB1.far hF2 (Nat.le_refl _)) hM2 (rr.2.sv hs)) (fun h => absurd rr.1 h)
set_option maxHeartbeats 4000000 in
set_option maxRecDepth 100000 in
theorem lc_243 {M : MT} {S : ST} {E : ET} {n : Nat × Nat} {g : Nat → va_E} {b0 L i : Nat} {xs : Nat → Int32} (C : Cx M S cL_law 4 RL ret room_1) (X : LX M b0 L xs) (hi : i + 6 ≤ L) (hL : L ≤ 3072) (hn : n.1 ≤ room_1.cells ∧ n.2 ≤ room_1.slots) {K : KV} {z : MZ} (hB : BC S E g K) (hM : MC S E g z) (hR : RR K z) (nx : NX M S E n b0 i) : G M S E n g 243 [some (.ref b0), some (.ref (E.1 0)), some (.ref (E.1 286)), some (.int (nI i))] [] := by
  obtain ⟨hsn, v, rem, v2, rem2, pt, inp, out, sl⟩ := K
  refine r_aload_n (pc := 243) C dL_law_243 rfl ?_
  refine r_callV (pc := 244) C dL_law_244 cv_RL_18 (c_X7_precision hB hR.so) ⟨rfl, rfl, by decide, by decide⟩ (show Ce E g 0 _ from hB.1) rfl rfl (Nat.le_of_ble_eq_true rfl) hn ?_
  rintro _ _ ⟨_, rfl, rfl, rfl⟩
  show G M S E n g 247 _ [.int _]
  refine r_aload_n (pc := 247) C dL_law_247 rfl ?_
  refine r_callV (pc := 248) C dL_law_248 cv_RL_22 (c_X8_precision hM) ⟨rfl, rfl, by decide, by decide⟩ (hM).1 rfl rfl (Nat.le_of_ble_eq_true rfl) hn ?_
  rintro _ _ ⟨_, rfl, rfl, rfl⟩
  show G M S E n g 251 _ [.int _, .int _]
  have rr := rr_prec hR
  exact r_icmp_eq (pc := 251) (tgt := 1542) C dL_law_251 (by decide) (fun _ => nx _ _ _ hB hM hR) (fun h => absurd rr h)
set_option maxHeartbeats 4000000 in
set_option maxRecDepth 100000 in
theorem lc_256 {M : MT} {S : ST} {E : ET} {n : Nat × Nat} {g : Nat → va_E} {b0 L i : Nat} {xs : Nat → Int32} (C : Cx M S cL_law 4 RL ret room_1) (X : LX M b0 L xs) (hi : i + 6 ≤ L) (hL : L ≤ 3072) (hn : n.1 ≤ room_1.cells ∧ n.2 ≤ room_1.slots) {K : KV} {z : MZ} (hB : BC S E g K) (hM : MC S E g z) (hR : RR K z) (nx : NX M S E n b0 i) : G M S E n g 256 [some (.ref b0), some (.ref (E.1 0)), some (.ref (E.1 286)), some (.int (nI i))] [] := by
  obtain ⟨hsn, v, rem, v2, rem2, pt, inp, out, sl⟩ := K
  refine r_aload_n (pc := 256) C dL_law_256 rfl ?_
  refine r_aload_n (pc := 257) C dL_law_257 rfl ?_
  refine r_iload_n (pc := 258) C dL_law_258 rfl ?_
  refine r_iconst (pc := 259) (v := nI 1) C dL_law_259 (by decide +kernel) ?_
  refine r_iadd (pc := 260) C dL_law_260 ?_
  refine r_sld (pc := 261) C X dL_law_261 (nI_add i 1) (by omega) hL ?_
  refine r_aload_n (pc := 262) C dL_law_262 rfl ?_
  refine r_iload_n (pc := 263) C dL_law_263 rfl ?_
  refine r_iconst (pc := 264) (v := nI 2) C dL_law_264 (by decide +kernel) ?_
  refine r_iadd (pc := 265) C dL_law_265 ?_
  refine r_sld (pc := 266) C X dL_law_266 (nI_add i 2) (by omega) hL ?_
  refine r_aload_n (pc := 267) C dL_law_267 rfl ?_
  refine r_iload_n (pc := 268) C dL_law_268 rfl ?_
  refine r_iconst (pc := 269) (v := nI 3) C dL_law_269 (by decide +kernel) ?_
  refine r_iadd (pc := 270) C dL_law_270 ?_
  refine r_sld (pc := 271) C X dL_law_271 (nI_add i 3) (by omega) hL ?_
  refine r_callV (pc := 272) C dL_law_272 cv_RL_23 (c_X7_setCoefficient hB hR.so (xs (i + 1)) (xs (i + 2)) (xs (i + 3))) ⟨rfl, rfl, by decide, by decide⟩ (show Ce E g 0 _ from hB.1) rfl rfl (Nat.le_of_ble_eq_true rfl) hn ?_
  rintro _ g1 ⟨_, rfl, rfl, hB1, hF1⟩
  have hM1 := hM.far hF1 (Nat.le_refl _)
  show G M S E n g1 275 _ [.int _]
  refine r_aload_n (pc := 275) C dL_law_275 rfl ?_
  refine r_aload_n (pc := 276) C dL_law_276 rfl ?_
  refine r_iload_n (pc := 277) C dL_law_277 rfl ?_
  refine r_iconst (pc := 278) (v := nI 1) C dL_law_278 (by decide +kernel) ?_
  refine r_iadd (pc := 279) C dL_law_279 ?_
  refine r_sld (pc := 280) C X dL_law_280 (nI_add i 1) (by omega) hL ?_
  refine r_aload_n (pc := 281) C dL_law_281 rfl ?_
  refine r_iload_n (pc := 282) C dL_law_282 rfl ?_
  refine r_iconst (pc := 283) (v := nI 2) C dL_law_283 (by decide +kernel) ?_
  refine r_iadd (pc := 284) C dL_law_284 ?_
  refine r_sld (pc := 285) C X dL_law_285 (nI_add i 2) (by omega) hL ?_
  refine r_aload_n (pc := 286) C dL_law_286 rfl ?_
  refine r_iload_n (pc := 287) C dL_law_287 rfl ?_
  refine r_iconst (pc := 288) (v := nI 3) C dL_law_288 (by decide +kernel) ?_
  refine r_iadd (pc := 289) C dL_law_289 ?_
  refine r_sld (pc := 290) C X dL_law_290 (nI_add i 3) (by omega) hL ?_
  refine r_callV (pc := 291) C dL_law_291 cv_RL_27 (c_X8_setCoefficient hM1 hR.z4 hR.z24 (xs (i + 1)) (xs (i + 2)) (xs (i + 3))) ⟨rfl, rfl, by decide, by decide⟩ (hM1).1 rfl rfl (Nat.le_of_ble_eq_true rfl) hn ?_
  rintro _ g2 ⟨_, rfl, rfl, hM2, hF2⟩
  show G M S E n g2 294 _ [.int _, .int _]
  have rr := rr_setC hR (xs (i + 1)) (xs (i + 2)) (xs (i + 3))
  exact r_icmp_eq (pc := 294) (tgt := 1542) C dL_law_294 (by decide) (fun _ => nx _ _ _ (hB1.far hF2 (Nat.le_refl _)) hM2 rr.2) (fun h => absurd rr.1 h)
set_option maxHeartbeats 4000000 in
set_option maxRecDepth 100000 in
theorem lc_299 {M : MT} {S : ST} {E : ET} {n : Nat × Nat} {g : Nat → va_E} {b0 L i : Nat} {xs : Nat → Int32} (C : Cx M S cL_law 4 RL ret room_1) (X : LX M b0 L xs) (hi : i + 6 ≤ L) (hL : L ≤ 3072) (hn : n.1 ≤ room_1.cells ∧ n.2 ≤ room_1.slots) {K : KV} {z : MZ} (hB : BC S E g K) (hM : MC S E g z) (hR : RR K z) (nx : NX M S E n b0 i) : G M S E n g 299 [some (.ref b0), some (.ref (E.1 0)), some (.ref (E.1 286)), some (.int (nI i))] [] := by
  obtain ⟨hsn, v, rem, v2, rem2, pt, inp, out, sl⟩ := K
  refine r_aload_n (pc := 299) C dL_law_299 rfl ?_
  refine r_aload_n (pc := 300) C dL_law_300 rfl ?_
  refine r_iload_n (pc := 301) C dL_law_301 rfl ?_
  refine r_iconst (pc := 302) (v := nI 1) C dL_law_302 (by decide +kernel) ?_
  refine r_iadd (pc := 303) C dL_law_303 ?_
  refine r_sld (pc := 304) C X dL_law_304 (nI_add i 1) (by omega) hL ?_
  refine r_aload_n (pc := 305) C dL_law_305 rfl ?_
  refine r_iload_n (pc := 306) C dL_law_306 rfl ?_
  refine r_iconst (pc := 307) (v := nI 2) C dL_law_307 (by decide +kernel) ?_
  refine r_iadd (pc := 308) C dL_law_308 ?_
  refine r_sld (pc := 309) C X dL_law_309 (nI_add i 2) (by omega) hL ?_
  refine r_callV (pc := 310) C dL_law_310 cv_RL_28 (c_X7_coefficient hB hR.so (xs (i + 1)) (xs (i + 2))) ⟨rfl, rfl, by decide, by decide⟩ (show Ce E g 0 _ from hB.1) rfl rfl (Nat.le_of_ble_eq_true rfl) hn ?_
  rintro _ _ ⟨_, rfl, rfl, rfl⟩
  show G M S E n g 313 _ [.long _]
  refine r_aload_n (pc := 313) C dL_law_313 rfl ?_
  refine r_aload_n (pc := 314) C dL_law_314 rfl ?_
  refine r_iload_n (pc := 315) C dL_law_315 rfl ?_
  refine r_iconst (pc := 316) (v := nI 1) C dL_law_316 (by decide +kernel) ?_
  refine r_iadd (pc := 317) C dL_law_317 ?_
  refine r_sld (pc := 318) C X dL_law_318 (nI_add i 1) (by omega) hL ?_
  refine r_aload_n (pc := 319) C dL_law_319 rfl ?_
  refine r_iload_n (pc := 320) C dL_law_320 rfl ?_
  refine r_iconst (pc := 321) (v := nI 2) C dL_law_321 (by decide +kernel) ?_
  refine r_iadd (pc := 322) C dL_law_322 ?_
  refine r_sld (pc := 323) C X dL_law_323 (nI_add i 2) (by omega) hL ?_
  refine r_callV (pc := 324) C dL_law_324 cv_RL_32 (c_X8_coefficient hM hR.z4 hR.z24 (xs (i + 1)) (xs (i + 2))) ⟨rfl, rfl, by decide, by decide⟩ (hM).1 rfl rfl (Nat.le_of_ble_eq_true rfl) hn ?_
  rintro _ _ ⟨_, rfl, rfl, rfl⟩
  show G M S E n g 327 _ [.long _, .long _]
  have rr := rr_coef hR (xs (i + 1)) (xs (i + 2))
  refine r_lcmp (pc := 327) C dL_law_327 ?_
  exact r_if_eq (pc := 328) (tgt := 1542) C dL_law_328 (by decide) (fun _ => nx _ _ _ hB hM hR) (fun h => absurd (by rw [rr]; exact lg_self _) h)
set_option maxHeartbeats 4000000 in
set_option maxRecDepth 100000 in
theorem lc_333 {M : MT} {S : ST} {E : ET} {n : Nat × Nat} {g : Nat → va_E} {b0 L i : Nat} {xs : Nat → Int32} (C : Cx M S cL_law 4 RL ret room_1) (X : LX M b0 L xs) (hi : i + 6 ≤ L) (hL : L ≤ 3072) (hn : n.1 ≤ room_1.cells ∧ n.2 ≤ room_1.slots) {K : KV} {z : MZ} (hB : BC S E g K) (hM : MC S E g z) (hR : RR K z) (nx : NX M S E n b0 i) : G M S E n g 333 [some (.ref b0), some (.ref (E.1 0)), some (.ref (E.1 286)), some (.int (nI i))] [] := by
  obtain ⟨hsn, v, rem, v2, rem2, pt, inp, out, sl⟩ := K
  refine r_aload_n (pc := 333) C dL_law_333 rfl ?_
  refine r_aload_n (pc := 334) C dL_law_334 rfl ?_
  refine r_iload_n (pc := 335) C dL_law_335 rfl ?_
  refine r_iconst (pc := 336) (v := nI 1) C dL_law_336 (by decide +kernel) ?_
  refine r_iadd (pc := 337) C dL_law_337 ?_
  refine r_sld (pc := 338) C X dL_law_338 (nI_add i 1) (by omega) hL ?_
  refine r_callV (pc := 339) C dL_law_339 cv_RL_33 (c_X7_order hB hR.so (xs (i + 1))) ⟨rfl, rfl, by decide, by decide⟩ (show Ce E g 0 _ from hB.1) rfl rfl (Nat.le_of_ble_eq_true rfl) hn ?_
  rintro _ _ ⟨_, rfl, rfl, rfl⟩
  show G M S E n g 342 _ [.int _]
  refine r_aload_n (pc := 342) C dL_law_342 rfl ?_
  refine r_aload_n (pc := 343) C dL_law_343 rfl ?_
  refine r_iload_n (pc := 344) C dL_law_344 rfl ?_
  refine r_iconst (pc := 345) (v := nI 1) C dL_law_345 (by decide +kernel) ?_
  refine r_iadd (pc := 346) C dL_law_346 ?_
  refine r_sld (pc := 347) C X dL_law_347 (nI_add i 1) (by omega) hL ?_
  refine r_callV (pc := 348) C dL_law_348 cv_RL_36 (c_X8_order hM hR.z4 hR.z24 (xs (i + 1))) ⟨rfl, rfl, by decide, by decide⟩ (hM).1 rfl rfl (Nat.le_of_ble_eq_true rfl) hn ?_
  rintro _ _ ⟨_, rfl, rfl, rfl⟩
  show G M S E n g 351 _ [.int _, .int _]
  have rr := rr_ord hR (xs (i + 1))
  exact r_icmp_eq (pc := 351) (tgt := 1542) C dL_law_351 (by decide) (fun _ => nx _ _ _ hB hM hR) (fun h => absurd rr h)
set_option maxHeartbeats 4000000 in
set_option maxRecDepth 100000 in
theorem lc_356 {M : MT} {S : ST} {E : ET} {n : Nat × Nat} {g : Nat → va_E} {b0 L i : Nat} {xs : Nat → Int32} (C : Cx M S cL_law 4 RL ret room_1) (X : LX M b0 L xs) (hi : i + 6 ≤ L) (hL : L ≤ 3072) (hn : n.1 ≤ room_1.cells ∧ n.2 ≤ room_1.slots) {K : KV} {z : MZ} (hB : BC S E g K) (hM : MC S E g z) (hR : RR K z) (nx : NX M S E n b0 i) : G M S E n g 356 [some (.ref b0), some (.ref (E.1 0)), some (.ref (E.1 286)), some (.int (nI i))] [] := by
  obtain ⟨hsn, v, rem, v2, rem2, pt, inp, out, sl⟩ := K
  refine r_aload_n (pc := 356) C dL_law_356 rfl ?_
  refine r_aload_n (pc := 357) C dL_law_357 rfl ?_
  refine r_iload_n (pc := 358) C dL_law_358 rfl ?_
  refine r_iconst (pc := 359) (v := nI 1) C dL_law_359 (by decide +kernel) ?_
  refine r_iadd (pc := 360) C dL_law_360 ?_
  refine r_sld (pc := 361) C X dL_law_361 (nI_add i 1) (by omega) hL ?_
  refine r_callV (pc := 362) C dL_law_362 cv_RL_37 (c_X7_degree hB hR.so (xs (i + 1))) ⟨rfl, rfl, by decide, by decide⟩ (show Ce E g 0 _ from hB.1) rfl rfl (Nat.le_of_ble_eq_true rfl) hn ?_
  rintro _ _ ⟨_, rfl, rfl, rfl⟩
  show G M S E n g 365 _ [.int _]
  refine r_aload_n (pc := 365) C dL_law_365 rfl ?_
  refine r_aload_n (pc := 366) C dL_law_366 rfl ?_
  refine r_iload_n (pc := 367) C dL_law_367 rfl ?_
  refine r_iconst (pc := 368) (v := nI 1) C dL_law_368 (by decide +kernel) ?_
  refine r_iadd (pc := 369) C dL_law_369 ?_
  refine r_sld (pc := 370) C X dL_law_370 (nI_add i 1) (by omega) hL ?_
  refine r_callV (pc := 371) C dL_law_371 cv_RL_40 (c_X8_degree hM hR.z4 hR.z24 (xs (i + 1))) ⟨rfl, rfl, by decide, by decide⟩ (hM).1 rfl rfl (Nat.le_of_ble_eq_true rfl) hn ?_
  rintro _ _ ⟨_, rfl, rfl, rfl⟩
  show G M S E n g 374 _ [.int _, .int _]
  have rr := rr_deg hR (xs (i + 1))
  exact r_icmp_eq (pc := 374) (tgt := 1542) C dL_law_374 (by decide) (fun _ => nx _ _ _ hB hM hR) (fun h => absurd rr h)
set_option maxHeartbeats 4000000 in
set_option maxRecDepth 100000 in
theorem lc_379 {M : MT} {S : ST} {E : ET} {n : Nat × Nat} {g : Nat → va_E} {b0 L i : Nat} {xs : Nat → Int32} (C : Cx M S cL_law 4 RL ret room_1) (X : LX M b0 L xs) (hi : i + 6 ≤ L) (hL : L ≤ 3072) (hn : n.1 ≤ room_1.cells ∧ n.2 ≤ room_1.slots) {K : KV} {z : MZ} (hB : BC S E g K) (hM : MC S E g z) (hR : RR K z) (nx : NX M S E n b0 i) : G M S E n g 379 [some (.ref b0), some (.ref (E.1 0)), some (.ref (E.1 286)), some (.int (nI i))] [] := by
  obtain ⟨hsn, v, rem, v2, rem2, pt, inp, out, sl⟩ := K
  refine r_aload_n (pc := 379) C dL_law_379 rfl ?_
  refine r_aload_n (pc := 380) C dL_law_380 rfl ?_
  refine r_iload_n (pc := 381) C dL_law_381 rfl ?_
  refine r_iconst (pc := 382) (v := nI 1) C dL_law_382 (by decide +kernel) ?_
  refine r_iadd (pc := 383) C dL_law_383 ?_
  refine r_sld (pc := 384) C X dL_law_384 (nI_add i 1) (by omega) hL ?_
  refine r_aload_n (pc := 385) C dL_law_385 rfl ?_
  refine r_iload_n (pc := 386) C dL_law_386 rfl ?_
  refine r_iconst (pc := 387) (v := nI 2) C dL_law_387 (by decide +kernel) ?_
  refine r_iadd (pc := 388) C dL_law_388 ?_
  refine r_sld (pc := 389) C X dL_law_389 (nI_add i 2) (by omega) hL ?_
  refine r_aload_n (pc := 390) C dL_law_390 rfl ?_
  refine r_iload_n (pc := 391) C dL_law_391 rfl ?_
  refine r_iconst (pc := 392) (v := nI 3) C dL_law_392 (by decide +kernel) ?_
  refine r_iadd (pc := 393) C dL_law_393 ?_
  refine r_sld (pc := 394) C X dL_law_394 (nI_add i 3) (by omega) hL ?_
  refine r_aload_n (pc := 395) C dL_law_395 rfl ?_
  refine r_iload_n (pc := 396) C dL_law_396 rfl ?_
  refine r_iconst (pc := 397) (v := nI 4) C dL_law_397 (by decide +kernel) ?_
  refine r_iadd (pc := 398) C dL_law_398 ?_
  refine r_sld (pc := 399) C X dL_law_399 (nI_add i 4) (by omega) hL ?_
  refine r_callV (pc := 400) C dL_law_400 cv_RL_41 (c_X7_add hB hR.so (xs (i + 1)) (xs (i + 2)) (xs (i + 3)) (xs (i + 4))) ⟨rfl, rfl, by decide, by decide⟩ (show Ce E g 0 _ from hB.1) rfl rfl (Nat.le_of_ble_eq_true rfl) hn ?_
  rintro _ g1 ⟨_, rfl, rfl, hB1, hF1⟩
  have hM1 := hM.far hF1 (Nat.le_refl _)
  show G M S E n g1 403 _ [.int _]
  refine r_aload_n (pc := 403) C dL_law_403 rfl ?_
  refine r_aload_n (pc := 404) C dL_law_404 rfl ?_
  refine r_iload_n (pc := 405) C dL_law_405 rfl ?_
  refine r_iconst (pc := 406) (v := nI 1) C dL_law_406 (by decide +kernel) ?_
  refine r_iadd (pc := 407) C dL_law_407 ?_
  refine r_sld (pc := 408) C X dL_law_408 (nI_add i 1) (by omega) hL ?_
  refine r_aload_n (pc := 409) C dL_law_409 rfl ?_
  refine r_iload_n (pc := 410) C dL_law_410 rfl ?_
  refine r_iconst (pc := 411) (v := nI 2) C dL_law_411 (by decide +kernel) ?_
  refine r_iadd (pc := 412) C dL_law_412 ?_
  refine r_sld (pc := 413) C X dL_law_413 (nI_add i 2) (by omega) hL ?_
  refine r_aload_n (pc := 414) C dL_law_414 rfl ?_
  refine r_iload_n (pc := 415) C dL_law_415 rfl ?_
  refine r_iconst (pc := 416) (v := nI 3) C dL_law_416 (by decide +kernel) ?_
  refine r_iadd (pc := 417) C dL_law_417 ?_
  refine r_sld (pc := 418) C X dL_law_418 (nI_add i 3) (by omega) hL ?_
  refine r_aload_n (pc := 419) C dL_law_419 rfl ?_
  refine r_iload_n (pc := 420) C dL_law_420 rfl ?_
  refine r_iconst (pc := 421) (v := nI 4) C dL_law_421 (by decide +kernel) ?_
  refine r_iadd (pc := 422) C dL_law_422 ?_
  refine r_sld (pc := 423) C X dL_law_423 (nI_add i 4) (by omega) hL ?_
  refine r_callV (pc := 424) C dL_law_424 cv_RL_45 (c_X8_add hM1 hR.z4 hR.z24 (xs (i + 1)) (xs (i + 2)) (xs (i + 3)) (xs (i + 4))) ⟨rfl, rfl, by decide, by decide⟩ (hM1).1 rfl rfl (Nat.le_of_ble_eq_true rfl) hn ?_
  rintro _ g2 ⟨_, rfl, rfl, hM2, hF2⟩
  show G M S E n g2 427 _ [.int _, .int _]
  have rr := rr_add hR (xs (i + 1)) (xs (i + 2)) (xs (i + 3)) (xs (i + 4))
  exact r_icmp_eq (pc := 427) (tgt := 1542) C dL_law_427 (by decide) (fun _ => nx _ _ _ (hB1.far hF2 (Nat.le_refl _)) hM2 rr.2) (fun h => absurd rr.1 h)
set_option maxHeartbeats 4000000 in
set_option maxRecDepth 100000 in
theorem lc_432 {M : MT} {S : ST} {E : ET} {n : Nat × Nat} {g : Nat → va_E} {b0 L i : Nat} {xs : Nat → Int32} (C : Cx M S cL_law 4 RL ret room_1) (X : LX M b0 L xs) (hi : i + 6 ≤ L) (hL : L ≤ 3072) (hn : n.1 ≤ room_1.cells ∧ n.2 ≤ room_1.slots) {K : KV} {z : MZ} (hB : BC S E g K) (hM : MC S E g z) (hR : RR K z) (nx : NX M S E n b0 i) : G M S E n g 432 [some (.ref b0), some (.ref (E.1 0)), some (.ref (E.1 286)), some (.int (nI i))] [] := by
  obtain ⟨hsn, v, rem, v2, rem2, pt, inp, out, sl⟩ := K
  refine r_aload_n (pc := 432) C dL_law_432 rfl ?_
  refine r_aload_n (pc := 433) C dL_law_433 rfl ?_
  refine r_iload_n (pc := 434) C dL_law_434 rfl ?_
  refine r_iconst (pc := 435) (v := nI 1) C dL_law_435 (by decide +kernel) ?_
  refine r_iadd (pc := 436) C dL_law_436 ?_
  refine r_sld (pc := 437) C X dL_law_437 (nI_add i 1) (by omega) hL ?_
  refine r_aload_n (pc := 438) C dL_law_438 rfl ?_
  refine r_iload_n (pc := 439) C dL_law_439 rfl ?_
  refine r_iconst (pc := 440) (v := nI 2) C dL_law_440 (by decide +kernel) ?_
  refine r_iadd (pc := 441) C dL_law_441 ?_
  refine r_sld (pc := 442) C X dL_law_442 (nI_add i 2) (by omega) hL ?_
  refine r_aload_n (pc := 443) C dL_law_443 rfl ?_
  refine r_iload_n (pc := 444) C dL_law_444 rfl ?_
  refine r_iconst (pc := 445) (v := nI 3) C dL_law_445 (by decide +kernel) ?_
  refine r_iadd (pc := 446) C dL_law_446 ?_
  refine r_sld (pc := 447) C X dL_law_447 (nI_add i 3) (by omega) hL ?_
  refine r_callV (pc := 448) C dL_law_448 cv_RL_46 (c_X7_multiply hB hR.so (xs (i + 1)) (xs (i + 2)) (xs (i + 3))) ⟨rfl, rfl, by decide, by decide⟩ (show Ce E g 0 _ from hB.1) rfl rfl (Nat.le_of_ble_eq_true rfl) hn ?_
  rintro _ g1 ⟨_, rfl, rfl, hB1, hF1⟩
  have hM1 := hM.far hF1 (Nat.le_refl _)
  show G M S E n g1 451 _ [.int _]
  refine r_aload_n (pc := 451) C dL_law_451 rfl ?_
  refine r_aload_n (pc := 452) C dL_law_452 rfl ?_
  refine r_iload_n (pc := 453) C dL_law_453 rfl ?_
  refine r_iconst (pc := 454) (v := nI 1) C dL_law_454 (by decide +kernel) ?_
  refine r_iadd (pc := 455) C dL_law_455 ?_
  refine r_sld (pc := 456) C X dL_law_456 (nI_add i 1) (by omega) hL ?_
  refine r_aload_n (pc := 457) C dL_law_457 rfl ?_
  refine r_iload_n (pc := 458) C dL_law_458 rfl ?_
  refine r_iconst (pc := 459) (v := nI 2) C dL_law_459 (by decide +kernel) ?_
  refine r_iadd (pc := 460) C dL_law_460 ?_
  refine r_sld (pc := 461) C X dL_law_461 (nI_add i 2) (by omega) hL ?_
  refine r_aload_n (pc := 462) C dL_law_462 rfl ?_
  refine r_iload_n (pc := 463) C dL_law_463 rfl ?_
  refine r_iconst (pc := 464) (v := nI 3) C dL_law_464 (by decide +kernel) ?_
  refine r_iadd (pc := 465) C dL_law_465 ?_
  refine r_sld (pc := 466) C X dL_law_466 (nI_add i 3) (by omega) hL ?_
  refine r_callV (pc := 467) C dL_law_467 cv_RL_49 (c_X8_multiply hM1 hR.z4 hR.z24 (xs (i + 1)) (xs (i + 2)) (xs (i + 3))) ⟨rfl, rfl, by decide, by decide⟩ (hM1).1 rfl rfl (Nat.le_of_ble_eq_true rfl) hn ?_
  rintro _ g2 ⟨_, rfl, rfl, hM2, hF2⟩
  show G M S E n g2 470 _ [.int _, .int _]
  have rr := rr_mul hR (xs (i + 1)) (xs (i + 2)) (xs (i + 3))
  exact r_icmp_eq (pc := 470) (tgt := 1542) C dL_law_470 (by decide) (fun _ => nx _ _ _ (hB1.far hF2 (Nat.le_refl _)) hM2 rr.2) (fun h => absurd rr.1 h)
set_option maxHeartbeats 4000000 in
set_option maxRecDepth 100000 in
theorem lc_475 {M : MT} {S : ST} {E : ET} {n : Nat × Nat} {g : Nat → va_E} {b0 L i : Nat} {xs : Nat → Int32} (C : Cx M S cL_law 4 RL ret room_1) (X : LX M b0 L xs) (hi : i + 6 ≤ L) (hL : L ≤ 3072) (hn : n.1 ≤ room_1.cells ∧ n.2 ≤ room_1.slots) {K : KV} {z : MZ} (hB : BC S E g K) (hM : MC S E g z) (hR : RR K z) (nx : NX M S E n b0 i) : G M S E n g 475 [some (.ref b0), some (.ref (E.1 0)), some (.ref (E.1 286)), some (.int (nI i))] [] := by
  obtain ⟨hsn, v, rem, v2, rem2, pt, inp, out, sl⟩ := K
  refine r_aload_n (pc := 475) C dL_law_475 rfl ?_
  refine r_aload_n (pc := 476) C dL_law_476 rfl ?_
  refine r_iload_n (pc := 477) C dL_law_477 rfl ?_
  refine r_iconst (pc := 478) (v := nI 1) C dL_law_478 (by decide +kernel) ?_
  refine r_iadd (pc := 479) C dL_law_479 ?_
  refine r_sld (pc := 480) C X dL_law_480 (nI_add i 1) (by omega) hL ?_
  refine r_aload_n (pc := 481) C dL_law_481 rfl ?_
  refine r_iload_n (pc := 482) C dL_law_482 rfl ?_
  refine r_iconst (pc := 483) (v := nI 2) C dL_law_483 (by decide +kernel) ?_
  refine r_iadd (pc := 484) C dL_law_484 ?_
  refine r_sld (pc := 485) C X dL_law_485 (nI_add i 2) (by omega) hL ?_
  refine r_aload_n (pc := 486) C dL_law_486 rfl ?_
  refine r_iload_n (pc := 487) C dL_law_487 rfl ?_
  refine r_iconst (pc := 488) (v := nI 3) C dL_law_488 (by decide +kernel) ?_
  refine r_iadd (pc := 489) C dL_law_489 ?_
  refine r_sld (pc := 490) C X dL_law_490 (nI_add i 3) (by omega) hL ?_
  refine r_callV (pc := 491) C dL_law_491 cv_RL_50 (c_X7_divide hB hR.so (xs (i + 1)) (xs (i + 2)) (xs (i + 3))) ⟨rfl, rfl, by decide, by decide⟩ (show Ce E g 0 _ from hB.1) rfl rfl (Nat.le_of_ble_eq_true rfl) hn ?_
  rintro _ g1 ⟨_, rfl, rfl, hB1, hF1⟩
  have hM1 := hM.far hF1 (Nat.le_refl _)
  show G M S E n g1 494 _ [.int _]
  refine r_aload_n (pc := 494) C dL_law_494 rfl ?_
  refine r_aload_n (pc := 495) C dL_law_495 rfl ?_
  refine r_iload_n (pc := 496) C dL_law_496 rfl ?_
  refine r_iconst (pc := 497) (v := nI 1) C dL_law_497 (by decide +kernel) ?_
  refine r_iadd (pc := 498) C dL_law_498 ?_
  refine r_sld (pc := 499) C X dL_law_499 (nI_add i 1) (by omega) hL ?_
  refine r_aload_n (pc := 500) C dL_law_500 rfl ?_
  refine r_iload_n (pc := 501) C dL_law_501 rfl ?_
  refine r_iconst (pc := 502) (v := nI 2) C dL_law_502 (by decide +kernel) ?_
  refine r_iadd (pc := 503) C dL_law_503 ?_
  refine r_sld (pc := 504) C X dL_law_504 (nI_add i 2) (by omega) hL ?_
  refine r_aload_n (pc := 505) C dL_law_505 rfl ?_
  refine r_iload_n (pc := 506) C dL_law_506 rfl ?_
  refine r_iconst (pc := 507) (v := nI 3) C dL_law_507 (by decide +kernel) ?_
  refine r_iadd (pc := 508) C dL_law_508 ?_
  refine r_sld (pc := 509) C X dL_law_509 (nI_add i 3) (by omega) hL ?_
  refine r_callV (pc := 510) C dL_law_510 cv_RL_53 (c_X8_divide hM1 hR.z4 hR.z24 (xs (i + 1)) (xs (i + 2)) (xs (i + 3))) ⟨rfl, rfl, by decide, by decide⟩ (hM1).1 rfl rfl (Nat.le_of_ble_eq_true rfl) hn ?_
  rintro _ g2 ⟨_, rfl, rfl, ⟨z', hM2, hs⟩, hF2⟩
  show G M S E n g2 513 _ [.int _, .int _]
  have rr := rr_div hR (xs (i + 1)) (xs (i + 2)) (xs (i + 3))
  exact r_icmp_eq (pc := 513) (tgt := 1542) C dL_law_513 (by decide) (fun _ => nx _ _ _ (hB1.far hF2 (Nat.le_refl _)) hM2 (rr.2.sv hs)) (fun h => absurd rr.1 h)
set_option maxHeartbeats 4000000 in
set_option maxRecDepth 100000 in
theorem lc_518 {M : MT} {S : ST} {E : ET} {n : Nat × Nat} {g : Nat → va_E} {b0 L i : Nat} {xs : Nat → Int32} (C : Cx M S cL_law 4 RL ret room_1) (X : LX M b0 L xs) (hi : i + 6 ≤ L) (hL : L ≤ 3072) (hn : n.1 ≤ room_1.cells ∧ n.2 ≤ room_1.slots) {K : KV} {z : MZ} (hB : BC S E g K) (hM : MC S E g z) (hR : RR K z) (nx : NX M S E n b0 i) : G M S E n g 518 [some (.ref b0), some (.ref (E.1 0)), some (.ref (E.1 286)), some (.int (nI i))] [] := by
  obtain ⟨hsn, v, rem, v2, rem2, pt, inp, out, sl⟩ := K
  refine r_aload_n (pc := 518) C dL_law_518 rfl ?_
  refine r_aload_n (pc := 519) C dL_law_519 rfl ?_
  refine r_iload_n (pc := 520) C dL_law_520 rfl ?_
  refine r_iconst (pc := 521) (v := nI 1) C dL_law_521 (by decide +kernel) ?_
  refine r_iadd (pc := 522) C dL_law_522 ?_
  refine r_sld (pc := 523) C X dL_law_523 (nI_add i 1) (by omega) hL ?_
  refine r_aload_n (pc := 524) C dL_law_524 rfl ?_
  refine r_iload_n (pc := 525) C dL_law_525 rfl ?_
  refine r_iconst (pc := 526) (v := nI 2) C dL_law_526 (by decide +kernel) ?_
  refine r_iadd (pc := 527) C dL_law_527 ?_
  refine r_sld (pc := 528) C X dL_law_528 (nI_add i 2) (by omega) hL ?_
  refine r_aload_n (pc := 529) C dL_law_529 rfl ?_
  refine r_iload_n (pc := 530) C dL_law_530 rfl ?_
  refine r_iconst (pc := 531) (v := nI 3) C dL_law_531 (by decide +kernel) ?_
  refine r_iadd (pc := 532) C dL_law_532 ?_
  refine r_sld (pc := 533) C X dL_law_533 (nI_add i 3) (by omega) hL ?_
  refine r_callV (pc := 534) C dL_law_534 cv_RL_54 (c_X7_shift hB hR.so (xs (i + 1)) (xs (i + 2)) (xs (i + 3))) ⟨rfl, rfl, by decide, by decide⟩ (show Ce E g 0 _ from hB.1) rfl rfl (Nat.le_of_ble_eq_true rfl) hn ?_
  rintro _ g1 ⟨_, rfl, rfl, hB1, hF1⟩
  have hM1 := hM.far hF1 (Nat.le_refl _)
  show G M S E n g1 537 _ [.int _]
  refine r_aload_n (pc := 537) C dL_law_537 rfl ?_
  refine r_aload_n (pc := 538) C dL_law_538 rfl ?_
  refine r_iload_n (pc := 539) C dL_law_539 rfl ?_
  refine r_iconst (pc := 540) (v := nI 1) C dL_law_540 (by decide +kernel) ?_
  refine r_iadd (pc := 541) C dL_law_541 ?_
  refine r_sld (pc := 542) C X dL_law_542 (nI_add i 1) (by omega) hL ?_
  refine r_aload_n (pc := 543) C dL_law_543 rfl ?_
  refine r_iload_n (pc := 544) C dL_law_544 rfl ?_
  refine r_iconst (pc := 545) (v := nI 2) C dL_law_545 (by decide +kernel) ?_
  refine r_iadd (pc := 546) C dL_law_546 ?_
  refine r_sld (pc := 547) C X dL_law_547 (nI_add i 2) (by omega) hL ?_
  refine r_aload_n (pc := 548) C dL_law_548 rfl ?_
  refine r_iload_n (pc := 549) C dL_law_549 rfl ?_
  refine r_iconst (pc := 550) (v := nI 3) C dL_law_550 (by decide +kernel) ?_
  refine r_iadd (pc := 551) C dL_law_551 ?_
  refine r_sld (pc := 552) C X dL_law_552 (nI_add i 3) (by omega) hL ?_
  refine r_callV (pc := 553) C dL_law_553 cv_RL_57 (c_X8_shift hM1 hR.z4 hR.z24 (xs (i + 1)) (xs (i + 2)) (xs (i + 3))) ⟨rfl, rfl, by decide, by decide⟩ (hM1).1 rfl rfl (Nat.le_of_ble_eq_true rfl) hn ?_
  rintro _ g2 ⟨_, rfl, rfl, hM2, hF2⟩
  show G M S E n g2 556 _ [.int _, .int _]
  have rr := rr_shi hR (xs (i + 1)) (xs (i + 2)) (xs (i + 3))
  exact r_icmp_eq (pc := 556) (tgt := 1542) C dL_law_556 (by decide) (fun _ => nx _ _ _ (hB1.far hF2 (Nat.le_refl _)) hM2 rr.2) (fun h => absurd rr.1 h)
set_option maxHeartbeats 4000000 in
set_option maxRecDepth 100000 in
theorem lc_561 {M : MT} {S : ST} {E : ET} {n : Nat × Nat} {g : Nat → va_E} {b0 L i : Nat} {xs : Nat → Int32} (C : Cx M S cL_law 4 RL ret room_1) (X : LX M b0 L xs) (hi : i + 6 ≤ L) (hL : L ≤ 3072) (hn : n.1 ≤ room_1.cells ∧ n.2 ≤ room_1.slots) {K : KV} {z : MZ} (hB : BC S E g K) (hM : MC S E g z) (hR : RR K z) (nx : NX M S E n b0 i) : G M S E n g 561 [some (.ref b0), some (.ref (E.1 0)), some (.ref (E.1 286)), some (.int (nI i))] [] := by
  obtain ⟨hsn, v, rem, v2, rem2, pt, inp, out, sl⟩ := K
  refine r_aload_n (pc := 561) C dL_law_561 rfl ?_
  refine r_aload_n (pc := 562) C dL_law_562 rfl ?_
  refine r_iload_n (pc := 563) C dL_law_563 rfl ?_
  refine r_iconst (pc := 564) (v := nI 1) C dL_law_564 (by decide +kernel) ?_
  refine r_iadd (pc := 565) C dL_law_565 ?_
  refine r_sld (pc := 566) C X dL_law_566 (nI_add i 1) (by omega) hL ?_
  refine r_aload_n (pc := 567) C dL_law_567 rfl ?_
  refine r_iload_n (pc := 568) C dL_law_568 rfl ?_
  refine r_iconst (pc := 569) (v := nI 2) C dL_law_569 (by decide +kernel) ?_
  refine r_iadd (pc := 570) C dL_law_570 ?_
  refine r_sld (pc := 571) C X dL_law_571 (nI_add i 2) (by omega) hL ?_
  refine r_aload_n (pc := 572) C dL_law_572 rfl ?_
  refine r_iload_n (pc := 573) C dL_law_573 rfl ?_
  refine r_iconst (pc := 574) (v := nI 3) C dL_law_574 (by decide +kernel) ?_
  refine r_iadd (pc := 575) C dL_law_575 ?_
  refine r_sld (pc := 576) C X dL_law_576 (nI_add i 3) (by omega) hL ?_
  refine r_callV (pc := 577) C dL_law_577 cv_RL_58 (c_X7_substitute hB hR.so (xs (i + 1)) (xs (i + 2)) (xs (i + 3))) ⟨rfl, rfl, by decide, by decide⟩ (show Ce E g 0 _ from hB.1) rfl rfl (Nat.le_of_ble_eq_true rfl) hn ?_
  rintro _ g1 ⟨_, rfl, rfl, hB1, hF1⟩
  have hM1 := hM.far hF1 (Nat.le_refl _)
  show G M S E n g1 580 _ [.int _]
  refine r_aload_n (pc := 580) C dL_law_580 rfl ?_
  refine r_aload_n (pc := 581) C dL_law_581 rfl ?_
  refine r_iload_n (pc := 582) C dL_law_582 rfl ?_
  refine r_iconst (pc := 583) (v := nI 1) C dL_law_583 (by decide +kernel) ?_
  refine r_iadd (pc := 584) C dL_law_584 ?_
  refine r_sld (pc := 585) C X dL_law_585 (nI_add i 1) (by omega) hL ?_
  refine r_aload_n (pc := 586) C dL_law_586 rfl ?_
  refine r_iload_n (pc := 587) C dL_law_587 rfl ?_
  refine r_iconst (pc := 588) (v := nI 2) C dL_law_588 (by decide +kernel) ?_
  refine r_iadd (pc := 589) C dL_law_589 ?_
  refine r_sld (pc := 590) C X dL_law_590 (nI_add i 2) (by omega) hL ?_
  refine r_aload_n (pc := 591) C dL_law_591 rfl ?_
  refine r_iload_n (pc := 592) C dL_law_592 rfl ?_
  refine r_iconst (pc := 593) (v := nI 3) C dL_law_593 (by decide +kernel) ?_
  refine r_iadd (pc := 594) C dL_law_594 ?_
  refine r_sld (pc := 595) C X dL_law_595 (nI_add i 3) (by omega) hL ?_
  refine r_callV (pc := 596) C dL_law_596 cv_RL_61 (c_X8_substitute hM1 hR.z4 hR.z24 (xs (i + 1)) (xs (i + 2)) (xs (i + 3))) ⟨rfl, rfl, by decide, by decide⟩ (hM1).1 rfl rfl (Nat.le_of_ble_eq_true rfl) hn ?_
  rintro _ g2 ⟨_, rfl, rfl, ⟨z', hM2, hs⟩, hF2⟩
  show G M S E n g2 599 _ [.int _, .int _]
  have rr := rr_sub hR (xs (i + 1)) (xs (i + 2)) (xs (i + 3))
  exact r_icmp_eq (pc := 599) (tgt := 1542) C dL_law_599 (by decide) (fun _ => nx _ _ _ (hB1.far hF2 (Nat.le_refl _)) hM2 (rr.2.sv hs)) (fun h => absurd rr.1 h)
set_option maxHeartbeats 4000000 in
set_option maxRecDepth 100000 in
theorem lc_604 {M : MT} {S : ST} {E : ET} {n : Nat × Nat} {g : Nat → va_E} {b0 L i : Nat} {xs : Nat → Int32} (C : Cx M S cL_law 4 RL ret room_1) (X : LX M b0 L xs) (hi : i + 6 ≤ L) (hL : L ≤ 3072) (hn : n.1 ≤ room_1.cells ∧ n.2 ≤ room_1.slots) {K : KV} {z : MZ} (hB : BC S E g K) (hM : MC S E g z) (hR : RR K z) (nx : NX M S E n b0 i) : G M S E n g 604 [some (.ref b0), some (.ref (E.1 0)), some (.ref (E.1 286)), some (.int (nI i))] [] := by
  obtain ⟨hsn, v, rem, v2, rem2, pt, inp, out, sl⟩ := K
  refine r_aload_n (pc := 604) C dL_law_604 rfl ?_
  refine r_aload_n (pc := 605) C dL_law_605 rfl ?_
  refine r_iload_n (pc := 606) C dL_law_606 rfl ?_
  refine r_iconst (pc := 607) (v := nI 1) C dL_law_607 (by decide +kernel) ?_
  refine r_iadd (pc := 608) C dL_law_608 ?_
  refine r_sld (pc := 609) C X dL_law_609 (nI_add i 1) (by omega) hL ?_
  refine r_aload_n (pc := 610) C dL_law_610 rfl ?_
  refine r_iload_n (pc := 611) C dL_law_611 rfl ?_
  refine r_iconst (pc := 612) (v := nI 2) C dL_law_612 (by decide +kernel) ?_
  refine r_iadd (pc := 613) C dL_law_613 ?_
  refine r_sld (pc := 614) C X dL_law_614 (nI_add i 2) (by omega) hL ?_
  refine r_aload_n (pc := 615) C dL_law_615 rfl ?_
  refine r_iload_n (pc := 616) C dL_law_616 rfl ?_
  refine r_iconst (pc := 617) (v := nI 3) C dL_law_617 (by decide +kernel) ?_
  refine r_iadd (pc := 618) C dL_law_618 ?_
  refine r_sld (pc := 619) C X dL_law_619 (nI_add i 3) (by omega) hL ?_
  refine r_aload_n (pc := 620) C dL_law_620 rfl ?_
  refine r_iload_n (pc := 621) C dL_law_621 rfl ?_
  refine r_iconst (pc := 622) (v := nI 4) C dL_law_622 (by decide +kernel) ?_
  refine r_iadd (pc := 623) C dL_law_623 ?_
  refine r_sld (pc := 624) C X dL_law_624 (nI_add i 4) (by omega) hL ?_
  refine r_callV (pc := 625) C dL_law_625 cv_RL_62 (c_X7_product hB hR.so (xs (i + 1)) (xs (i + 2)) (xs (i + 3)) (xs (i + 4))) ⟨rfl, rfl, by decide, by decide⟩ (show Ce E g 0 _ from hB.1) rfl rfl (Nat.le_of_ble_eq_true rfl) hn ?_
  rintro _ g1 ⟨_, rfl, rfl, hB1, hF1⟩
  have hM1 := hM.far hF1 (Nat.le_refl _)
  show G M S E n g1 628 _ [.int _]
  refine r_aload_n (pc := 628) C dL_law_628 rfl ?_
  refine r_aload_n (pc := 629) C dL_law_629 rfl ?_
  refine r_iload_n (pc := 630) C dL_law_630 rfl ?_
  refine r_iconst (pc := 631) (v := nI 1) C dL_law_631 (by decide +kernel) ?_
  refine r_iadd (pc := 632) C dL_law_632 ?_
  refine r_sld (pc := 633) C X dL_law_633 (nI_add i 1) (by omega) hL ?_
  refine r_aload_n (pc := 634) C dL_law_634 rfl ?_
  refine r_iload_n (pc := 635) C dL_law_635 rfl ?_
  refine r_iconst (pc := 636) (v := nI 2) C dL_law_636 (by decide +kernel) ?_
  refine r_iadd (pc := 637) C dL_law_637 ?_
  refine r_sld (pc := 638) C X dL_law_638 (nI_add i 2) (by omega) hL ?_
  refine r_aload_n (pc := 639) C dL_law_639 rfl ?_
  refine r_iload_n (pc := 640) C dL_law_640 rfl ?_
  refine r_iconst (pc := 641) (v := nI 3) C dL_law_641 (by decide +kernel) ?_
  refine r_iadd (pc := 642) C dL_law_642 ?_
  refine r_sld (pc := 643) C X dL_law_643 (nI_add i 3) (by omega) hL ?_
  refine r_aload_n (pc := 644) C dL_law_644 rfl ?_
  refine r_iload_n (pc := 645) C dL_law_645 rfl ?_
  refine r_iconst (pc := 646) (v := nI 4) C dL_law_646 (by decide +kernel) ?_
  refine r_iadd (pc := 647) C dL_law_647 ?_
  refine r_sld (pc := 648) C X dL_law_648 (nI_add i 4) (by omega) hL ?_
  refine r_callV (pc := 649) C dL_law_649 cv_RL_65 (c_X8_product hM1 hR.z4 hR.z24 (xs (i + 1)) (xs (i + 2)) (xs (i + 3)) (xs (i + 4))) ⟨rfl, rfl, by decide, by decide⟩ (hM1).1 rfl rfl (Nat.le_of_ble_eq_true rfl) hn ?_
  rintro _ g2 ⟨_, rfl, rfl, ⟨z', hM2, hs⟩, hF2⟩
  show G M S E n g2 652 _ [.int _, .int _]
  have rr := rr_pro hR (xs (i + 1)) (xs (i + 2)) (xs (i + 3)) (xs (i + 4))
  exact r_icmp_eq (pc := 652) (tgt := 1542) C dL_law_652 (by decide) (fun _ => nx _ _ _ (hB1.far hF2 (Nat.le_refl _)) hM2 (rr.2.sv hs)) (fun h => absurd rr.1 h)
set_option maxHeartbeats 4000000 in
set_option maxRecDepth 100000 in
theorem lc_657 {M : MT} {S : ST} {E : ET} {n : Nat × Nat} {g : Nat → va_E} {b0 L i : Nat} {xs : Nat → Int32} (C : Cx M S cL_law 4 RL ret room_1) (X : LX M b0 L xs) (hi : i + 6 ≤ L) (hL : L ≤ 3072) (hn : n.1 ≤ room_1.cells ∧ n.2 ≤ room_1.slots) {K : KV} {z : MZ} (hB : BC S E g K) (hM : MC S E g z) (hR : RR K z) (nx : NX M S E n b0 i) : G M S E n g 657 [some (.ref b0), some (.ref (E.1 0)), some (.ref (E.1 286)), some (.int (nI i))] [] := by
  obtain ⟨hsn, v, rem, v2, rem2, pt, inp, out, sl⟩ := K
  refine r_aload_n (pc := 657) C dL_law_657 rfl ?_
  refine r_aload_n (pc := 658) C dL_law_658 rfl ?_
  refine r_iload_n (pc := 659) C dL_law_659 rfl ?_
  refine r_iconst (pc := 660) (v := nI 1) C dL_law_660 (by decide +kernel) ?_
  refine r_iadd (pc := 661) C dL_law_661 ?_
  refine r_sld (pc := 662) C X dL_law_662 (nI_add i 1) (by omega) hL ?_
  refine r_aload_n (pc := 663) C dL_law_663 rfl ?_
  refine r_iload_n (pc := 664) C dL_law_664 rfl ?_
  refine r_iconst (pc := 665) (v := nI 2) C dL_law_665 (by decide +kernel) ?_
  refine r_iadd (pc := 666) C dL_law_666 ?_
  refine r_sld (pc := 667) C X dL_law_667 (nI_add i 2) (by omega) hL ?_
  refine r_callV (pc := 668) C dL_law_668 cv_RL_66 (c_X7_firstDifference hB hR.so (xs (i + 1)) (xs (i + 2))) ⟨rfl, rfl, by decide, by decide⟩ (show Ce E g 0 _ from hB.1) rfl rfl (Nat.le_of_ble_eq_true rfl) hn ?_
  rintro _ _ ⟨_, rfl, rfl, rfl⟩
  show G M S E n g 671 _ [.int _]
  refine r_aload_n (pc := 671) C dL_law_671 rfl ?_
  refine r_aload_n (pc := 672) C dL_law_672 rfl ?_
  refine r_iload_n (pc := 673) C dL_law_673 rfl ?_
  refine r_iconst (pc := 674) (v := nI 1) C dL_law_674 (by decide +kernel) ?_
  refine r_iadd (pc := 675) C dL_law_675 ?_
  refine r_sld (pc := 676) C X dL_law_676 (nI_add i 1) (by omega) hL ?_
  refine r_aload_n (pc := 677) C dL_law_677 rfl ?_
  refine r_iload_n (pc := 678) C dL_law_678 rfl ?_
  refine r_iconst (pc := 679) (v := nI 2) C dL_law_679 (by decide +kernel) ?_
  refine r_iadd (pc := 680) C dL_law_680 ?_
  refine r_sld (pc := 681) C X dL_law_681 (nI_add i 2) (by omega) hL ?_
  refine r_callV (pc := 682) C dL_law_682 cv_RL_70 (c_X8_firstDifference hM hR.z4 hR.z24 (xs (i + 1)) (xs (i + 2))) ⟨rfl, rfl, by decide, by decide⟩ (hM).1 rfl rfl (Nat.le_of_ble_eq_true rfl) hn ?_
  rintro _ _ ⟨_, rfl, rfl, rfl⟩
  show G M S E n g 685 _ [.int _, .int _]
  have rr := rr_dif hR (xs (i + 1)) (xs (i + 2))
  exact r_icmp_eq (pc := 685) (tgt := 1542) C dL_law_685 (by decide) (fun _ => nx _ _ _ hB hM hR) (fun h => absurd rr h)
set_option maxHeartbeats 4000000 in
set_option maxRecDepth 100000 in
theorem lc_690 {M : MT} {S : ST} {E : ET} {n : Nat × Nat} {g : Nat → va_E} {b0 L i : Nat} {xs : Nat → Int32} (C : Cx M S cL_law 4 RL ret room_1) (X : LX M b0 L xs) (hi : i + 6 ≤ L) (hL : L ≤ 3072) (hn : n.1 ≤ room_1.cells ∧ n.2 ≤ room_1.slots) {K : KV} {z : MZ} (hB : BC S E g K) (hM : MC S E g z) (hR : RR K z) (nx : NX M S E n b0 i) : G M S E n g 690 [some (.ref b0), some (.ref (E.1 0)), some (.ref (E.1 286)), some (.int (nI i))] [] := by
  obtain ⟨hsn, v, rem, v2, rem2, pt, inp, out, sl⟩ := K
  refine r_aload_n (pc := 690) C dL_law_690 rfl ?_
  refine r_aload_n (pc := 691) C dL_law_691 rfl ?_
  refine r_iload_n (pc := 692) C dL_law_692 rfl ?_
  refine r_iconst (pc := 693) (v := nI 1) C dL_law_693 (by decide +kernel) ?_
  refine r_iadd (pc := 694) C dL_law_694 ?_
  refine r_sld (pc := 695) C X dL_law_695 (nI_add i 1) (by omega) hL ?_
  refine r_aload_n (pc := 696) C dL_law_696 rfl ?_
  refine r_iload_n (pc := 697) C dL_law_697 rfl ?_
  refine r_iconst (pc := 698) (v := nI 2) C dL_law_698 (by decide +kernel) ?_
  refine r_iadd (pc := 699) C dL_law_699 ?_
  refine r_sld (pc := 700) C X dL_law_700 (nI_add i 2) (by omega) hL ?_
  refine r_callV (pc := 701) C dL_law_701 cv_RL_71 (c_X7_valueAt hB hR.so (xs (i + 1)) (xs (i + 2))) ⟨rfl, rfl, by decide, by decide⟩ (show Ce E g 0 _ from hB.1) rfl rfl (Nat.le_of_ble_eq_true rfl) hn ?_
  rintro _ _ ⟨_, rfl, rfl, rfl⟩
  show G M S E n g 704 _ [.int _]
  refine r_aload_n (pc := 704) C dL_law_704 rfl ?_
  refine r_aload_n (pc := 705) C dL_law_705 rfl ?_
  refine r_iload_n (pc := 706) C dL_law_706 rfl ?_
  refine r_iconst (pc := 707) (v := nI 1) C dL_law_707 (by decide +kernel) ?_
  refine r_iadd (pc := 708) C dL_law_708 ?_
  refine r_sld (pc := 709) C X dL_law_709 (nI_add i 1) (by omega) hL ?_
  refine r_aload_n (pc := 710) C dL_law_710 rfl ?_
  refine r_iload_n (pc := 711) C dL_law_711 rfl ?_
  refine r_iconst (pc := 712) (v := nI 2) C dL_law_712 (by decide +kernel) ?_
  refine r_iadd (pc := 713) C dL_law_713 ?_
  refine r_sld (pc := 714) C X dL_law_714 (nI_add i 2) (by omega) hL ?_
  refine r_callV (pc := 715) C dL_law_715 cv_RL_74 (c_X8_valueAt hM hR.z4 hR.z24 (xs (i + 1)) (xs (i + 2))) ⟨rfl, rfl, by decide, by decide⟩ (hM).1 rfl rfl (Nat.le_of_ble_eq_true rfl) hn ?_
  rintro _ _ ⟨_, rfl, rfl, rfl⟩
  show G M S E n g 718 _ [.int _, .int _]
  have rr := rr_val hR (xs (i + 1)) (xs (i + 2))
  exact r_icmp_eq (pc := 718) (tgt := 1542) C dL_law_718 (by decide) (fun _ => nx _ _ _ hB hM hR) (fun h => absurd rr h)
set_option maxHeartbeats 4000000 in
set_option maxRecDepth 100000 in
theorem lc_723 {M : MT} {S : ST} {E : ET} {n : Nat × Nat} {g : Nat → va_E} {b0 L i : Nat} {xs : Nat → Int32} (C : Cx M S cL_law 4 RL ret room_1) (X : LX M b0 L xs) (hi : i + 6 ≤ L) (hL : L ≤ 3072) (hn : n.1 ≤ room_1.cells ∧ n.2 ≤ room_1.slots) {K : KV} {z : MZ} (hB : BC S E g K) (hM : MC S E g z) (hR : RR K z) (nx : NX M S E n b0 i) : G M S E n g 723 [some (.ref b0), some (.ref (E.1 0)), some (.ref (E.1 286)), some (.int (nI i))] [] := by
  obtain ⟨hsn, v, rem, v2, rem2, pt, inp, out, sl⟩ := K
  refine r_aload_n (pc := 723) C dL_law_723 rfl ?_
  refine r_aload_n (pc := 724) C dL_law_724 rfl ?_
  refine r_iload_n (pc := 725) C dL_law_725 rfl ?_
  refine r_iconst (pc := 726) (v := nI 1) C dL_law_726 (by decide +kernel) ?_
  refine r_iadd (pc := 727) C dL_law_727 ?_
  refine r_sld (pc := 728) C X dL_law_728 (nI_add i 1) (by omega) hL ?_
  refine r_aload_n (pc := 729) C dL_law_729 rfl ?_
  refine r_iload_n (pc := 730) C dL_law_730 rfl ?_
  refine r_iconst (pc := 731) (v := nI 2) C dL_law_731 (by decide +kernel) ?_
  refine r_iadd (pc := 732) C dL_law_732 ?_
  refine r_sld (pc := 733) C X dL_law_733 (nI_add i 2) (by omega) hL ?_
  refine r_callV (pc := 734) C dL_law_734 cv_RL_75 (c_X7_statistic hB hR.so (xs (i + 1)) (xs (i + 2))) ⟨rfl, rfl, by decide, by decide⟩ (show Ce E g 0 _ from hB.1) rfl rfl (Nat.le_of_ble_eq_true rfl) hn ?_
  rintro _ _ ⟨_, rfl, rfl, rfl⟩
  show G M S E n g 737 _ [.int _]
  refine r_aload_n (pc := 737) C dL_law_737 rfl ?_
  refine r_aload_n (pc := 738) C dL_law_738 rfl ?_
  refine r_iload_n (pc := 739) C dL_law_739 rfl ?_
  refine r_iconst (pc := 740) (v := nI 1) C dL_law_740 (by decide +kernel) ?_
  refine r_iadd (pc := 741) C dL_law_741 ?_
  refine r_sld (pc := 742) C X dL_law_742 (nI_add i 1) (by omega) hL ?_
  refine r_aload_n (pc := 743) C dL_law_743 rfl ?_
  refine r_iload_n (pc := 744) C dL_law_744 rfl ?_
  refine r_iconst (pc := 745) (v := nI 2) C dL_law_745 (by decide +kernel) ?_
  refine r_iadd (pc := 746) C dL_law_746 ?_
  refine r_sld (pc := 747) C X dL_law_747 (nI_add i 2) (by omega) hL ?_
  refine r_callV (pc := 748) C dL_law_748 cv_RL_78 (c_X8_statistic hM hR.z4 hR.z24 (xs (i + 1)) (xs (i + 2))) ⟨rfl, rfl, by decide, by decide⟩ (hM).1 rfl rfl (Nat.le_of_ble_eq_true rfl) hn ?_
  rintro _ _ ⟨_, rfl, rfl, rfl⟩
  show G M S E n g 751 _ [.int _, .int _]
  have rr := rr_sta hR (xs (i + 1)) (xs (i + 2))
  exact r_icmp_eq (pc := 751) (tgt := 1542) C dL_law_751 (by decide) (fun _ => nx _ _ _ hB hM hR) (fun h => absurd rr h)
set_option maxHeartbeats 4000000 in
set_option maxRecDepth 100000 in
theorem lc_756 {M : MT} {S : ST} {E : ET} {n : Nat × Nat} {g : Nat → va_E} {b0 L i : Nat} {xs : Nat → Int32} (C : Cx M S cL_law 4 RL ret room_1) (X : LX M b0 L xs) (hi : i + 6 ≤ L) (hL : L ≤ 3072) (hn : n.1 ≤ room_1.cells ∧ n.2 ≤ room_1.slots) {K : KV} {z : MZ} (hB : BC S E g K) (hM : MC S E g z) (hR : RR K z) (nx : NX M S E n b0 i) : G M S E n g 756 [some (.ref b0), some (.ref (E.1 0)), some (.ref (E.1 286)), some (.int (nI i))] [] := by
  obtain ⟨hsn, v, rem, v2, rem2, pt, inp, out, sl⟩ := K
  refine r_aload_n (pc := 756) C dL_law_756 rfl ?_
  refine r_aload_n (pc := 757) C dL_law_757 rfl ?_
  refine r_iload_n (pc := 758) C dL_law_758 rfl ?_
  refine r_iconst (pc := 759) (v := nI 1) C dL_law_759 (by decide +kernel) ?_
  refine r_iadd (pc := 760) C dL_law_760 ?_
  refine r_sld (pc := 761) C X dL_law_761 (nI_add i 1) (by omega) hL ?_
  refine r_callV (pc := 762) C dL_law_762 cv_RL_79 (c_X7_registerByRank hB hR.so (xs (i + 1))) ⟨rfl, rfl, by decide, by decide⟩ (show Ce E g 0 _ from hB.1) rfl rfl (Nat.le_of_ble_eq_true rfl) hn ?_
  rintro _ _ ⟨_, rfl, rfl, rfl⟩
  show G M S E n g 765 _ [.int _]
  refine r_aload_n (pc := 765) C dL_law_765 rfl ?_
  refine r_aload_n (pc := 766) C dL_law_766 rfl ?_
  refine r_iload_n (pc := 767) C dL_law_767 rfl ?_
  refine r_iconst (pc := 768) (v := nI 1) C dL_law_768 (by decide +kernel) ?_
  refine r_iadd (pc := 769) C dL_law_769 ?_
  refine r_sld (pc := 770) C X dL_law_770 (nI_add i 1) (by omega) hL ?_
  refine r_callV (pc := 771) C dL_law_771 cv_RL_82 (c_X8_registerByRank hM hR.z4 hR.z24 (xs (i + 1))) ⟨rfl, rfl, by decide, by decide⟩ (hM).1 rfl rfl (Nat.le_of_ble_eq_true rfl) hn ?_
  rintro _ _ ⟨_, rfl, rfl, rfl⟩
  show G M S E n g 774 _ [.int _, .int _]
  have rr := rr_rnk hR (xs (i + 1))
  exact r_icmp_eq (pc := 774) (tgt := 1542) C dL_law_774 (by decide) (fun _ => nx _ _ _ hB hM hR) (fun h => absurd rr h)
set_option maxHeartbeats 4000000 in
set_option maxRecDepth 100000 in
theorem lc_779 {M : MT} {S : ST} {E : ET} {n : Nat × Nat} {g : Nat → va_E} {b0 L i : Nat} {xs : Nat → Int32} (C : Cx M S cL_law 4 RL ret room_1) (X : LX M b0 L xs) (hi : i + 6 ≤ L) (hL : L ≤ 3072) (hn : n.1 ≤ room_1.cells ∧ n.2 ≤ room_1.slots) {K : KV} {z : MZ} (hB : BC S E g K) (hM : MC S E g z) (hR : RR K z) (nx : NX M S E n b0 i) : G M S E n g 779 [some (.ref b0), some (.ref (E.1 0)), some (.ref (E.1 286)), some (.int (nI i))] [] := by
  obtain ⟨hsn, v, rem, v2, rem2, pt, inp, out, sl⟩ := K
  refine r_aload_n (pc := 779) C dL_law_779 rfl ?_
  refine r_aload_n (pc := 780) C dL_law_780 rfl ?_
  refine r_iload_n (pc := 781) C dL_law_781 rfl ?_
  refine r_iconst (pc := 782) (v := nI 1) C dL_law_782 (by decide +kernel) ?_
  refine r_iadd (pc := 783) C dL_law_783 ?_
  refine r_sld (pc := 784) C X dL_law_784 (nI_add i 1) (by omega) hL ?_
  refine r_callV (pc := 785) C dL_law_785 cv_RL_83 (c_X7_unitPair hB hR.so unOk (xs (i + 1))) ⟨rfl, rfl, by decide, by decide⟩ (show Ce E g 0 _ from hB.1) rfl rfl (Nat.le_of_ble_eq_true rfl) hn ?_
  rintro _ g1 ⟨_, rfl, rfl, hB1, hF1⟩
  have hM1 := hM.far hF1 (Nat.le_refl _)
  show G M S E n g1 788 _ [.int _]
  refine r_aload_n (pc := 788) C dL_law_788 rfl ?_
  refine r_aload_n (pc := 789) C dL_law_789 rfl ?_
  refine r_iload_n (pc := 790) C dL_law_790 rfl ?_
  refine r_iconst (pc := 791) (v := nI 1) C dL_law_791 (by decide +kernel) ?_
  refine r_iadd (pc := 792) C dL_law_792 ?_
  refine r_sld (pc := 793) C X dL_law_793 (nI_add i 1) (by omega) hL ?_
  refine r_callV (pc := 794) C dL_law_794 cv_RL_86 (c_X8_unitPair hM1 hR.z4 hR.z24 unZ_ok (xs (i + 1))) ⟨rfl, rfl, by decide, by decide⟩ (hM1).1 rfl rfl (Nat.le_of_ble_eq_true rfl) hn ?_
  rintro _ g2 ⟨_, rfl, rfl, ⟨z', hM2, hs⟩, hF2⟩
  show G M S E n g2 797 _ [.int _, .int _]
  have rr := rr_uni hR (xs (i + 1))
  exact r_icmp_eq (pc := 797) (tgt := 1542) C dL_law_797 (by decide) (fun _ => nx _ _ _ (hB1.far hF2 (Nat.le_refl _)) hM2 (rr.2.sv hs)) (fun h => absurd rr.1 h)
set_option maxHeartbeats 4000000 in
set_option maxRecDepth 100000 in
theorem lc_802 {M : MT} {S : ST} {E : ET} {n : Nat × Nat} {g : Nat → va_E} {b0 L i : Nat} {xs : Nat → Int32} (C : Cx M S cL_law 4 RL ret room_1) (X : LX M b0 L xs) (hi : i + 6 ≤ L) (hL : L ≤ 3072) (hn : n.1 ≤ room_1.cells ∧ n.2 ≤ room_1.slots) {K : KV} {z : MZ} (hB : BC S E g K) (hM : MC S E g z) (hR : RR K z) (nx : NX M S E n b0 i) : G M S E n g 802 [some (.ref b0), some (.ref (E.1 0)), some (.ref (E.1 286)), some (.int (nI i))] [] := by
  obtain ⟨hsn, v, rem, v2, rem2, pt, inp, out, sl⟩ := K
  refine r_aload_n (pc := 802) C dL_law_802 rfl ?_
  refine r_aload_n (pc := 803) C dL_law_803 rfl ?_
  refine r_iload_n (pc := 804) C dL_law_804 rfl ?_
  refine r_iconst (pc := 805) (v := nI 1) C dL_law_805 (by decide +kernel) ?_
  refine r_iadd (pc := 806) C dL_law_806 ?_
  refine r_sld (pc := 807) C X dL_law_807 (nI_add i 1) (by omega) hL ?_
  refine r_aload_n (pc := 808) C dL_law_808 rfl ?_
  refine r_iload_n (pc := 809) C dL_law_809 rfl ?_
  refine r_iconst (pc := 810) (v := nI 2) C dL_law_810 (by decide +kernel) ?_
  refine r_iadd (pc := 811) C dL_law_811 ?_
  refine r_sld (pc := 812) C X dL_law_812 (nI_add i 2) (by omega) hL ?_
  refine r_callV (pc := 813) C dL_law_813 cv_RL_87 (c_X7_setAlpha hB hR.so (xs (i + 1)) (xs (i + 2))) ⟨rfl, rfl, by decide, by decide⟩ (show Ce E g 0 _ from hB.1) rfl rfl (Nat.le_of_ble_eq_true rfl) hn ?_
  rintro _ g1 ⟨_, rfl, rfl, hB1, hF1⟩
  have hM1 := hM.far hF1 (Nat.le_refl _)
  show G M S E n g1 816 _ [.int _]
  refine r_aload_n (pc := 816) C dL_law_816 rfl ?_
  refine r_aload_n (pc := 817) C dL_law_817 rfl ?_
  refine r_iload_n (pc := 818) C dL_law_818 rfl ?_
  refine r_iconst (pc := 819) (v := nI 1) C dL_law_819 (by decide +kernel) ?_
  refine r_iadd (pc := 820) C dL_law_820 ?_
  refine r_sld (pc := 821) C X dL_law_821 (nI_add i 1) (by omega) hL ?_
  refine r_aload_n (pc := 822) C dL_law_822 rfl ?_
  refine r_iload_n (pc := 823) C dL_law_823 rfl ?_
  refine r_iconst (pc := 824) (v := nI 2) C dL_law_824 (by decide +kernel) ?_
  refine r_iadd (pc := 825) C dL_law_825 ?_
  refine r_sld (pc := 826) C X dL_law_826 (nI_add i 2) (by omega) hL ?_
  refine r_callV (pc := 827) C dL_law_827 cv_RL_90 (c_X8_setAlpha hM1 hR.z4 hR.z24 hR.zr (xs (i + 1)) (xs (i + 2))) ⟨rfl, rfl, by decide, by decide⟩ (hM1).1 rfl rfl (Nat.le_of_ble_eq_true rfl) hn ?_
  rintro _ g2 ⟨_, rfl, rfl, ⟨z', hM2, hs⟩, hF2⟩
  show G M S E n g2 830 _ [.int _, .int _]
  have rr := rr_seA hR (xs (i + 1)) (xs (i + 2))
  exact r_icmp_eq (pc := 830) (tgt := 1542) C dL_law_830 (by decide) (fun _ => nx _ _ _ (hB1.far hF2 (Nat.le_refl _)) hM2 (rr.2.sv hs)) (fun h => absurd rr.1 h)
set_option maxHeartbeats 4000000 in
set_option maxRecDepth 100000 in
theorem lc_835 {M : MT} {S : ST} {E : ET} {n : Nat × Nat} {g : Nat → va_E} {b0 L i : Nat} {xs : Nat → Int32} (C : Cx M S cL_law 4 RL ret room_1) (X : LX M b0 L xs) (hi : i + 6 ≤ L) (hL : L ≤ 3072) (hn : n.1 ≤ room_1.cells ∧ n.2 ≤ room_1.slots) {K : KV} {z : MZ} (hB : BC S E g K) (hM : MC S E g z) (hR : RR K z) (nx : NX M S E n b0 i) : G M S E n g 835 [some (.ref b0), some (.ref (E.1 0)), some (.ref (E.1 286)), some (.int (nI i))] [] := by
  obtain ⟨hsn, v, rem, v2, rem2, pt, inp, out, sl⟩ := K
  refine r_aload_n (pc := 835) C dL_law_835 rfl ?_
  refine r_aload_n (pc := 836) C dL_law_836 rfl ?_
  refine r_iload_n (pc := 837) C dL_law_837 rfl ?_
  refine r_iconst (pc := 838) (v := nI 1) C dL_law_838 (by decide +kernel) ?_
  refine r_iadd (pc := 839) C dL_law_839 ?_
  refine r_sld (pc := 840) C X dL_law_840 (nI_add i 1) (by omega) hL ?_
  refine r_aload_n (pc := 841) C dL_law_841 rfl ?_
  refine r_iload_n (pc := 842) C dL_law_842 rfl ?_
  refine r_iconst (pc := 843) (v := nI 2) C dL_law_843 (by decide +kernel) ?_
  refine r_iadd (pc := 844) C dL_law_844 ?_
  refine r_sld (pc := 845) C X dL_law_845 (nI_add i 2) (by omega) hL ?_
  refine r_callV (pc := 846) C dL_law_846 cv_RL_91 (c_X7_setBeta hB hR.so (xs (i + 1)) (xs (i + 2))) ⟨rfl, rfl, by decide, by decide⟩ (show Ce E g 0 _ from hB.1) rfl rfl (Nat.le_of_ble_eq_true rfl) hn ?_
  rintro _ g1 ⟨_, rfl, rfl, hB1, hF1⟩
  have hM1 := hM.far hF1 (Nat.le_refl _)
  show G M S E n g1 849 _ [.int _]
  refine r_aload_n (pc := 849) C dL_law_849 rfl ?_
  refine r_aload_n (pc := 850) C dL_law_850 rfl ?_
  refine r_iload_n (pc := 851) C dL_law_851 rfl ?_
  refine r_iconst (pc := 852) (v := nI 1) C dL_law_852 (by decide +kernel) ?_
  refine r_iadd (pc := 853) C dL_law_853 ?_
  refine r_sld (pc := 854) C X dL_law_854 (nI_add i 1) (by omega) hL ?_
  refine r_aload_n (pc := 855) C dL_law_855 rfl ?_
  refine r_iload_n (pc := 856) C dL_law_856 rfl ?_
  refine r_iconst (pc := 857) (v := nI 2) C dL_law_857 (by decide +kernel) ?_
  refine r_iadd (pc := 858) C dL_law_858 ?_
  refine r_sld (pc := 859) C X dL_law_859 (nI_add i 2) (by omega) hL ?_
  refine r_callV (pc := 860) C dL_law_860 cv_RL_94 (c_X8_setBeta hM1 hR.z4 hR.z24 hR.zr (xs (i + 1)) (xs (i + 2))) ⟨rfl, rfl, by decide, by decide⟩ (hM1).1 rfl rfl (Nat.le_of_ble_eq_true rfl) hn ?_
  rintro _ g2 ⟨_, rfl, rfl, ⟨z', hM2, hs⟩, hF2⟩
  show G M S E n g2 863 _ [.int _, .int _]
  have rr := rr_seB hR (xs (i + 1)) (xs (i + 2))
  exact r_icmp_eq (pc := 863) (tgt := 1542) C dL_law_863 (by decide) (fun _ => nx _ _ _ (hB1.far hF2 (Nat.le_refl _)) hM2 (rr.2.sv hs)) (fun h => absurd rr.1 h)
set_option maxHeartbeats 4000000 in
set_option maxRecDepth 100000 in
theorem lc_868 {M : MT} {S : ST} {E : ET} {n : Nat × Nat} {g : Nat → va_E} {b0 L i : Nat} {xs : Nat → Int32} (C : Cx M S cL_law 4 RL ret room_1) (X : LX M b0 L xs) (hi : i + 6 ≤ L) (hL : L ≤ 3072) (hn : n.1 ≤ room_1.cells ∧ n.2 ≤ room_1.slots) {K : KV} {z : MZ} (hB : BC S E g K) (hM : MC S E g z) (hR : RR K z) (nx : NX M S E n b0 i) : G M S E n g 868 [some (.ref b0), some (.ref (E.1 0)), some (.ref (E.1 286)), some (.int (nI i))] [] := by
  obtain ⟨hsn, v, rem, v2, rem2, pt, inp, out, sl⟩ := K
  refine r_aload_n (pc := 868) C dL_law_868 rfl ?_
  refine r_callV (pc := 869) C dL_law_869 cv_RL_95 (c_X7_step hB hR.so) ⟨rfl, rfl, by decide, by decide⟩ (show Ce E g 0 _ from hB.1) rfl rfl (Nat.le_of_ble_eq_true rfl) hn ?_
  rintro _ g1 ⟨_, rfl, rfl, hB1, hF1⟩
  have hM1 := hM.far hF1 (Nat.le_refl _)
  show G M S E n g1 872 _ [.int _]
  refine r_aload_n (pc := 872) C dL_law_872 rfl ?_
  refine r_callV (pc := 873) C dL_law_873 cv_RL_98 (c_X8_step hM1 hR.z4 hR.z24 hR.zr hR.zm) ⟨rfl, rfl, by decide, by decide⟩ (hM1).1 rfl rfl (Nat.le_of_ble_eq_true rfl) hn ?_
  rintro _ g2 ⟨_, rfl, rfl, ⟨z', hM2, hs⟩, hF2⟩
  show G M S E n g2 876 _ [.int _, .int _]
  have rr := rr_stp hR
  exact r_icmp_eq (pc := 876) (tgt := 1542) C dL_law_876 (by decide) (fun _ => nx _ _ _ (hB1.far hF2 (Nat.le_refl _)) hM2 (rr.2.sv hs)) (fun h => absurd rr.1 h)
set_option maxHeartbeats 4000000 in
set_option maxRecDepth 100000 in
theorem lc_881 {M : MT} {S : ST} {E : ET} {n : Nat × Nat} {g : Nat → va_E} {b0 L i : Nat} {xs : Nat → Int32} (C : Cx M S cL_law 4 RL ret room_1) (X : LX M b0 L xs) (hi : i + 6 ≤ L) (hL : L ≤ 3072) (hn : n.1 ≤ room_1.cells ∧ n.2 ≤ room_1.slots) {K : KV} {z : MZ} (hB : BC S E g K) (hM : MC S E g z) (hR : RR K z) (nx : NX M S E n b0 i) : G M S E n g 881 [some (.ref b0), some (.ref (E.1 0)), some (.ref (E.1 286)), some (.int (nI i))] [] := by
  obtain ⟨hsn, v, rem, v2, rem2, pt, inp, out, sl⟩ := K
  refine r_aload_n (pc := 881) C dL_law_881 rfl ?_
  refine r_callV (pc := 882) C dL_law_882 cv_RL_99 (c_X7_undoStep hB hR.so) ⟨rfl, rfl, by decide, by decide⟩ (show Ce E g 0 _ from hB.1) rfl rfl (Nat.le_of_ble_eq_true rfl) hn ?_
  rintro _ g1 ⟨_, rfl, rfl, hB1, hF1⟩
  have hM1 := hM.far hF1 (Nat.le_refl _)
  show G M S E n g1 885 _ [.int _]
  refine r_aload_n (pc := 885) C dL_law_885 rfl ?_
  refine r_callV (pc := 886) C dL_law_886 cv_RL_102 (c_X8_undoStep hM1 hR.zm) ⟨rfl, rfl, by decide, by decide⟩ (hM1).1 rfl rfl (Nat.le_of_ble_eq_true rfl) hn ?_
  rintro _ g2 ⟨_, rfl, rfl, hM2, hF2⟩
  show G M S E n g2 889 _ [.int _, .int _]
  have rr := rr_und hR
  exact r_icmp_eq (pc := 889) (tgt := 1542) C dL_law_889 (by decide) (fun _ => nx _ _ _ (hB1.far hF2 (Nat.le_refl _)) hM2 rr.2) (fun h => absurd rr.1 h)
set_option maxHeartbeats 4000000 in
set_option maxRecDepth 100000 in
theorem lc_894 {M : MT} {S : ST} {E : ET} {n : Nat × Nat} {g : Nat → va_E} {b0 L i : Nat} {xs : Nat → Int32} (C : Cx M S cL_law 4 RL ret room_1) (X : LX M b0 L xs) (hi : i + 6 ≤ L) (hL : L ≤ 3072) (hn : n.1 ≤ room_1.cells ∧ n.2 ≤ room_1.slots) {K : KV} {z : MZ} (hB : BC S E g K) (hM : MC S E g z) (hR : RR K z) (nx : NX M S E n b0 i) : G M S E n g 894 [some (.ref b0), some (.ref (E.1 0)), some (.ref (E.1 286)), some (.int (nI i))] [] := by
  obtain ⟨hsn, v, rem, v2, rem2, pt, inp, out, sl⟩ := K
  refine r_aload_n (pc := 894) C dL_law_894 rfl ?_
  refine r_callV (pc := 895) C dL_law_895 cv_RL_103 (c_X7_chainLength hB hR.so) ⟨rfl, rfl, by decide, by decide⟩ (show Ce E g 0 _ from hB.1) rfl rfl (Nat.le_of_ble_eq_true rfl) hn ?_
  rintro _ _ ⟨_, rfl, rfl, rfl⟩
  show G M S E n g 898 _ [.int _]
  refine r_aload_n (pc := 898) C dL_law_898 rfl ?_
  refine r_callV (pc := 899) C dL_law_899 cv_RL_106 (c_X8_chainLength hM) ⟨rfl, rfl, by decide, by decide⟩ (hM).1 rfl rfl (Nat.le_of_ble_eq_true rfl) hn ?_
  rintro _ _ ⟨_, rfl, rfl, rfl⟩
  show G M S E n g 902 _ [.int _, .int _]
  have rr := rr_len hR
  exact r_icmp_eq (pc := 902) (tgt := 1542) C dL_law_902 (by decide) (fun _ => nx _ _ _ hB hM hR) (fun h => absurd rr h)
set_option maxHeartbeats 4000000 in
set_option maxRecDepth 100000 in
theorem lc_907 {M : MT} {S : ST} {E : ET} {n : Nat × Nat} {g : Nat → va_E} {b0 L i : Nat} {xs : Nat → Int32} (C : Cx M S cL_law 4 RL ret room_1) (X : LX M b0 L xs) (hi : i + 6 ≤ L) (hL : L ≤ 3072) (hn : n.1 ≤ room_1.cells ∧ n.2 ≤ room_1.slots) {K : KV} {z : MZ} (hB : BC S E g K) (hM : MC S E g z) (hR : RR K z) (nx : NX M S E n b0 i) : G M S E n g 907 [some (.ref b0), some (.ref (E.1 0)), some (.ref (E.1 286)), some (.int (nI i))] [] := by
  obtain ⟨hsn, v, rem, v2, rem2, pt, inp, out, sl⟩ := K
  refine r_aload_n (pc := 907) C dL_law_907 rfl ?_
  refine r_aload_n (pc := 908) C dL_law_908 rfl ?_
  refine r_iload_n (pc := 909) C dL_law_909 rfl ?_
  refine r_iconst (pc := 910) (v := nI 1) C dL_law_910 (by decide +kernel) ?_
  refine r_iadd (pc := 911) C dL_law_911 ?_
  refine r_sld (pc := 912) C X dL_law_912 (nI_add i 1) (by omega) hL ?_
  refine r_aload_n (pc := 913) C dL_law_913 rfl ?_
  refine r_iload_n (pc := 914) C dL_law_914 rfl ?_
  refine r_iconst (pc := 915) (v := nI 2) C dL_law_915 (by decide +kernel) ?_
  refine r_iadd (pc := 916) C dL_law_916 ?_
  refine r_sld (pc := 917) C X dL_law_917 (nI_add i 2) (by omega) hL ?_
  refine r_callV (pc := 918) C dL_law_918 cv_RL_107 (c_X7_copyAlpha hB hR.so (xs (i + 1)) (xs (i + 2))) ⟨rfl, rfl, by decide, by decide⟩ (show Ce E g 0 _ from hB.1) rfl rfl (Nat.le_of_ble_eq_true rfl) hn ?_
  rintro _ g1 ⟨_, rfl, rfl, hB1, hF1⟩
  have hM1 := hM.far hF1 (Nat.le_refl _)
  show G M S E n g1 921 _ [.int _]
  refine r_aload_n (pc := 921) C dL_law_921 rfl ?_
  refine r_aload_n (pc := 922) C dL_law_922 rfl ?_
  refine r_iload_n (pc := 923) C dL_law_923 rfl ?_
  refine r_iconst (pc := 924) (v := nI 1) C dL_law_924 (by decide +kernel) ?_
  refine r_iadd (pc := 925) C dL_law_925 ?_
  refine r_sld (pc := 926) C X dL_law_926 (nI_add i 1) (by omega) hL ?_
  refine r_aload_n (pc := 927) C dL_law_927 rfl ?_
  refine r_iload_n (pc := 928) C dL_law_928 rfl ?_
  refine r_iconst (pc := 929) (v := nI 2) C dL_law_929 (by decide +kernel) ?_
  refine r_iadd (pc := 930) C dL_law_930 ?_
  refine r_sld (pc := 931) C X dL_law_931 (nI_add i 2) (by omega) hL ?_
  refine r_callV (pc := 932) C dL_law_932 cv_RL_110 (c_X8_copyAlpha hM1 hR.z4 hR.z24 (xs (i + 1)) (xs (i + 2))) ⟨rfl, rfl, by decide, by decide⟩ (hM1).1 rfl rfl (Nat.le_of_ble_eq_true rfl) hn ?_
  rintro _ g2 ⟨_, rfl, rfl, hM2, hF2⟩
  show G M S E n g2 935 _ [.int _, .int _]
  have rr := rr_cpA hR (xs (i + 1)) (xs (i + 2))
  exact r_icmp_eq (pc := 935) (tgt := 1542) C dL_law_935 (by decide) (fun _ => nx _ _ _ (hB1.far hF2 (Nat.le_refl _)) hM2 rr.2) (fun h => absurd rr.1 h)
set_option maxHeartbeats 4000000 in
set_option maxRecDepth 100000 in
theorem lc_940 {M : MT} {S : ST} {E : ET} {n : Nat × Nat} {g : Nat → va_E} {b0 L i : Nat} {xs : Nat → Int32} (C : Cx M S cL_law 4 RL ret room_1) (X : LX M b0 L xs) (hi : i + 6 ≤ L) (hL : L ≤ 3072) (hn : n.1 ≤ room_1.cells ∧ n.2 ≤ room_1.slots) {K : KV} {z : MZ} (hB : BC S E g K) (hM : MC S E g z) (hR : RR K z) (nx : NX M S E n b0 i) : G M S E n g 940 [some (.ref b0), some (.ref (E.1 0)), some (.ref (E.1 286)), some (.int (nI i))] [] := by
  obtain ⟨hsn, v, rem, v2, rem2, pt, inp, out, sl⟩ := K
  refine r_aload_n (pc := 940) C dL_law_940 rfl ?_
  refine r_aload_n (pc := 941) C dL_law_941 rfl ?_
  refine r_iload_n (pc := 942) C dL_law_942 rfl ?_
  refine r_iconst (pc := 943) (v := nI 1) C dL_law_943 (by decide +kernel) ?_
  refine r_iadd (pc := 944) C dL_law_944 ?_
  refine r_sld (pc := 945) C X dL_law_945 (nI_add i 1) (by omega) hL ?_
  refine r_aload_n (pc := 946) C dL_law_946 rfl ?_
  refine r_iload_n (pc := 947) C dL_law_947 rfl ?_
  refine r_iconst (pc := 948) (v := nI 2) C dL_law_948 (by decide +kernel) ?_
  refine r_iadd (pc := 949) C dL_law_949 ?_
  refine r_sld (pc := 950) C X dL_law_950 (nI_add i 2) (by omega) hL ?_
  refine r_callV (pc := 951) C dL_law_951 cv_RL_111 (c_X7_copyBeta hB hR.so (xs (i + 1)) (xs (i + 2))) ⟨rfl, rfl, by decide, by decide⟩ (show Ce E g 0 _ from hB.1) rfl rfl (Nat.le_of_ble_eq_true rfl) hn ?_
  rintro _ g1 ⟨_, rfl, rfl, hB1, hF1⟩
  have hM1 := hM.far hF1 (Nat.le_refl _)
  show G M S E n g1 954 _ [.int _]
  refine r_aload_n (pc := 954) C dL_law_954 rfl ?_
  refine r_aload_n (pc := 955) C dL_law_955 rfl ?_
  refine r_iload_n (pc := 956) C dL_law_956 rfl ?_
  refine r_iconst (pc := 957) (v := nI 1) C dL_law_957 (by decide +kernel) ?_
  refine r_iadd (pc := 958) C dL_law_958 ?_
  refine r_sld (pc := 959) C X dL_law_959 (nI_add i 1) (by omega) hL ?_
  refine r_aload_n (pc := 960) C dL_law_960 rfl ?_
  refine r_iload_n (pc := 961) C dL_law_961 rfl ?_
  refine r_iconst (pc := 962) (v := nI 2) C dL_law_962 (by decide +kernel) ?_
  refine r_iadd (pc := 963) C dL_law_963 ?_
  refine r_sld (pc := 964) C X dL_law_964 (nI_add i 2) (by omega) hL ?_
  refine r_callV (pc := 965) C dL_law_965 cv_RL_114 (c_X8_copyBeta hM1 hR.z4 hR.z24 (xs (i + 1)) (xs (i + 2))) ⟨rfl, rfl, by decide, by decide⟩ (hM1).1 rfl rfl (Nat.le_of_ble_eq_true rfl) hn ?_
  rintro _ g2 ⟨_, rfl, rfl, hM2, hF2⟩
  show G M S E n g2 968 _ [.int _, .int _]
  have rr := rr_cpB hR (xs (i + 1)) (xs (i + 2))
  exact r_icmp_eq (pc := 968) (tgt := 1542) C dL_law_968 (by decide) (fun _ => nx _ _ _ (hB1.far hF2 (Nat.le_refl _)) hM2 rr.2) (fun h => absurd rr.1 h)
set_option maxHeartbeats 4000000 in
set_option maxRecDepth 100000 in
theorem lc_973 {M : MT} {S : ST} {E : ET} {n : Nat × Nat} {g : Nat → va_E} {b0 L i : Nat} {xs : Nat → Int32} (C : Cx M S cL_law 4 RL ret room_1) (X : LX M b0 L xs) (hi : i + 6 ≤ L) (hL : L ≤ 3072) (hn : n.1 ≤ room_1.cells ∧ n.2 ≤ room_1.slots) {K : KV} {z : MZ} (hB : BC S E g K) (hM : MC S E g z) (hR : RR K z) (nx : NX M S E n b0 i) : G M S E n g 973 [some (.ref b0), some (.ref (E.1 0)), some (.ref (E.1 286)), some (.int (nI i))] [] := by
  obtain ⟨hsn, v, rem, v2, rem2, pt, inp, out, sl⟩ := K
  refine r_aload_n (pc := 973) C dL_law_973 rfl ?_
  refine r_aload_n (pc := 974) C dL_law_974 rfl ?_
  refine r_iload_n (pc := 975) C dL_law_975 rfl ?_
  refine r_iconst (pc := 976) (v := nI 1) C dL_law_976 (by decide +kernel) ?_
  refine r_iadd (pc := 977) C dL_law_977 ?_
  refine r_sld (pc := 978) C X dL_law_978 (nI_add i 1) (by omega) hL ?_
  refine r_callV (pc := 979) C dL_law_979 cv_RL_115 (c_X7_sumSide hB hR.so (xs (i + 1))) ⟨rfl, rfl, by decide, by decide⟩ (show Ce E g 0 _ from hB.1) rfl rfl (Nat.le_of_ble_eq_true rfl) hn ?_
  rintro _ g1 ⟨_, rfl, rfl, hB1, hF1⟩
  have hM1 := hM.far hF1 (Nat.le_refl _)
  show G M S E n g1 982 _ [.int _]
  refine r_aload_n (pc := 982) C dL_law_982 rfl ?_
  refine r_aload_n (pc := 983) C dL_law_983 rfl ?_
  refine r_iload_n (pc := 984) C dL_law_984 rfl ?_
  refine r_iconst (pc := 985) (v := nI 1) C dL_law_985 (by decide +kernel) ?_
  refine r_iadd (pc := 986) C dL_law_986 ?_
  refine r_sld (pc := 987) C X dL_law_987 (nI_add i 1) (by omega) hL ?_
  refine r_callV (pc := 988) C dL_law_988 cv_RL_118 (c_X8_sumSide hM1 hR.z4 hR.z24 hR.zr (xs (i + 1))) ⟨rfl, rfl, by decide, by decide⟩ (hM1).1 rfl rfl (Nat.le_of_ble_eq_true rfl) hn ?_
  rintro _ g2 ⟨_, rfl, rfl, ⟨a, hM2⟩, hF2⟩
  show G M S E n g2 991 _ [.int _, .int _]
  have rr := rr_sum hR (xs (i + 1))
  exact r_icmp_eq (pc := 991) (tgt := 1542) C dL_law_991 (by decide) (fun _ => nx _ _ _ (hB1.far hF2 (Nat.le_refl _)) hM2 (rr.2.sv Sv.f2)) (fun h => absurd rr.1 h)
set_option maxHeartbeats 4000000 in
set_option maxRecDepth 100000 in
theorem lc_996 {M : MT} {S : ST} {E : ET} {n : Nat × Nat} {g : Nat → va_E} {b0 L i : Nat} {xs : Nat → Int32} (C : Cx M S cL_law 4 RL ret room_1) (X : LX M b0 L xs) (hi : i + 6 ≤ L) (hL : L ≤ 3072) (hn : n.1 ≤ room_1.cells ∧ n.2 ≤ room_1.slots) {K : KV} {z : MZ} (hB : BC S E g K) (hM : MC S E g z) (hR : RR K z) (nx : NX M S E n b0 i) : G M S E n g 996 [some (.ref b0), some (.ref (E.1 0)), some (.ref (E.1 286)), some (.int (nI i))] [] := by
  obtain ⟨hsn, v, rem, v2, rem2, pt, inp, out, sl⟩ := K
  refine r_aload_n (pc := 996) C dL_law_996 rfl ?_
  refine r_aload_n (pc := 997) C dL_law_997 rfl ?_
  refine r_iload_n (pc := 998) C dL_law_998 rfl ?_
  refine r_iconst (pc := 999) (v := nI 1) C dL_law_999 (by decide +kernel) ?_
  refine r_iadd (pc := 1000) C dL_law_1000 ?_
  refine r_sld (pc := 1001) C X dL_law_1001 (nI_add i 1) (by omega) hL ?_
  refine r_callV (pc := 1002) C dL_law_1002 cv_RL_119 (c_X7_productSide hB hR.so (xs (i + 1))) ⟨rfl, rfl, by decide, by decide⟩ (show Ce E g 0 _ from hB.1) rfl rfl (Nat.le_of_ble_eq_true rfl) hn ?_
  rintro _ g1 ⟨_, rfl, rfl, hB1, hF1⟩
  have hM1 := hM.far hF1 (Nat.le_refl _)
  show G M S E n g1 1005 _ [.int _]
  refine r_aload_n (pc := 1005) C dL_law_1005 rfl ?_
  refine r_aload_n (pc := 1006) C dL_law_1006 rfl ?_
  refine r_iload_n (pc := 1007) C dL_law_1007 rfl ?_
  refine r_iconst (pc := 1008) (v := nI 1) C dL_law_1008 (by decide +kernel) ?_
  refine r_iadd (pc := 1009) C dL_law_1009 ?_
  refine r_sld (pc := 1010) C X dL_law_1010 (nI_add i 1) (by omega) hL ?_
  refine r_callV (pc := 1011) C dL_law_1011 cv_RL_122 (c_X8_productSide hM1 hR.z4 hR.z24 hR.zr (xs (i + 1))) ⟨rfl, rfl, by decide, by decide⟩ (hM1).1 rfl rfl (Nat.le_of_ble_eq_true rfl) hn ?_
  rintro _ g2 ⟨_, rfl, rfl, ⟨a, hM2⟩, hF2⟩
  show G M S E n g2 1014 _ [.int _, .int _]
  have rr := rr_prs hR (xs (i + 1))
  exact r_icmp_eq (pc := 1014) (tgt := 1542) C dL_law_1014 (by decide) (fun _ => nx _ _ _ (hB1.far hF2 (Nat.le_refl _)) hM2 (rr.2.sv Sv.f2)) (fun h => absurd rr.1 h)
set_option maxHeartbeats 4000000 in
set_option maxRecDepth 100000 in
theorem lc_1019 {M : MT} {S : ST} {E : ET} {n : Nat × Nat} {g : Nat → va_E} {b0 L i : Nat} {xs : Nat → Int32} (C : Cx M S cL_law 4 RL ret room_1) (X : LX M b0 L xs) (hi : i + 6 ≤ L) (hL : L ≤ 3072) (hn : n.1 ≤ room_1.cells ∧ n.2 ≤ room_1.slots) {K : KV} {z : MZ} (hB : BC S E g K) (hM : MC S E g z) (hR : RR K z) (nx : NX M S E n b0 i) : G M S E n g 1019 [some (.ref b0), some (.ref (E.1 0)), some (.ref (E.1 286)), some (.int (nI i))] [] := by
  obtain ⟨hsn, v, rem, v2, rem2, pt, inp, out, sl⟩ := K
  refine r_aload_n (pc := 1019) C dL_law_1019 rfl ?_
  refine r_aload_n (pc := 1020) C dL_law_1020 rfl ?_
  refine r_iload_n (pc := 1021) C dL_law_1021 rfl ?_
  refine r_iconst (pc := 1022) (v := nI 1) C dL_law_1022 (by decide +kernel) ?_
  refine r_iadd (pc := 1023) C dL_law_1023 ?_
  refine r_sld (pc := 1024) C X dL_law_1024 (nI_add i 1) (by omega) hL ?_
  refine r_aload_n (pc := 1025) C dL_law_1025 rfl ?_
  refine r_iload_n (pc := 1026) C dL_law_1026 rfl ?_
  refine r_iconst (pc := 1027) (v := nI 2) C dL_law_1027 (by decide +kernel) ?_
  refine r_iadd (pc := 1028) C dL_law_1028 ?_
  refine r_sld (pc := 1029) C X dL_law_1029 (nI_add i 2) (by omega) hL ?_
  refine r_aload_n (pc := 1030) C dL_law_1030 rfl ?_
  refine r_iload_n (pc := 1031) C dL_law_1031 rfl ?_
  refine r_iconst (pc := 1032) (v := nI 3) C dL_law_1032 (by decide +kernel) ?_
  refine r_iadd (pc := 1033) C dL_law_1033 ?_
  refine r_sld (pc := 1034) C X dL_law_1034 (nI_add i 3) (by omega) hL ?_
  refine r_callV (pc := 1035) C dL_law_1035 cv_RL_123 (c_X7_countPartitions hB hR.so (xs (i + 1)) (xs (i + 2)) (xs (i + 3))) ⟨rfl, rfl, by decide, by decide⟩ (show Ce E g 0 _ from hB.1) rfl rfl (Nat.le_of_ble_eq_true rfl) hn ?_
  rintro _ g1 ⟨_, rfl, rfl, hB1, hF1⟩
  have hM1 := hM.far hF1 (Nat.le_refl _)
  show G M S E n g1 1038 _ [.long _]
  refine r_aload_n (pc := 1038) C dL_law_1038 rfl ?_
  refine r_aload_n (pc := 1039) C dL_law_1039 rfl ?_
  refine r_iload_n (pc := 1040) C dL_law_1040 rfl ?_
  refine r_iconst (pc := 1041) (v := nI 1) C dL_law_1041 (by decide +kernel) ?_
  refine r_iadd (pc := 1042) C dL_law_1042 ?_
  refine r_sld (pc := 1043) C X dL_law_1043 (nI_add i 1) (by omega) hL ?_
  refine r_aload_n (pc := 1044) C dL_law_1044 rfl ?_
  refine r_iload_n (pc := 1045) C dL_law_1045 rfl ?_
  refine r_iconst (pc := 1046) (v := nI 2) C dL_law_1046 (by decide +kernel) ?_
  refine r_iadd (pc := 1047) C dL_law_1047 ?_
  refine r_sld (pc := 1048) C X dL_law_1048 (nI_add i 2) (by omega) hL ?_
  refine r_aload_n (pc := 1049) C dL_law_1049 rfl ?_
  refine r_iload_n (pc := 1050) C dL_law_1050 rfl ?_
  refine r_iconst (pc := 1051) (v := nI 3) C dL_law_1051 (by decide +kernel) ?_
  refine r_iadd (pc := 1052) C dL_law_1052 ?_
  refine r_sld (pc := 1053) C X dL_law_1053 (nI_add i 3) (by omega) hL ?_
  refine r_callV (pc := 1054) C dL_law_1054 cv_RL_127 (c_X8_countPartitions hM1 (xs (i + 1)) (xs (i + 2)) (xs (i + 3))) ⟨rfl, rfl, by decide, by decide⟩ (hM1).1 rfl rfl (Nat.le_of_ble_eq_true rfl) hn ?_
  rintro _ g2 ⟨_, rfl, rfl, ⟨z', hM2, hs⟩, hF2⟩
  show G M S E n g2 1057 _ [.long _, .long _]
  have rr := rr_cnt hR (xs (i + 1)) (xs (i + 2)) (xs (i + 3))
  refine r_lcmp (pc := 1057) C dL_law_1057 ?_
  exact r_if_eq (pc := 1058) (tgt := 1542) C dL_law_1058 (by decide) (fun _ => nx _ _ _ (hB1.far hF2 (Nat.le_refl _)) hM2 (hR.sv hs)) (fun h => absurd (by rw [rr]; exact lg_self _) h)
set_option maxHeartbeats 4000000 in
set_option maxRecDepth 100000 in
theorem lc_1063 {M : MT} {S : ST} {E : ET} {n : Nat × Nat} {g : Nat → va_E} {b0 L i : Nat} {xs : Nat → Int32} (C : Cx M S cL_law 4 RL ret room_1) (X : LX M b0 L xs) (hi : i + 6 ≤ L) (hL : L ≤ 3072) (hn : n.1 ≤ room_1.cells ∧ n.2 ≤ room_1.slots) {K : KV} {z : MZ} (hB : BC S E g K) (hM : MC S E g z) (hR : RR K z) (nx : NX M S E n b0 i) : G M S E n g 1063 [some (.ref b0), some (.ref (E.1 0)), some (.ref (E.1 286)), some (.int (nI i))] [] := by
  obtain ⟨hsn, v, rem, v2, rem2, pt, inp, out, sl⟩ := K
  refine r_aload_n (pc := 1063) C dL_law_1063 rfl ?_
  refine r_aload_n (pc := 1064) C dL_law_1064 rfl ?_
  refine r_iload_n (pc := 1065) C dL_law_1065 rfl ?_
  refine r_iconst (pc := 1066) (v := nI 1) C dL_law_1066 (by decide +kernel) ?_
  refine r_iadd (pc := 1067) C dL_law_1067 ?_
  refine r_sld (pc := 1068) C X dL_law_1068 (nI_add i 1) (by omega) hL ?_
  refine r_callV (pc := 1069) C dL_law_1069 cv_RL_128 (c_X7_listPartitions hB hR.so ptOk (xs (i + 1))) ⟨rfl, rfl, by decide, by decide⟩ (show Ce E g 0 _ from hB.1) rfl rfl (Nat.le_of_ble_eq_true rfl) hn ?_
  rintro _ g1 ⟨_, rfl, rfl, hB1, hF1⟩
  have hM1 := hM.far hF1 (Nat.le_refl _)
  show G M S E n g1 1072 _ [.int _]
  refine r_aload_n (pc := 1072) C dL_law_1072 rfl ?_
  refine r_aload_n (pc := 1073) C dL_law_1073 rfl ?_
  refine r_iload_n (pc := 1074) C dL_law_1074 rfl ?_
  refine r_iconst (pc := 1075) (v := nI 1) C dL_law_1075 (by decide +kernel) ?_
  refine r_iadd (pc := 1076) C dL_law_1076 ?_
  refine r_sld (pc := 1077) C X dL_law_1077 (nI_add i 1) (by omega) hL ?_
  refine r_callV (pc := 1078) C dL_law_1078 cv_RL_131 (c_X8_listPartitions hM1 hR.z4 hR.z24 hR.zr rwOk (xs (i + 1))) ⟨rfl, rfl, by decide, by decide⟩ (hM1).1 rfl rfl (Nat.le_of_ble_eq_true rfl) hn ?_
  rintro _ g2 ⟨_, rfl, rfl, ⟨z', hM2, hs⟩, hF2⟩
  show G M S E n g2 1081 _ [.int _, .int _]
  have rr := rr_lst hR (xs (i + 1))
  exact r_icmp_eq (pc := 1081) (tgt := 1542) C dL_law_1081 (by decide) (fun _ => nx _ _ _ (hB1.far hF2 (Nat.le_refl _)) hM2 (rr.2.sv hs)) (fun h => absurd rr.1 h)
set_option maxHeartbeats 4000000 in
set_option maxRecDepth 100000 in
theorem lc_1086 {M : MT} {S : ST} {E : ET} {n : Nat × Nat} {g : Nat → va_E} {b0 L i : Nat} {xs : Nat → Int32} (C : Cx M S cL_law 4 RL ret room_1) (X : LX M b0 L xs) (hi : i + 6 ≤ L) (hL : L ≤ 3072) (hn : n.1 ≤ room_1.cells ∧ n.2 ≤ room_1.slots) {K : KV} {z : MZ} (hB : BC S E g K) (hM : MC S E g z) (hR : RR K z) (nx : NX M S E n b0 i) : G M S E n g 1086 [some (.ref b0), some (.ref (E.1 0)), some (.ref (E.1 286)), some (.int (nI i))] [] := by
  obtain ⟨hsn, v, rem, v2, rem2, pt, inp, out, sl⟩ := K
  refine r_aload_n (pc := 1086) C dL_law_1086 rfl ?_
  refine r_callV (pc := 1087) C dL_law_1087 cv_RL_132 (c_X7_filterPartitions hB hR.so) ⟨rfl, rfl, by decide, by decide⟩ (show Ce E g 0 _ from hB.1) rfl rfl (Nat.le_of_ble_eq_true rfl) hn ?_
  rintro _ g1 ⟨_, rfl, rfl, hB1, hF1⟩
  have hM1 := hM.far hF1 (Nat.le_refl _)
  show G M S E n g1 1090 _ [.int _]
  refine r_aload_n (pc := 1090) C dL_law_1090 rfl ?_
  refine r_callV (pc := 1091) C dL_law_1091 cv_RL_135 (c_X8_filterPartitions hM1 hR.z4 hR.z24 hR.zr hR.zW hR.zL hR.z128 hR.zpc hR.zb) ⟨rfl, rfl, by decide, by decide⟩ (hM1).1 rfl rfl (Nat.le_of_ble_eq_true rfl) hn ?_
  rintro _ g2 ⟨_, rfl, rfl, hM2, hF2⟩
  show G M S E n g2 1094 _ [.int _, .int _]
  have rr := rr_flt hR
  exact r_icmp_eq (pc := 1094) (tgt := 1542) C dL_law_1094 (by decide) (fun _ => nx _ _ _ (hB1.far hF2 (Nat.le_refl _)) hM2 rr.2) (fun h => absurd rr.1 h)
set_option maxHeartbeats 4000000 in
set_option maxRecDepth 100000 in
theorem lc_1099 {M : MT} {S : ST} {E : ET} {n : Nat × Nat} {g : Nat → va_E} {b0 L i : Nat} {xs : Nat → Int32} (C : Cx M S cL_law 4 RL ret room_1) (X : LX M b0 L xs) (hi : i + 6 ≤ L) (hL : L ≤ 3072) (hn : n.1 ≤ room_1.cells ∧ n.2 ≤ room_1.slots) {K : KV} {z : MZ} (hB : BC S E g K) (hM : MC S E g z) (hR : RR K z) (nx : NX M S E n b0 i) : G M S E n g 1099 [some (.ref b0), some (.ref (E.1 0)), some (.ref (E.1 286)), some (.int (nI i))] [] := by
  obtain ⟨hsn, v, rem, v2, rem2, pt, inp, out, sl⟩ := K
  refine r_aload_n (pc := 1099) C dL_law_1099 rfl ?_
  refine r_aload_n (pc := 1100) C dL_law_1100 rfl ?_
  refine r_iload_n (pc := 1101) C dL_law_1101 rfl ?_
  refine r_iconst (pc := 1102) (v := nI 1) C dL_law_1102 (by decide +kernel) ?_
  refine r_iadd (pc := 1103) C dL_law_1103 ?_
  refine r_sld (pc := 1104) C X dL_law_1104 (nI_add i 1) (by omega) hL ?_
  refine r_aload_n (pc := 1105) C dL_law_1105 rfl ?_
  refine r_iload_n (pc := 1106) C dL_law_1106 rfl ?_
  refine r_iconst (pc := 1107) (v := nI 2) C dL_law_1107 (by decide +kernel) ?_
  refine r_iadd (pc := 1108) C dL_law_1108 ?_
  refine r_sld (pc := 1109) C X dL_law_1109 (nI_add i 2) (by omega) hL ?_
  refine r_callV (pc := 1110) C dL_law_1110 cv_RL_136 (c_X7_part hB hR.so (xs (i + 1)) (xs (i + 2))) ⟨rfl, rfl, by decide, by decide⟩ (show Ce E g 0 _ from hB.1) rfl rfl (Nat.le_of_ble_eq_true rfl) hn ?_
  rintro _ _ ⟨_, rfl, rfl, rfl⟩
  show G M S E n g 1113 _ [.int _]
  refine r_aload_n (pc := 1113) C dL_law_1113 rfl ?_
  refine r_aload_n (pc := 1114) C dL_law_1114 rfl ?_
  refine r_iload_n (pc := 1115) C dL_law_1115 rfl ?_
  refine r_iconst (pc := 1116) (v := nI 1) C dL_law_1116 (by decide +kernel) ?_
  refine r_iadd (pc := 1117) C dL_law_1117 ?_
  refine r_sld (pc := 1118) C X dL_law_1118 (nI_add i 1) (by omega) hL ?_
  refine r_aload_n (pc := 1119) C dL_law_1119 rfl ?_
  refine r_iload_n (pc := 1120) C dL_law_1120 rfl ?_
  refine r_iconst (pc := 1121) (v := nI 2) C dL_law_1121 (by decide +kernel) ?_
  refine r_iadd (pc := 1122) C dL_law_1122 ?_
  refine r_sld (pc := 1123) C X dL_law_1123 (nI_add i 2) (by omega) hL ?_
  refine r_callV (pc := 1124) C dL_law_1124 cv_RL_139 (c_X8_part hM hR.z4 hR.z24 hR.zr hR.zpc hR.zb (xs (i + 1)) (xs (i + 2))) ⟨rfl, rfl, by decide, by decide⟩ (hM).1 rfl rfl (Nat.le_of_ble_eq_true rfl) hn ?_
  rintro _ _ ⟨_, rfl, rfl, rfl⟩
  show G M S E n g 1127 _ [.int _, .int _]
  have rr := rr_prt hR (xs (i + 1)) (xs (i + 2))
  exact r_icmp_eq (pc := 1127) (tgt := 1542) C dL_law_1127 (by decide) (fun _ => nx _ _ _ hB hM hR) (fun h => absurd rr h)
set_option maxHeartbeats 4000000 in
set_option maxRecDepth 100000 in
theorem lc_1132 {M : MT} {S : ST} {E : ET} {n : Nat × Nat} {g : Nat → va_E} {b0 L i : Nat} {xs : Nat → Int32} (C : Cx M S cL_law 4 RL ret room_1) (X : LX M b0 L xs) (hi : i + 6 ≤ L) (hL : L ≤ 3072) (hn : n.1 ≤ room_1.cells ∧ n.2 ≤ room_1.slots) {K : KV} {z : MZ} (hB : BC S E g K) (hM : MC S E g z) (hR : RR K z) (nx : NX M S E n b0 i) : G M S E n g 1132 [some (.ref b0), some (.ref (E.1 0)), some (.ref (E.1 286)), some (.int (nI i))] [] := by
  obtain ⟨hsn, v, rem, v2, rem2, pt, inp, out, sl⟩ := K
  refine r_aload_n (pc := 1132) C dL_law_1132 rfl ?_
  refine r_aload_n (pc := 1133) C dL_law_1133 rfl ?_
  refine r_iload_n (pc := 1134) C dL_law_1134 rfl ?_
  refine r_iconst (pc := 1135) (v := nI 1) C dL_law_1135 (by decide +kernel) ?_
  refine r_iadd (pc := 1136) C dL_law_1136 ?_
  refine r_sld (pc := 1137) C X dL_law_1137 (nI_add i 1) (by omega) hL ?_
  refine r_aload_n (pc := 1138) C dL_law_1138 rfl ?_
  refine r_iload_n (pc := 1139) C dL_law_1139 rfl ?_
  refine r_iconst (pc := 1140) (v := nI 2) C dL_law_1140 (by decide +kernel) ?_
  refine r_iadd (pc := 1141) C dL_law_1141 ?_
  refine r_sld (pc := 1142) C X dL_law_1142 (nI_add i 2) (by omega) hL ?_
  refine r_callV (pc := 1143) C dL_law_1143 cv_RL_140 (c_X7_append hB hR.so (xs (i + 1)) (xs (i + 2))) ⟨rfl, rfl, by decide, by decide⟩ (show Ce E g 0 _ from hB.1) rfl rfl (Nat.le_of_ble_eq_true rfl) hn ?_
  rintro _ g1 ⟨_, rfl, rfl, hB1, hF1⟩
  have hM1 := hM.far hF1 (Nat.le_refl _)
  show G M S E n g1 1146 _ [.int _]
  refine r_aload_n (pc := 1146) C dL_law_1146 rfl ?_
  refine r_aload_n (pc := 1147) C dL_law_1147 rfl ?_
  refine r_iload_n (pc := 1148) C dL_law_1148 rfl ?_
  refine r_iconst (pc := 1149) (v := nI 1) C dL_law_1149 (by decide +kernel) ?_
  refine r_iadd (pc := 1150) C dL_law_1150 ?_
  refine r_sld (pc := 1151) C X dL_law_1151 (nI_add i 1) (by omega) hL ?_
  refine r_aload_n (pc := 1152) C dL_law_1152 rfl ?_
  refine r_iload_n (pc := 1153) C dL_law_1153 rfl ?_
  refine r_iconst (pc := 1154) (v := nI 2) C dL_law_1154 (by decide +kernel) ?_
  refine r_iadd (pc := 1155) C dL_law_1155 ?_
  refine r_sld (pc := 1156) C X dL_law_1156 (nI_add i 2) (by omega) hL ?_
  refine r_callV (pc := 1157) C dL_law_1157 cv_RL_143 (c_X8_append hM1 hR.zL (xs (i + 1)) (xs (i + 2))) ⟨rfl, rfl, by decide, by decide⟩ (hM1).1 rfl rfl (Nat.le_of_ble_eq_true rfl) hn ?_
  rintro _ g2 ⟨_, rfl, rfl, hM2, hF2⟩
  show G M S E n g2 1160 _ [.int _, .int _]
  have rr := rr_app hR (xs (i + 1)) (xs (i + 2))
  exact r_icmp_eq (pc := 1160) (tgt := 1542) C dL_law_1160 (by decide) (fun _ => nx _ _ _ (hB1.far hF2 (Nat.le_refl _)) hM2 rr.2) (fun h => absurd rr.1 h)
set_option maxHeartbeats 4000000 in
set_option maxRecDepth 100000 in
theorem lc_1165 {M : MT} {S : ST} {E : ET} {n : Nat × Nat} {g : Nat → va_E} {b0 L i : Nat} {xs : Nat → Int32} (C : Cx M S cL_law 4 RL ret room_1) (X : LX M b0 L xs) (hi : i + 6 ≤ L) (hL : L ≤ 3072) (hn : n.1 ≤ room_1.cells ∧ n.2 ≤ room_1.slots) {K : KV} {z : MZ} (hB : BC S E g K) (hM : MC S E g z) (hR : RR K z) (nx : NX M S E n b0 i) : G M S E n g 1165 [some (.ref b0), some (.ref (E.1 0)), some (.ref (E.1 286)), some (.int (nI i))] [] := by
  obtain ⟨hsn, v, rem, v2, rem2, pt, inp, out, sl⟩ := K
  refine r_aload_n (pc := 1165) C dL_law_1165 rfl ?_
  refine r_callV (pc := 1166) C dL_law_1166 cv_RL_144 (c_X7_clearInput hB hR.so) ⟨rfl, rfl, by decide, by decide⟩ (show Ce E g 0 _ from hB.1) rfl rfl (Nat.le_of_ble_eq_true rfl) hn ?_
  rintro _ g1 ⟨_, rfl, rfl, hB1, hF1⟩
  have hM1 := hM.far hF1 (Nat.le_refl _)
  show G M S E n g1 1169 _ [.int _]
  refine r_aload_n (pc := 1169) C dL_law_1169 rfl ?_
  refine r_callV (pc := 1170) C dL_law_1170 cv_RL_147 (c_X8_clearInput hM1) ⟨rfl, rfl, by decide, by decide⟩ (hM1).1 rfl rfl (Nat.le_of_ble_eq_true rfl) hn ?_
  rintro _ g2 ⟨_, rfl, rfl, hM2, hF2⟩
  show G M S E n g2 1173 _ [.int _, .int _]
  have rr := rr_clr hR
  exact r_icmp_eq (pc := 1173) (tgt := 1542) C dL_law_1173 (by decide) (fun _ => nx _ _ _ (hB1.far hF2 (Nat.le_refl _)) hM2 rr.2) (fun h => absurd rr.1 h)
set_option maxHeartbeats 4000000 in
set_option maxRecDepth 100000 in
theorem lc_1178 {M : MT} {S : ST} {E : ET} {n : Nat × Nat} {g : Nat → va_E} {b0 L i : Nat} {xs : Nat → Int32} (C : Cx M S cL_law 4 RL ret room_1) (X : LX M b0 L xs) (hi : i + 6 ≤ L) (hL : L ≤ 3072) (hn : n.1 ≤ room_1.cells ∧ n.2 ≤ room_1.slots) {K : KV} {z : MZ} (hB : BC S E g K) (hM : MC S E g z) (hR : RR K z) (nx : NX M S E n b0 i) : G M S E n g 1178 [some (.ref b0), some (.ref (E.1 0)), some (.ref (E.1 286)), some (.int (nI i))] [] := by
  obtain ⟨hsn, v, rem, v2, rem2, pt, inp, out, sl⟩ := K
  refine r_aload_n (pc := 1178) C dL_law_1178 rfl ?_
  refine r_aload_n (pc := 1179) C dL_law_1179 rfl ?_
  refine r_iload_n (pc := 1180) C dL_law_1180 rfl ?_
  refine r_iconst (pc := 1181) (v := nI 1) C dL_law_1181 (by decide +kernel) ?_
  refine r_iadd (pc := 1182) C dL_law_1182 ?_
  refine r_sld (pc := 1183) C X dL_law_1183 (nI_add i 1) (by omega) hL ?_
  refine r_callV (pc := 1184) C dL_law_1184 cv_RL_148 (c_X7_parseSeries hB hR.so (xs (i + 1))) ⟨rfl, rfl, by decide, by decide⟩ (show Ce E g 0 _ from hB.1) rfl rfl (Nat.le_of_ble_eq_true rfl) hn ?_
  rintro _ g1 ⟨_, rfl, rfl, hB1, hF1⟩
  have hM1 := hM.far hF1 (Nat.le_refl _)
  show G M S E n g1 1187 _ [.int _]
  refine r_aload_n (pc := 1187) C dL_law_1187 rfl ?_
  refine r_aload_n (pc := 1188) C dL_law_1188 rfl ?_
  refine r_iload_n (pc := 1189) C dL_law_1189 rfl ?_
  refine r_iconst (pc := 1190) (v := nI 1) C dL_law_1190 (by decide +kernel) ?_
  refine r_iadd (pc := 1191) C dL_law_1191 ?_
  refine r_sld (pc := 1192) C X dL_law_1192 (nI_add i 1) (by omega) hL ?_
  refine r_callV (pc := 1193) C dL_law_1193 cv_RL_151 (c_X8_parseSeries hM1 hR.z4 hR.z24 hR.zL hR.z128 (xs (i + 1))) ⟨rfl, rfl, by decide, by decide⟩ (hM1).1 rfl rfl (Nat.le_of_ble_eq_true rfl) hn ?_
  rintro _ g2 ⟨_, rfl, rfl, ⟨z', hM2, hs⟩, hF2⟩
  show G M S E n g2 1196 _ [.int _, .int _]
  have rr := rr_par hR (xs (i + 1))
  exact r_icmp_eq (pc := 1196) (tgt := 1542) C dL_law_1196 (by decide) (fun _ => nx _ _ _ (hB1.far hF2 (Nat.le_refl _)) hM2 (rr.2.sv hs)) (fun h => absurd rr.1 h)
set_option maxHeartbeats 4000000 in
set_option maxRecDepth 100000 in
theorem lc_1201 {M : MT} {S : ST} {E : ET} {n : Nat × Nat} {g : Nat → va_E} {b0 L i : Nat} {xs : Nat → Int32} (C : Cx M S cL_law 4 RL ret room_1) (X : LX M b0 L xs) (hi : i + 6 ≤ L) (hL : L ≤ 3072) (hn : n.1 ≤ room_1.cells ∧ n.2 ≤ room_1.slots) {K : KV} {z : MZ} (hB : BC S E g K) (hM : MC S E g z) (hR : RR K z) (nx : NX M S E n b0 i) : G M S E n g 1201 [some (.ref b0), some (.ref (E.1 0)), some (.ref (E.1 286)), some (.int (nI i))] [] := by
  obtain ⟨hsn, v, rem, v2, rem2, pt, inp, out, sl⟩ := K
  refine r_aload_n (pc := 1201) C dL_law_1201 rfl ?_
  refine r_aload_n (pc := 1202) C dL_law_1202 rfl ?_
  refine r_iload_n (pc := 1203) C dL_law_1203 rfl ?_
  refine r_iconst (pc := 1204) (v := nI 1) C dL_law_1204 (by decide +kernel) ?_
  refine r_iadd (pc := 1205) C dL_law_1205 ?_
  refine r_sld (pc := 1206) C X dL_law_1206 (nI_add i 1) (by omega) hL ?_
  refine r_callV (pc := 1207) C dL_law_1207 cv_RL_152 (c_X7_format hB hR.so hR.kA (xs (i + 1))) ⟨rfl, rfl, by decide, by decide⟩ (show Ce E g 0 _ from hB.1) rfl rfl (Nat.le_of_ble_eq_true rfl) hn ?_
  rintro _ g1 ⟨_, rfl, rfl, hB1, hF1⟩
  have hM1 := hM.far hF1 (Nat.le_refl _)
  show G M S E n g1 1210 _ [.int _]
  refine r_aload_n (pc := 1210) C dL_law_1210 rfl ?_
  refine r_aload_n (pc := 1211) C dL_law_1211 rfl ?_
  refine r_iload_n (pc := 1212) C dL_law_1212 rfl ?_
  refine r_iconst (pc := 1213) (v := nI 1) C dL_law_1213 (by decide +kernel) ?_
  refine r_iadd (pc := 1214) C dL_law_1214 ?_
  refine r_sld (pc := 1215) C X dL_law_1215 (nI_add i 1) (by omega) hL ?_
  refine r_callV (pc := 1216) C dL_law_1216 cv_RL_155 (c_X8_format hM1 hR.z4 hR.z24 hR.zA (xs (i + 1))) ⟨rfl, rfl, by decide, by decide⟩ (hM1).1 rfl rfl (Nat.le_of_ble_eq_true rfl) hn ?_
  rintro _ g2 ⟨_, rfl, rfl, hM2, hF2⟩
  show G M S E n g2 1219 _ [.int _, .int _]
  have rr := rr_fmt hR (xs (i + 1))
  exact r_icmp_eq (pc := 1219) (tgt := 1542) C dL_law_1219 (by decide) (fun _ => nx _ _ _ (hB1.far hF2 (Nat.le_refl _)) hM2 rr.2) (fun h => absurd rr.1 h)
set_option maxHeartbeats 4000000 in
set_option maxRecDepth 100000 in
theorem lc_1224 {M : MT} {S : ST} {E : ET} {n : Nat × Nat} {g : Nat → va_E} {b0 L i : Nat} {xs : Nat → Int32} (C : Cx M S cL_law 4 RL ret room_1) (X : LX M b0 L xs) (hi : i + 6 ≤ L) (hL : L ≤ 3072) (hn : n.1 ≤ room_1.cells ∧ n.2 ≤ room_1.slots) {K : KV} {z : MZ} (hB : BC S E g K) (hM : MC S E g z) (hR : RR K z) (nx : NX M S E n b0 i) : G M S E n g 1224 [some (.ref b0), some (.ref (E.1 0)), some (.ref (E.1 286)), some (.int (nI i))] [] := by
  obtain ⟨hsn, v, rem, v2, rem2, pt, inp, out, sl⟩ := K
  refine r_aload_n (pc := 1224) C dL_law_1224 rfl ?_
  refine r_aload_n (pc := 1225) C dL_law_1225 rfl ?_
  refine r_iload_n (pc := 1226) C dL_law_1226 rfl ?_
  refine r_iconst (pc := 1227) (v := nI 1) C dL_law_1227 (by decide +kernel) ?_
  refine r_iadd (pc := 1228) C dL_law_1228 ?_
  refine r_sld (pc := 1229) C X dL_law_1229 (nI_add i 1) (by omega) hL ?_
  refine r_callV (pc := 1230) C dL_law_1230 cv_RL_156 (c_X7_outputByte hB hR.so (xs (i + 1))) ⟨rfl, rfl, by decide, by decide⟩ (show Ce E g 0 _ from hB.1) rfl rfl (Nat.le_of_ble_eq_true rfl) hn ?_
  rintro _ _ ⟨_, rfl, rfl, rfl⟩
  show G M S E n g 1233 _ [.int _]
  refine r_aload_n (pc := 1233) C dL_law_1233 rfl ?_
  refine r_aload_n (pc := 1234) C dL_law_1234 rfl ?_
  refine r_iload_n (pc := 1235) C dL_law_1235 rfl ?_
  refine r_iconst (pc := 1236) (v := nI 1) C dL_law_1236 (by decide +kernel) ?_
  refine r_iadd (pc := 1237) C dL_law_1237 ?_
  refine r_sld (pc := 1238) C X dL_law_1238 (nI_add i 1) (by omega) hL ?_
  refine r_callV (pc := 1239) C dL_law_1239 cv_RL_159 (c_X8_outputByte hM hR.zw (xs (i + 1))) ⟨rfl, rfl, by decide, by decide⟩ (hM).1 rfl rfl (Nat.le_of_ble_eq_true rfl) hn ?_
  rintro _ _ ⟨_, rfl, rfl, rfl⟩
  show G M S E n g 1242 _ [.int _, .int _]
  have rr := rr_out hR (xs (i + 1))
  exact r_icmp_eq (pc := 1242) (tgt := 1542) C dL_law_1242 (by decide) (fun _ => nx _ _ _ hB hM hR) (fun h => absurd rr h)
set_option maxHeartbeats 4000000 in
set_option maxRecDepth 100000 in
theorem lc_1247 {M : MT} {S : ST} {E : ET} {n : Nat × Nat} {g : Nat → va_E} {b0 L i : Nat} {xs : Nat → Int32} (C : Cx M S cL_law 4 RL ret room_1) (X : LX M b0 L xs) (hi : i + 6 ≤ L) (hL : L ≤ 3072) (hn : n.1 ≤ room_1.cells ∧ n.2 ≤ room_1.slots) {K : KV} {z : MZ} (hB : BC S E g K) (hM : MC S E g z) (hR : RR K z) (nx : NX M S E n b0 i) : G M S E n g 1247 [some (.ref b0), some (.ref (E.1 0)), some (.ref (E.1 286)), some (.int (nI i))] [] := by
  obtain ⟨hsn, v, rem, v2, rem2, pt, inp, out, sl⟩ := K
  refine r_aload_n (pc := 1247) C dL_law_1247 rfl ?_
  refine r_aload_n (pc := 1248) C dL_law_1248 rfl ?_
  refine r_iload_n (pc := 1249) C dL_law_1249 rfl ?_
  refine r_iconst (pc := 1250) (v := nI 1) C dL_law_1250 (by decide +kernel) ?_
  refine r_iadd (pc := 1251) C dL_law_1251 ?_
  refine r_sld (pc := 1252) C X dL_law_1252 (nI_add i 1) (by omega) hL ?_
  refine r_aload_n (pc := 1253) C dL_law_1253 rfl ?_
  refine r_iload_n (pc := 1254) C dL_law_1254 rfl ?_
  refine r_iconst (pc := 1255) (v := nI 2) C dL_law_1255 (by decide +kernel) ?_
  refine r_iadd (pc := 1256) C dL_law_1256 ?_
  refine r_sld (pc := 1257) C X dL_law_1257 (nI_add i 2) (by omega) hL ?_
  refine r_aload_n (pc := 1258) C dL_law_1258 rfl ?_
  refine r_iload_n (pc := 1259) C dL_law_1259 rfl ?_
  refine r_iconst (pc := 1260) (v := nI 3) C dL_law_1260 (by decide +kernel) ?_
  refine r_iadd (pc := 1261) C dL_law_1261 ?_
  refine r_sld (pc := 1262) C X dL_law_1262 (nI_add i 3) (by omega) hL ?_
  refine r_callV (pc := 1263) C dL_law_1263 cv_RL_160 (c_X7_allocate hB hR.so (xs (i + 1)) (xs (i + 2)) (xs (i + 3))) ⟨rfl, rfl, by decide, by decide⟩ (show Ce E g 0 _ from hB.1) rfl rfl (Nat.le_of_ble_eq_true rfl) hn ?_
  rintro _ g1 ⟨_, rfl, rfl, hB1, hF1⟩
  have hM1 := hM.far hF1 (Nat.le_refl _)
  show G M S E n g1 1266 _ [.int _]
  refine r_aload_n (pc := 1266) C dL_law_1266 rfl ?_
  refine r_aload_n (pc := 1267) C dL_law_1267 rfl ?_
  refine r_iload_n (pc := 1268) C dL_law_1268 rfl ?_
  refine r_iconst (pc := 1269) (v := nI 1) C dL_law_1269 (by decide +kernel) ?_
  refine r_iadd (pc := 1270) C dL_law_1270 ?_
  refine r_sld (pc := 1271) C X dL_law_1271 (nI_add i 1) (by omega) hL ?_
  refine r_aload_n (pc := 1272) C dL_law_1272 rfl ?_
  refine r_iload_n (pc := 1273) C dL_law_1273 rfl ?_
  refine r_iconst (pc := 1274) (v := nI 2) C dL_law_1274 (by decide +kernel) ?_
  refine r_iadd (pc := 1275) C dL_law_1275 ?_
  refine r_sld (pc := 1276) C X dL_law_1276 (nI_add i 2) (by omega) hL ?_
  refine r_aload_n (pc := 1277) C dL_law_1277 rfl ?_
  refine r_iload_n (pc := 1278) C dL_law_1278 rfl ?_
  refine r_iconst (pc := 1279) (v := nI 3) C dL_law_1279 (by decide +kernel) ?_
  refine r_iadd (pc := 1280) C dL_law_1280 ?_
  refine r_sld (pc := 1281) C X dL_law_1281 (nI_add i 3) (by omega) hL ?_
  refine r_callV (pc := 1282) C dL_law_1282 cv_RL_163 (c_X8_allocate hM1 (xs (i + 1)) (xs (i + 2)) (xs (i + 3))) ⟨rfl, rfl, by decide, by decide⟩ (hM1).1 rfl rfl (Nat.le_of_ble_eq_true rfl) hn ?_
  rintro _ g2 ⟨_, rfl, rfl, hM2, hF2⟩
  show G M S E n g2 1285 _ [.int _, .int _]
  have rr := rr_all hR (xs (i + 1)) (xs (i + 2)) (xs (i + 3))
  exact r_icmp_eq (pc := 1285) (tgt := 1542) C dL_law_1285 (by decide) (fun _ => nx _ _ _ (hB1.far hF2 (Nat.le_refl _)) hM2 rr.2) (fun h => absurd rr.1 h)
set_option maxHeartbeats 4000000 in
set_option maxRecDepth 100000 in
theorem lc_1290 {M : MT} {S : ST} {E : ET} {n : Nat × Nat} {g : Nat → va_E} {b0 L i : Nat} {xs : Nat → Int32} (C : Cx M S cL_law 4 RL ret room_1) (X : LX M b0 L xs) (hi : i + 6 ≤ L) (hL : L ≤ 3072) (hn : n.1 ≤ room_1.cells ∧ n.2 ≤ room_1.slots) {K : KV} {z : MZ} (hB : BC S E g K) (hM : MC S E g z) (hR : RR K z) (nx : NX M S E n b0 i) : G M S E n g 1290 [some (.ref b0), some (.ref (E.1 0)), some (.ref (E.1 286)), some (.int (nI i))] [] := by
  obtain ⟨hsn, v, rem, v2, rem2, pt, inp, out, sl⟩ := K
  refine r_aload_n (pc := 1290) C dL_law_1290 rfl ?_
  refine r_aload_n (pc := 1291) C dL_law_1291 rfl ?_
  refine r_iload_n (pc := 1292) C dL_law_1292 rfl ?_
  refine r_iconst (pc := 1293) (v := nI 1) C dL_law_1293 (by decide +kernel) ?_
  refine r_iadd (pc := 1294) C dL_law_1294 ?_
  refine r_sld (pc := 1295) C X dL_law_1295 (nI_add i 1) (by omega) hL ?_
  refine r_callV (pc := 1296) C dL_law_1296 cv_RL_164 (c_X7_release hB hR.so (xs (i + 1))) ⟨rfl, rfl, by decide, by decide⟩ (show Ce E g 0 _ from hB.1) rfl rfl (Nat.le_of_ble_eq_true rfl) hn ?_
  rintro _ g1 ⟨_, rfl, rfl, hB1, hF1⟩
  have hM1 := hM.far hF1 (Nat.le_refl _)
  show G M S E n g1 1299 _ [.int _]
  refine r_aload_n (pc := 1299) C dL_law_1299 rfl ?_
  refine r_aload_n (pc := 1300) C dL_law_1300 rfl ?_
  refine r_iload_n (pc := 1301) C dL_law_1301 rfl ?_
  refine r_iconst (pc := 1302) (v := nI 1) C dL_law_1302 (by decide +kernel) ?_
  refine r_iadd (pc := 1303) C dL_law_1303 ?_
  refine r_sld (pc := 1304) C X dL_law_1304 (nI_add i 1) (by omega) hL ?_
  refine r_callV (pc := 1305) C dL_law_1305 cv_RL_167 (c_X8_release hM1 (xs (i + 1))) ⟨rfl, rfl, by decide, by decide⟩ (hM1).1 rfl rfl (Nat.le_of_ble_eq_true rfl) hn ?_
  rintro _ g2 ⟨_, rfl, rfl, hM2, hF2⟩
  show G M S E n g2 1308 _ [.int _, .int _]
  have rr := rr_rel hR (xs (i + 1))
  exact r_icmp_eq (pc := 1308) (tgt := 1542) C dL_law_1308 (by decide) (fun _ => nx _ _ _ (hB1.far hF2 (Nat.le_refl _)) hM2 rr.2) (fun h => absurd rr.1 h)
set_option maxHeartbeats 4000000 in
set_option maxRecDepth 100000 in
theorem lc_1313 {M : MT} {S : ST} {E : ET} {n : Nat × Nat} {g : Nat → va_E} {b0 L i : Nat} {xs : Nat → Int32} (C : Cx M S cL_law 4 RL ret room_1) (X : LX M b0 L xs) (hi : i + 6 ≤ L) (hL : L ≤ 3072) (hn : n.1 ≤ room_1.cells ∧ n.2 ≤ room_1.slots) {K : KV} {z : MZ} (hB : BC S E g K) (hM : MC S E g z) (hR : RR K z) (nx : NX M S E n b0 i) : G M S E n g 1313 [some (.ref b0), some (.ref (E.1 0)), some (.ref (E.1 286)), some (.int (nI i))] [] := by
  obtain ⟨hsn, v, rem, v2, rem2, pt, inp, out, sl⟩ := K
  refine r_aload_n (pc := 1313) C dL_law_1313 rfl ?_
  refine r_aload_n (pc := 1314) C dL_law_1314 rfl ?_
  refine r_iload_n (pc := 1315) C dL_law_1315 rfl ?_
  refine r_iconst (pc := 1316) (v := nI 1) C dL_law_1316 (by decide +kernel) ?_
  refine r_iadd (pc := 1317) C dL_law_1317 ?_
  refine r_sld (pc := 1318) C X dL_law_1318 (nI_add i 1) (by omega) hL ?_
  refine r_aload_n (pc := 1319) C dL_law_1319 rfl ?_
  refine r_iload_n (pc := 1320) C dL_law_1320 rfl ?_
  refine r_iconst (pc := 1321) (v := nI 2) C dL_law_1321 (by decide +kernel) ?_
  refine r_iadd (pc := 1322) C dL_law_1322 ?_
  refine r_sld (pc := 1323) C X dL_law_1323 (nI_add i 2) (by omega) hL ?_
  refine r_aload_n (pc := 1324) C dL_law_1324 rfl ?_
  refine r_iload_n (pc := 1325) C dL_law_1325 rfl ?_
  refine r_iconst (pc := 1326) (v := nI 3) C dL_law_1326 (by decide +kernel) ?_
  refine r_iadd (pc := 1327) C dL_law_1327 ?_
  refine r_sld (pc := 1328) C X dL_law_1328 (nI_add i 3) (by omega) hL ?_
  refine r_i2l (pc := 1329) C dL_law_1329 ?_
  refine r_bipush (pc := 1330) (v := nI 32) C dL_law_1330 (by decide +kernel) ?_
  refine r_lshl (pc := 1332) C dL_law_1332 ?_
  refine r_aload_n (pc := 1333) C dL_law_1333 rfl ?_
  refine r_iload_n (pc := 1334) C dL_law_1334 rfl ?_
  refine r_iconst (pc := 1335) (v := nI 4) C dL_law_1335 (by decide +kernel) ?_
  refine r_iadd (pc := 1336) C dL_law_1336 ?_
  refine r_sld (pc := 1337) C X dL_law_1337 (nI_add i 4) (by omega) hL ?_
  refine r_i2l (pc := 1338) C dL_law_1338 ?_
  refine r_ldc2 (pc := 1339) C dL_law_1339 qK_RL_168 ?_
  refine r_land (pc := 1342) C dL_law_1342 ?_
  refine r_lor (pc := 1343) C dL_law_1343 ?_
  refine r_callV (pc := 1344) C dL_law_1344 cv_RL_170 (c_X7_putElement hB hR.so (xs (i + 1)) (xs (i + 2)) ((((xs (i + 3))).toInt64 <<< ((nI 32).toInt64 &&& 63)) ||| (((xs (i + 4))).toInt64 &&& 4294967295))) ⟨rfl, rfl, by decide, by decide⟩ (show Ce E g 0 _ from hB.1) rfl rfl (Nat.le_of_ble_eq_true rfl) hn ?_
  rintro _ g1 ⟨_, rfl, rfl, hB1, hF1⟩
  have hM1 := hM.far hF1 (Nat.le_refl _)
  show G M S E n g1 1347 _ [.int _]
  refine r_aload_n (pc := 1347) C dL_law_1347 rfl ?_
  refine r_aload_n (pc := 1348) C dL_law_1348 rfl ?_
  refine r_iload_n (pc := 1349) C dL_law_1349 rfl ?_
  refine r_iconst (pc := 1350) (v := nI 1) C dL_law_1350 (by decide +kernel) ?_
  refine r_iadd (pc := 1351) C dL_law_1351 ?_
  refine r_sld (pc := 1352) C X dL_law_1352 (nI_add i 1) (by omega) hL ?_
  refine r_aload_n (pc := 1353) C dL_law_1353 rfl ?_
  refine r_iload_n (pc := 1354) C dL_law_1354 rfl ?_
  refine r_iconst (pc := 1355) (v := nI 2) C dL_law_1355 (by decide +kernel) ?_
  refine r_iadd (pc := 1356) C dL_law_1356 ?_
  refine r_sld (pc := 1357) C X dL_law_1357 (nI_add i 2) (by omega) hL ?_
  refine r_aload_n (pc := 1358) C dL_law_1358 rfl ?_
  refine r_iload_n (pc := 1359) C dL_law_1359 rfl ?_
  refine r_iconst (pc := 1360) (v := nI 3) C dL_law_1360 (by decide +kernel) ?_
  refine r_iadd (pc := 1361) C dL_law_1361 ?_
  refine r_sld (pc := 1362) C X dL_law_1362 (nI_add i 3) (by omega) hL ?_
  refine r_i2l (pc := 1363) C dL_law_1363 ?_
  refine r_bipush (pc := 1364) (v := nI 32) C dL_law_1364 (by decide +kernel) ?_
  refine r_lshl (pc := 1366) C dL_law_1366 ?_
  refine r_aload_n (pc := 1367) C dL_law_1367 rfl ?_
  refine r_iload_n (pc := 1368) C dL_law_1368 rfl ?_
  refine r_iconst (pc := 1369) (v := nI 4) C dL_law_1369 (by decide +kernel) ?_
  refine r_iadd (pc := 1370) C dL_law_1370 ?_
  refine r_sld (pc := 1371) C X dL_law_1371 (nI_add i 4) (by omega) hL ?_
  refine r_i2l (pc := 1372) C dL_law_1372 ?_
  refine r_ldc2 (pc := 1373) C dL_law_1373 qK_RL_168 ?_
  refine r_land (pc := 1376) C dL_law_1376 ?_
  refine r_lor (pc := 1377) C dL_law_1377 ?_
  refine r_callV (pc := 1378) C dL_law_1378 cv_RL_174 (c_X8_putElement hM1 hR.ssOk (xs (i + 1)) (xs (i + 2)) ((((xs (i + 3))).toInt64 <<< ((nI 32).toInt64 &&& 63)) ||| (((xs (i + 4))).toInt64 &&& 4294967295))) ⟨rfl, rfl, by decide, by decide⟩ (hM1).1 rfl rfl (Nat.le_of_ble_eq_true rfl) hn ?_
  rintro _ g2 ⟨_, rfl, rfl, hM2, hF2⟩
  show G M S E n g2 1381 _ [.int _, .int _]
  have rr := rr_put hR (xs (i + 1)) (xs (i + 2)) ((((xs (i + 3))).toInt64 <<< ((nI 32).toInt64 &&& 63)) ||| (((xs (i + 4))).toInt64 &&& 4294967295))
  exact r_icmp_eq (pc := 1381) (tgt := 1542) C dL_law_1381 (by decide) (fun _ => nx _ _ _ (hB1.far hF2 (Nat.le_refl _)) hM2 rr.2) (fun h => absurd rr.1 h)
set_option maxHeartbeats 4000000 in
set_option maxRecDepth 100000 in
theorem lc_1386 {M : MT} {S : ST} {E : ET} {n : Nat × Nat} {g : Nat → va_E} {b0 L i : Nat} {xs : Nat → Int32} (C : Cx M S cL_law 4 RL ret room_1) (X : LX M b0 L xs) (hi : i + 6 ≤ L) (hL : L ≤ 3072) (hn : n.1 ≤ room_1.cells ∧ n.2 ≤ room_1.slots) {K : KV} {z : MZ} (hB : BC S E g K) (hM : MC S E g z) (hR : RR K z) (nx : NX M S E n b0 i) : G M S E n g 1386 [some (.ref b0), some (.ref (E.1 0)), some (.ref (E.1 286)), some (.int (nI i))] [] := by
  obtain ⟨hsn, v, rem, v2, rem2, pt, inp, out, sl⟩ := K
  refine r_aload_n (pc := 1386) C dL_law_1386 rfl ?_
  refine r_aload_n (pc := 1387) C dL_law_1387 rfl ?_
  refine r_iload_n (pc := 1388) C dL_law_1388 rfl ?_
  refine r_iconst (pc := 1389) (v := nI 1) C dL_law_1389 (by decide +kernel) ?_
  refine r_iadd (pc := 1390) C dL_law_1390 ?_
  refine r_sld (pc := 1391) C X dL_law_1391 (nI_add i 1) (by omega) hL ?_
  refine r_aload_n (pc := 1392) C dL_law_1392 rfl ?_
  refine r_iload_n (pc := 1393) C dL_law_1393 rfl ?_
  refine r_iconst (pc := 1394) (v := nI 2) C dL_law_1394 (by decide +kernel) ?_
  refine r_iadd (pc := 1395) C dL_law_1395 ?_
  refine r_sld (pc := 1396) C X dL_law_1396 (nI_add i 2) (by omega) hL ?_
  refine r_callV (pc := 1397) C dL_law_1397 cv_RL_175 (c_X7_element hB hR.so (xs (i + 1)) (xs (i + 2))) ⟨rfl, rfl, by decide, by decide⟩ (show Ce E g 0 _ from hB.1) rfl rfl (Nat.le_of_ble_eq_true rfl) hn ?_
  rintro _ _ ⟨_, rfl, rfl, rfl⟩
  show G M S E n g 1400 _ [.long _]
  refine r_aload_n (pc := 1400) C dL_law_1400 rfl ?_
  refine r_aload_n (pc := 1401) C dL_law_1401 rfl ?_
  refine r_iload_n (pc := 1402) C dL_law_1402 rfl ?_
  refine r_iconst (pc := 1403) (v := nI 1) C dL_law_1403 (by decide +kernel) ?_
  refine r_iadd (pc := 1404) C dL_law_1404 ?_
  refine r_sld (pc := 1405) C X dL_law_1405 (nI_add i 1) (by omega) hL ?_
  refine r_aload_n (pc := 1406) C dL_law_1406 rfl ?_
  refine r_iload_n (pc := 1407) C dL_law_1407 rfl ?_
  refine r_iconst (pc := 1408) (v := nI 2) C dL_law_1408 (by decide +kernel) ?_
  refine r_iadd (pc := 1409) C dL_law_1409 ?_
  refine r_sld (pc := 1410) C X dL_law_1410 (nI_add i 2) (by omega) hL ?_
  refine r_callV (pc := 1411) C dL_law_1411 cv_RL_178 (c_X8_element hM hR.ssOk (xs (i + 1)) (xs (i + 2))) ⟨rfl, rfl, by decide, by decide⟩ (hM).1 rfl rfl (Nat.le_of_ble_eq_true rfl) hn ?_
  rintro _ _ ⟨_, rfl, rfl, rfl⟩
  show G M S E n g 1414 _ [.long _, .long _]
  have rr := rr_ele hR (xs (i + 1)) (xs (i + 2))
  refine r_lcmp (pc := 1414) C dL_law_1414 ?_
  exact r_if_eq (pc := 1415) (tgt := 1542) C dL_law_1415 (by decide) (fun _ => nx _ _ _ hB hM hR) (fun h => absurd (by rw [rr]; exact lg_self _) h)
set_option maxHeartbeats 4000000 in
set_option maxRecDepth 100000 in
theorem lc_1420 {M : MT} {S : ST} {E : ET} {n : Nat × Nat} {g : Nat → va_E} {b0 L i : Nat} {xs : Nat → Int32} (C : Cx M S cL_law 4 RL ret room_1) (X : LX M b0 L xs) (hi : i + 6 ≤ L) (hL : L ≤ 3072) (hn : n.1 ≤ room_1.cells ∧ n.2 ≤ room_1.slots) {K : KV} {z : MZ} (hB : BC S E g K) (hM : MC S E g z) (hR : RR K z) (nx : NX M S E n b0 i) : G M S E n g 1420 [some (.ref b0), some (.ref (E.1 0)), some (.ref (E.1 286)), some (.int (nI i))] [] := by
  obtain ⟨hsn, v, rem, v2, rem2, pt, inp, out, sl⟩ := K
  refine r_aload_n (pc := 1420) C dL_law_1420 rfl ?_
  refine r_aload_n (pc := 1421) C dL_law_1421 rfl ?_
  refine r_iload_n (pc := 1422) C dL_law_1422 rfl ?_
  refine r_iconst (pc := 1423) (v := nI 1) C dL_law_1423 (by decide +kernel) ?_
  refine r_iadd (pc := 1424) C dL_law_1424 ?_
  refine r_sld (pc := 1425) C X dL_law_1425 (nI_add i 1) (by omega) hL ?_
  refine r_aload_n (pc := 1426) C dL_law_1426 rfl ?_
  refine r_iload_n (pc := 1427) C dL_law_1427 rfl ?_
  refine r_iconst (pc := 1428) (v := nI 2) C dL_law_1428 (by decide +kernel) ?_
  refine r_iadd (pc := 1429) C dL_law_1429 ?_
  refine r_sld (pc := 1430) C X dL_law_1430 (nI_add i 2) (by omega) hL ?_
  refine r_aload_n (pc := 1431) C dL_law_1431 rfl ?_
  refine r_iload_n (pc := 1432) C dL_law_1432 rfl ?_
  refine r_iconst (pc := 1433) (v := nI 3) C dL_law_1433 (by decide +kernel) ?_
  refine r_iadd (pc := 1434) C dL_law_1434 ?_
  refine r_sld (pc := 1435) C X dL_law_1435 (nI_add i 3) (by omega) hL ?_
  refine r_aload_n (pc := 1436) C dL_law_1436 rfl ?_
  refine r_iload_n (pc := 1437) C dL_law_1437 rfl ?_
  refine r_iconst (pc := 1438) (v := nI 4) C dL_law_1438 (by decide +kernel) ?_
  refine r_iadd (pc := 1439) C dL_law_1439 ?_
  refine r_sld (pc := 1440) C X dL_law_1440 (nI_add i 4) (by omega) hL ?_
  refine r_aload_n (pc := 1441) C dL_law_1441 rfl ?_
  refine r_iload_n (pc := 1442) C dL_law_1442 rfl ?_
  refine r_iconst (pc := 1443) (v := nI 5) C dL_law_1443 (by decide +kernel) ?_
  refine r_iadd (pc := 1444) C dL_law_1444 ?_
  refine r_sld (pc := 1445) C X dL_law_1445 (nI_add i 5) (by omega) hL ?_
  refine r_callV (pc := 1446) C dL_law_1446 cv_RL_179 (c_X7_copyElements hB hR.so (xs (i + 1)) (xs (i + 2)) (xs (i + 3)) (xs (i + 4)) (xs (i + 5))) ⟨rfl, rfl, by decide, by decide⟩ (show Ce E g 0 _ from hB.1) rfl rfl (Nat.le_of_ble_eq_true rfl) hn ?_
  rintro _ g1 ⟨_, rfl, rfl, hB1, hF1⟩
  have hM1 := hM.far hF1 (Nat.le_refl _)
  show G M S E n g1 1449 _ [.int _]
  refine r_aload_n (pc := 1449) C dL_law_1449 rfl ?_
  refine r_aload_n (pc := 1450) C dL_law_1450 rfl ?_
  refine r_iload_n (pc := 1451) C dL_law_1451 rfl ?_
  refine r_iconst (pc := 1452) (v := nI 1) C dL_law_1452 (by decide +kernel) ?_
  refine r_iadd (pc := 1453) C dL_law_1453 ?_
  refine r_sld (pc := 1454) C X dL_law_1454 (nI_add i 1) (by omega) hL ?_
  refine r_aload_n (pc := 1455) C dL_law_1455 rfl ?_
  refine r_iload_n (pc := 1456) C dL_law_1456 rfl ?_
  refine r_iconst (pc := 1457) (v := nI 2) C dL_law_1457 (by decide +kernel) ?_
  refine r_iadd (pc := 1458) C dL_law_1458 ?_
  refine r_sld (pc := 1459) C X dL_law_1459 (nI_add i 2) (by omega) hL ?_
  refine r_aload_n (pc := 1460) C dL_law_1460 rfl ?_
  refine r_iload_n (pc := 1461) C dL_law_1461 rfl ?_
  refine r_iconst (pc := 1462) (v := nI 3) C dL_law_1462 (by decide +kernel) ?_
  refine r_iadd (pc := 1463) C dL_law_1463 ?_
  refine r_sld (pc := 1464) C X dL_law_1464 (nI_add i 3) (by omega) hL ?_
  refine r_aload_n (pc := 1465) C dL_law_1465 rfl ?_
  refine r_iload_n (pc := 1466) C dL_law_1466 rfl ?_
  refine r_iconst (pc := 1467) (v := nI 4) C dL_law_1467 (by decide +kernel) ?_
  refine r_iadd (pc := 1468) C dL_law_1468 ?_
  refine r_sld (pc := 1469) C X dL_law_1469 (nI_add i 4) (by omega) hL ?_
  refine r_aload_n (pc := 1470) C dL_law_1470 rfl ?_
  refine r_iload_n (pc := 1471) C dL_law_1471 rfl ?_
  refine r_iconst (pc := 1472) (v := nI 5) C dL_law_1472 (by decide +kernel) ?_
  refine r_iadd (pc := 1473) C dL_law_1473 ?_
  refine r_sld (pc := 1474) C X dL_law_1474 (nI_add i 5) (by omega) hL ?_
  refine r_callV (pc := 1475) C dL_law_1475 cv_RL_183 (c_X8_copyElements hM1 hR.ssOk (xs (i + 1)) (xs (i + 2)) (xs (i + 3)) (xs (i + 4)) (xs (i + 5))) ⟨rfl, rfl, by decide, by decide⟩ (hM1).1 rfl rfl (Nat.le_of_ble_eq_true rfl) hn ?_
  rintro _ g2 ⟨_, rfl, rfl, ⟨z', hM2, hs⟩, hF2⟩
  show G M S E n g2 1478 _ [.int _, .int _]
  have rr := rr_cpE hR (xs (i + 1)) (xs (i + 2)) (xs (i + 3)) (xs (i + 4)) (xs (i + 5))
  exact r_icmp_eq (pc := 1478) (tgt := 1542) C dL_law_1478 (by decide) (fun _ => nx _ _ _ (hB1.far hF2 (Nat.le_refl _)) hM2 (rr.2.sv hs)) (fun h => absurd rr.1 h)
set_option maxHeartbeats 4000000 in
set_option maxRecDepth 100000 in
theorem lc_1483 {M : MT} {S : ST} {E : ET} {n : Nat × Nat} {g : Nat → va_E} {b0 L i : Nat} {xs : Nat → Int32} (C : Cx M S cL_law 4 RL ret room_1) (X : LX M b0 L xs) (hi : i + 6 ≤ L) (hL : L ≤ 3072) (hn : n.1 ≤ room_1.cells ∧ n.2 ≤ room_1.slots) {K : KV} {z : MZ} (hB : BC S E g K) (hM : MC S E g z) (hR : RR K z) (nx : NX M S E n b0 i) : G M S E n g 1483 [some (.ref b0), some (.ref (E.1 0)), some (.ref (E.1 286)), some (.int (nI i))] [] := by
  obtain ⟨hsn, v, rem, v2, rem2, pt, inp, out, sl⟩ := K
  refine r_aload_n (pc := 1483) C dL_law_1483 rfl ?_
  refine r_aload_n (pc := 1484) C dL_law_1484 rfl ?_
  refine r_iload_n (pc := 1485) C dL_law_1485 rfl ?_
  refine r_iconst (pc := 1486) (v := nI 1) C dL_law_1486 (by decide +kernel) ?_
  refine r_iadd (pc := 1487) C dL_law_1487 ?_
  refine r_sld (pc := 1488) C X dL_law_1488 (nI_add i 1) (by omega) hL ?_
  refine r_aload_n (pc := 1489) C dL_law_1489 rfl ?_
  refine r_iload_n (pc := 1490) C dL_law_1490 rfl ?_
  refine r_iconst (pc := 1491) (v := nI 2) C dL_law_1491 (by decide +kernel) ?_
  refine r_iadd (pc := 1492) C dL_law_1492 ?_
  refine r_sld (pc := 1493) C X dL_law_1493 (nI_add i 2) (by omega) hL ?_
  refine r_callV (pc := 1494) C dL_law_1494 cv_RL_184 (c_X7_compareWithArray hB hR.so (xs (i + 1)) (xs (i + 2))) ⟨rfl, rfl, by decide, by decide⟩ (show Ce E g 0 _ from hB.1) rfl rfl (Nat.le_of_ble_eq_true rfl) hn ?_
  rintro _ _ ⟨_, rfl, rfl, rfl⟩
  show G M S E n g 1497 _ [.int _]
  refine r_aload_n (pc := 1497) C dL_law_1497 rfl ?_
  refine r_aload_n (pc := 1498) C dL_law_1498 rfl ?_
  refine r_iload_n (pc := 1499) C dL_law_1499 rfl ?_
  refine r_iconst (pc := 1500) (v := nI 1) C dL_law_1500 (by decide +kernel) ?_
  refine r_iadd (pc := 1501) C dL_law_1501 ?_
  refine r_sld (pc := 1502) C X dL_law_1502 (nI_add i 1) (by omega) hL ?_
  refine r_aload_n (pc := 1503) C dL_law_1503 rfl ?_
  refine r_iload_n (pc := 1504) C dL_law_1504 rfl ?_
  refine r_iconst (pc := 1505) (v := nI 2) C dL_law_1505 (by decide +kernel) ?_
  refine r_iadd (pc := 1506) C dL_law_1506 ?_
  refine r_sld (pc := 1507) C X dL_law_1507 (nI_add i 2) (by omega) hL ?_
  refine r_callV (pc := 1508) C dL_law_1508 cv_RL_187 (c_X8_compareWithArray hM hR.z4 hR.z24 hR.ssOk (xs (i + 1)) (xs (i + 2))) ⟨rfl, rfl, by decide, by decide⟩ (hM).1 rfl rfl (Nat.le_of_ble_eq_true rfl) hn ?_
  rintro _ _ ⟨_, rfl, rfl, rfl⟩
  show G M S E n g 1511 _ [.int _, .int _]
  have rr := rr_cmp hR (xs (i + 1)) (xs (i + 2))
  exact r_icmp_eq (pc := 1511) (tgt := 1542) C dL_law_1511 (by decide) (fun _ => nx _ _ _ hB hM hR) (fun h => absurd rr h)
set_option maxHeartbeats 4000000 in
set_option maxRecDepth 100000 in
theorem lc_1516 {M : MT} {S : ST} {E : ET} {n : Nat × Nat} {g : Nat → va_E} {b0 L i : Nat} {xs : Nat → Int32} (C : Cx M S cL_law 4 RL ret room_1) (X : LX M b0 L xs) (hi : i + 6 ≤ L) (hL : L ≤ 3072) (hn : n.1 ≤ room_1.cells ∧ n.2 ≤ room_1.slots) {K : KV} {z : MZ} (hB : BC S E g K) (hM : MC S E g z) (hR : RR K z) (nx : NX M S E n b0 i) : G M S E n g 1516 [some (.ref b0), some (.ref (E.1 0)), some (.ref (E.1 286)), some (.int (nI i))] [] := by
  obtain ⟨hsn, v, rem, v2, rem2, pt, inp, out, sl⟩ := K
  refine r_aload_n (pc := 1516) C dL_law_1516 rfl ?_
  refine r_callV (pc := 1517) C dL_law_1517 cv_RL_188 (c_X7_snapshot hB hR.so) ⟨rfl, rfl, by decide, by decide⟩ (show Ce E g 0 _ from hB.1) rfl rfl (Nat.le_of_ble_eq_true rfl) hn ?_
  rintro _ g1 ⟨_, rfl, rfl, hB1, hF1⟩
  have hM1 := hM.far hF1 (Nat.le_refl _)
  show G M S E n g1 1520 _ [.int _]
  refine r_aload_n (pc := 1520) C dL_law_1520 rfl ?_
  refine r_callV (pc := 1521) C dL_law_1521 cv_RL_191 (c_X8_snapshot hM1) ⟨rfl, rfl, by decide, by decide⟩ (hM1).1 rfl rfl (Nat.le_of_ble_eq_true rfl) hn ?_
  rintro _ g2 ⟨_, rfl, rfl, ⟨z', hM2, hs⟩, hF2⟩
  show G M S E n g2 1524 _ [.int _, .int _]
  have rr := rr_snp hR
  exact r_icmp_eq (pc := 1524) (tgt := 1542) C dL_law_1524 (by decide) (fun _ => nx _ _ _ (hB1.far hF2 (Nat.le_refl _)) hM2 (rr.2.sv hs)) (fun h => absurd rr.1 h)
set_option maxHeartbeats 4000000 in
set_option maxRecDepth 100000 in
theorem lc_1529 {M : MT} {S : ST} {E : ET} {n : Nat × Nat} {g : Nat → va_E} {b0 L i : Nat} {xs : Nat → Int32} (C : Cx M S cL_law 4 RL ret room_1) (X : LX M b0 L xs) (hi : i + 6 ≤ L) (hL : L ≤ 3072) (hn : n.1 ≤ room_1.cells ∧ n.2 ≤ room_1.slots) {K : KV} {z : MZ} (hB : BC S E g K) (hM : MC S E g z) (hR : RR K z) (nx : NX M S E n b0 i) : G M S E n g 1529 [some (.ref b0), some (.ref (E.1 0)), some (.ref (E.1 286)), some (.int (nI i))] [] := by
  obtain ⟨hsn, v, rem, v2, rem2, pt, inp, out, sl⟩ := K
  refine r_aload_n (pc := 1529) C dL_law_1529 rfl ?_
  refine r_callV (pc := 1530) C dL_law_1530 cv_RL_192 (c_X7_restore hB hR.so) ⟨rfl, rfl, by decide, by decide⟩ (show Ce E g 0 _ from hB.1) rfl rfl (Nat.le_of_ble_eq_true rfl) hn ?_
  rintro _ g1 ⟨_, rfl, rfl, hB1, hF1⟩
  have hM1 := hM.far hF1 (Nat.le_refl _)
  show G M S E n g1 1533 _ [.int _]
  refine r_aload_n (pc := 1533) C dL_law_1533 rfl ?_
  refine r_callV (pc := 1534) C dL_law_1534 cv_RL_195 (c_X8_restore hM1 hR.rsOk) ⟨rfl, rfl, by decide, by decide⟩ (hM1).1 rfl rfl (Nat.le_of_ble_eq_true rfl) hn ?_
  rintro _ g2 ⟨_, rfl, rfl, ⟨z', hM2, hs⟩, hF2⟩
  show G M S E n g2 1537 _ [.int _, .int _]
  have rr := rr_res hR
  exact r_icmp_eq (pc := 1537) (tgt := 1542) C dL_law_1537 (by decide) (fun _ => nx _ _ _ (hB1.far hF2 (Nat.le_refl _)) hM2 (rr.2.sv hs)) (fun h => absurd rr.1 h)
