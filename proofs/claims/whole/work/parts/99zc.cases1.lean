/-! ===== the cases of the law ===== -/
section LAW4
variable {pg : Program} {l : Launch} {en : Env} {s : State} {m : MethodId} {args : Array Value} {below : List Frame} {meth : Method} {cd : Code} {H : Heap} {locs : List Loc} {cells slots : Nat} {Q : State → Prop} {ls : Array Slot} {dC : Nat → ClassId} {dI : Nat → Nat → Nat} {ct : Nat → ClassId} {A : Nat → Prop} {K : Nat → Nat} {b0 L i : Nat} {xs : Nat → Int32} {x st kt sc ty sh fo bk ek sp es : Nat} {b e tr rw ew q a : Nat → Nat}
set_option maxHeartbeats 4000000 in
set_option maxRecDepth 100000 in
theorem cs_kind (C0 : LX pg m cd s args dC dI ct K A b0 L xs) (hl : lv_has ls 4 [(0, .ref b0), (1, .ref x), (2, .ref (a 0)), (3, .int (nI i))]) (hi : i + 5 < L) (hcs : cells ≤ room_1.cells ∧ slots ≤ room_1.slots) (iv : IV dC dI ct K A s.heap x st kt sc ty sh fo bk ek sp es b e tr rw ew q a H locs) (kk : ∀ (H1 : Heap) (locs1 : List Loc), IV dC dI ct K A s.heap x st kt sc ty sh fo bk ek sp es b e tr rw ew q a H1 locs1 → W pg l en room_1 s m args below meth cd H1 locs1 cells slots Q (F0 m 1607 ls [])) : W pg l en room_1 s m args below meth cd H locs cells slots Q (F0 m 236 ls []) := by
  obtain ⟨F, hK, hA, hX, hbl, hbA, hz, hE, hL⟩ := C0
  obtain ⟨ik, zz, z2, s0, s1, s2, s3, s4, nx, sx, f, p, w, y, wd, sz, nm, c, g, h, so, v, k, d, it, mv, mx, my, fa, fk, hP, hD, hS⟩ := iv
  obtain ⟨hzz, hso, hnx, hsx, fq, hZ, hc, ⟨n, hn, hs0, h8, hby⟩, hik⟩ := id fa
  refine lv_aload_n F.1 F.2.1 dL_law_236 rfl (lv_at hl 1 rfl) ?_
  refine sL (q := 1) F.1 F.2.1 hX hbl hbA hS hl (by omega) hL (by decide) dL_law_237 dL_law_238 dL_law_239 dL_law_240 dL_law_241 ?_
  refine sL (q := 2) F.1 F.2.1 hX hbl hbA hS hl (by omega) hL (by decide) dL_law_242 dL_law_243 dL_law_244 dL_law_245 dL_law_246 ?_
  refine lcX5_kind _ _ _ _ _ _ _ _ _ _ _ _ _ _ (xs (i + 1)) (xs (i + 2)) F gL_law_X5_kind hK hP hD hS hA ⟨Nat.le_of_ble_eq_true rfl, Nat.le_of_ble_eq_true rfl⟩ hl.1 (Nat.le_of_ble_eq_true rfl) hcs dL_law_247 (fun r1 u1 H1 locs1 e1 hP1 hD1 hS1 => ?_)
  refine lv_aload_n F.1 F.2.1 dL_law_250 rfl (lv_at hl 2 rfl) ?_
  refine sL (q := 1) F.1 F.2.1 hX hbl hbA hS1 hl (by omega) hL (by decide) dL_law_251 dL_law_252 dL_law_253 dL_law_254 dL_law_255 ?_
  refine sL (q := 2) F.1 F.2.1 hX hbl hbA hS1 hl (by omega) hL (by decide) dL_law_256 dL_law_257 dL_law_258 dL_law_259 dL_law_260 ?_
  refine lcX6_kind _ _ _ _ (xs (i + 1)) (xs (i + 2)) F gL_law_X6_kind hK hP1 hD1 hS1 hA ⟨Nat.le_of_ble_eq_true rfl, Nat.le_of_ble_eq_true rfl⟩ hl.1 (Nat.le_of_ble_eq_true rfl) hcs dL_law_261 (fun r2 u2 H2 locs2 e2 hP2 hD2 hS2 => ?_)
  have e3 : (r1, u1.1, u1.2) = sKind f c (xs (i + 1)) (xs (i + 2)) := e1
  have e4 : (r2, u2.1, u2.2) = sKind f c (xs (i + 1)) (xs (i + 2)) := e2
  obtain ⟨q1, q2⟩ := Prod.mk.inj (e4.trans e3.symm)
  obtain ⟨q2, q3⟩ := Prod.mk.inj q2
  have ok := ok_kind fq.1 c (xs (i + 1)) (xs (i + 2))
  rw [← e3] at ok
  refine lv_icmp_eq (tgt := 1607) F.1 F.2.1 dL_law_264 (by decide) (fun _ => ?_) (fun hne => absurd q1.symm hne)
  exact kk _ _ (IVk hP2 hD2 hS2 q2 q3 rfl rfl rfl rfl ((fa.ok ok.1 ok.2)) fk)
set_option maxHeartbeats 4000000 in
set_option maxRecDepth 100000 in
theorem cs_of (C0 : LX pg m cd s args dC dI ct K A b0 L xs) (hl : lv_has ls 4 [(0, .ref b0), (1, .ref x), (2, .ref (a 0)), (3, .int (nI i))]) (hi : i + 5 < L) (hcs : cells ≤ room_1.cells ∧ slots ≤ room_1.slots) (iv : IV dC dI ct K A s.heap x st kt sc ty sh fo bk ek sp es b e tr rw ew q a H locs) (kk : ∀ (H1 : Heap) (locs1 : List Loc), IV dC dI ct K A s.heap x st kt sc ty sh fo bk ek sp es b e tr rw ew q a H1 locs1 → W pg l en room_1 s m args below meth cd H1 locs1 cells slots Q (F0 m 1607 ls [])) : W pg l en room_1 s m args below meth cd H locs cells slots Q (F0 m 269 ls []) := by
  obtain ⟨F, hK, hA, hX, hbl, hbA, hz, hE, hL⟩ := C0
  obtain ⟨ik, zz, z2, s0, s1, s2, s3, s4, nx, sx, f, p, w, y, wd, sz, nm, c, g, h, so, v, k, d, it, mv, mx, my, fa, fk, hP, hD, hS⟩ := iv
  obtain ⟨hzz, hso, hnx, hsx, fq, hZ, hc, ⟨n, hn, hs0, h8, hby⟩, hik⟩ := id fa
  refine lv_aload_n F.1 F.2.1 dL_law_269 rfl (lv_at hl 1 rfl) ?_
  refine sL (q := 1) F.1 F.2.1 hX hbl hbA hS hl (by omega) hL (by decide) dL_law_270 dL_law_271 dL_law_272 dL_law_273 dL_law_274 ?_
  refine sL (q := 2) F.1 F.2.1 hX hbl hbA hS hl (by omega) hL (by decide) dL_law_275 dL_law_276 dL_law_277 dL_law_278 dL_law_279 ?_
  refine sL (q := 3) F.1 F.2.1 hX hbl hbA hS hl (by omega) hL (by decide) dL_law_280 dL_law_281 dL_law_282 dL_law_283 dL_law_284 ?_
  refine lcX5_of _ _ _ _ _ _ _ _ _ _ _ _ _ _ (xs (i + 1)) (xs (i + 2)) (xs (i + 3)) F gL_law_X5_of hK hP hD hS hA ⟨Nat.le_of_ble_eq_true rfl, Nat.le_of_ble_eq_true rfl⟩ hl.1 (Nat.le_of_ble_eq_true rfl) hcs dL_law_285 (fun r1 u1 H1 locs1 e1 hP1 hD1 hS1 => ?_)
  refine lv_aload_n F.1 F.2.1 dL_law_288 rfl (lv_at hl 2 rfl) ?_
  refine sL (q := 1) F.1 F.2.1 hX hbl hbA hS1 hl (by omega) hL (by decide) dL_law_289 dL_law_290 dL_law_291 dL_law_292 dL_law_293 ?_
  refine sL (q := 2) F.1 F.2.1 hX hbl hbA hS1 hl (by omega) hL (by decide) dL_law_294 dL_law_295 dL_law_296 dL_law_297 dL_law_298 ?_
  refine sL (q := 3) F.1 F.2.1 hX hbl hbA hS1 hl (by omega) hL (by decide) dL_law_299 dL_law_300 dL_law_301 dL_law_302 dL_law_303 ?_
  refine lcX6_of _ _ _ _ (xs (i + 1)) (xs (i + 2)) (xs (i + 3)) F gL_law_X6_of hK hP1 hD1 hS1 hA ⟨Nat.le_of_ble_eq_true rfl, Nat.le_of_ble_eq_true rfl⟩ hl.1 (Nat.le_of_ble_eq_true rfl) hcs dL_law_304 (fun r2 u2 H2 locs2 e2 hP2 hD2 hS2 => ?_)
  have e3 : (r1, u1.1, u1.2) = sOf f c (xs (i + 1)) (xs (i + 2)) (xs (i + 3)) := e1
  have e4 : (r2, u2.1, u2.2) = sOf f c (xs (i + 1)) (xs (i + 2)) (xs (i + 3)) := e2
  obtain ⟨q1, q2⟩ := Prod.mk.inj (e4.trans e3.symm)
  obtain ⟨q2, q3⟩ := Prod.mk.inj q2
  have ok := ok_of fq.1 c (xs (i + 1)) (xs (i + 2)) (xs (i + 3))
  rw [← e3] at ok
  refine lv_icmp_eq (tgt := 1607) F.1 F.2.1 dL_law_307 (by decide) (fun _ => ?_) (fun hne => absurd q1.symm hne)
  exact kk _ _ (IVk hP2 hD2 hS2 q2 q3 rfl rfl rfl rfl ((fa.ok ok.1 ok.2)) fk)
set_option maxHeartbeats 4000000 in
set_option maxRecDepth 100000 in
theorem cs_change (C0 : LX pg m cd s args dC dI ct K A b0 L xs) (hl : lv_has ls 4 [(0, .ref b0), (1, .ref x), (2, .ref (a 0)), (3, .int (nI i))]) (hi : i + 5 < L) (hcs : cells ≤ room_1.cells ∧ slots ≤ room_1.slots) (iv : IV dC dI ct K A s.heap x st kt sc ty sh fo bk ek sp es b e tr rw ew q a H locs) (kk : ∀ (H1 : Heap) (locs1 : List Loc), IV dC dI ct K A s.heap x st kt sc ty sh fo bk ek sp es b e tr rw ew q a H1 locs1 → W pg l en room_1 s m args below meth cd H1 locs1 cells slots Q (F0 m 1607 ls [])) : W pg l en room_1 s m args below meth cd H locs cells slots Q (F0 m 312 ls []) := by
  obtain ⟨F, hK, hA, hX, hbl, hbA, hz, hE, hL⟩ := C0
  obtain ⟨ik, zz, z2, s0, s1, s2, s3, s4, nx, sx, f, p, w, y, wd, sz, nm, c, g, h, so, v, k, d, it, mv, mx, my, fa, fk, hP, hD, hS⟩ := iv
  obtain ⟨hzz, hso, hnx, hsx, fq, hZ, hc, ⟨n, hn, hs0, h8, hby⟩, hik⟩ := id fa
  refine lv_aload_n F.1 F.2.1 dL_law_312 rfl (lv_at hl 1 rfl) ?_
  refine sL (q := 1) F.1 F.2.1 hX hbl hbA hS hl (by omega) hL (by decide) dL_law_313 dL_law_314 dL_law_315 dL_law_316 dL_law_317 ?_
  refine sL (q := 2) F.1 F.2.1 hX hbl hbA hS hl (by omega) hL (by decide) dL_law_318 dL_law_319 dL_law_320 dL_law_321 dL_law_322 ?_
  refine sL (q := 3) F.1 F.2.1 hX hbl hbA hS hl (by omega) hL (by decide) dL_law_323 dL_law_324 dL_law_325 dL_law_326 dL_law_327 ?_
  refine sL (q := 4) F.1 F.2.1 hX hbl hbA hS hl (by omega) hL (by decide) dL_law_328 dL_law_329 dL_law_330 dL_law_331 dL_law_332 ?_
  refine lcX5_change _ _ _ _ _ _ _ _ _ _ _ _ _ _ (xs (i + 1)) (xs (i + 2)) (xs (i + 3)) (xs (i + 4)) F gL_law_X5_change hK hP hD hS hA ⟨Nat.le_of_ble_eq_true rfl, Nat.le_of_ble_eq_true rfl⟩ hl.1 (Nat.le_of_ble_eq_true rfl) hcs dL_law_333 (fun r1 u1 H1 locs1 e1 hP1 hD1 hS1 => ?_)
  refine lv_aload_n F.1 F.2.1 dL_law_336 rfl (lv_at hl 2 rfl) ?_
  refine sL (q := 1) F.1 F.2.1 hX hbl hbA hS1 hl (by omega) hL (by decide) dL_law_337 dL_law_338 dL_law_339 dL_law_340 dL_law_341 ?_
  refine sL (q := 2) F.1 F.2.1 hX hbl hbA hS1 hl (by omega) hL (by decide) dL_law_342 dL_law_343 dL_law_344 dL_law_345 dL_law_346 ?_
  refine sL (q := 3) F.1 F.2.1 hX hbl hbA hS1 hl (by omega) hL (by decide) dL_law_347 dL_law_348 dL_law_349 dL_law_350 dL_law_351 ?_
  refine sL (q := 4) F.1 F.2.1 hX hbl hbA hS1 hl (by omega) hL (by decide) dL_law_352 dL_law_353 dL_law_354 dL_law_355 dL_law_356 ?_
  refine lcX6_change _ _ _ _ (xs (i + 1)) (xs (i + 2)) (xs (i + 3)) (xs (i + 4)) F gL_law_X6_change hK hP1 hD1 hS1 hA ⟨Nat.le_of_ble_eq_true rfl, Nat.le_of_ble_eq_true rfl⟩ hl.1 (Nat.le_of_ble_eq_true rfl) hcs dL_law_357 (fun r2 u2 H2 locs2 e2 hP2 hD2 hS2 => ?_)
  have e3 : (r1, u1.1, u1.2) = sChange f c (xs (i + 1)) (xs (i + 2)) (xs (i + 3)) (xs (i + 4)) := e1
  have e4 : (r2, u2.1, u2.2) = sChange f c (xs (i + 1)) (xs (i + 2)) (xs (i + 3)) (xs (i + 4)) := e2
  obtain ⟨q1, q2⟩ := Prod.mk.inj (e4.trans e3.symm)
  obtain ⟨q2, q3⟩ := Prod.mk.inj q2
  have ok := ok_change fq.1 c (xs (i + 1)) (xs (i + 2)) (xs (i + 3)) (xs (i + 4))
  rw [← e3] at ok
  refine lv_icmp_eq (tgt := 1607) F.1 F.2.1 dL_law_360 (by decide) (fun _ => ?_) (fun hne => absurd q1.symm hne)
  exact kk _ _ (IVk hP2 hD2 hS2 q2 q3 rfl rfl rfl rfl ((fa.ok ok.1 ok.2)) fk)
set_option maxHeartbeats 4000000 in
set_option maxRecDepth 100000 in
theorem cs_side (C0 : LX pg m cd s args dC dI ct K A b0 L xs) (hl : lv_has ls 4 [(0, .ref b0), (1, .ref x), (2, .ref (a 0)), (3, .int (nI i))]) (hi : i + 5 < L) (hcs : cells ≤ room_1.cells ∧ slots ≤ room_1.slots) (iv : IV dC dI ct K A s.heap x st kt sc ty sh fo bk ek sp es b e tr rw ew q a H locs) (kk : ∀ (H1 : Heap) (locs1 : List Loc), IV dC dI ct K A s.heap x st kt sc ty sh fo bk ek sp es b e tr rw ew q a H1 locs1 → W pg l en room_1 s m args below meth cd H1 locs1 cells slots Q (F0 m 1607 ls [])) : W pg l en room_1 s m args below meth cd H locs cells slots Q (F0 m 365 ls []) := by
  obtain ⟨F, hK, hA, hX, hbl, hbA, hz, hE, hL⟩ := C0
  obtain ⟨ik, zz, z2, s0, s1, s2, s3, s4, nx, sx, f, p, w, y, wd, sz, nm, c, g, h, so, v, k, d, it, mv, mx, my, fa, fk, hP, hD, hS⟩ := iv
  obtain ⟨hzz, hso, hnx, hsx, fq, hZ, hc, ⟨n, hn, hs0, h8, hby⟩, hik⟩ := id fa
  refine lv_aload_n F.1 F.2.1 dL_law_365 rfl (lv_at hl 1 rfl) ?_
  refine sL (q := 1) F.1 F.2.1 hX hbl hbA hS hl (by omega) hL (by decide) dL_law_366 dL_law_367 dL_law_368 dL_law_369 dL_law_370 ?_
  refine sL (q := 2) F.1 F.2.1 hX hbl hbA hS hl (by omega) hL (by decide) dL_law_371 dL_law_372 dL_law_373 dL_law_374 dL_law_375 ?_
  refine sL (q := 3) F.1 F.2.1 hX hbl hbA hS hl (by omega) hL (by decide) dL_law_376 dL_law_377 dL_law_378 dL_law_379 dL_law_380 ?_
  refine lcX5_side _ _ _ _ _ _ _ _ _ _ _ _ _ _ (xs (i + 1)) (xs (i + 2)) (xs (i + 3)) F gL_law_X5_side hK hP hD hS hA ⟨Nat.le_of_ble_eq_true rfl, Nat.le_of_ble_eq_true rfl⟩ hl.1 (Nat.le_of_ble_eq_true rfl) hcs dL_law_381 (fun r1 u1 H1 locs1 e1 hP1 hD1 hS1 => ?_)
  refine lv_aload_n F.1 F.2.1 dL_law_384 rfl (lv_at hl 2 rfl) ?_
  refine sL (q := 1) F.1 F.2.1 hX hbl hbA hS1 hl (by omega) hL (by decide) dL_law_385 dL_law_386 dL_law_387 dL_law_388 dL_law_389 ?_
  refine sL (q := 2) F.1 F.2.1 hX hbl hbA hS1 hl (by omega) hL (by decide) dL_law_390 dL_law_391 dL_law_392 dL_law_393 dL_law_394 ?_
  refine sL (q := 3) F.1 F.2.1 hX hbl hbA hS1 hl (by omega) hL (by decide) dL_law_395 dL_law_396 dL_law_397 dL_law_398 dL_law_399 ?_
  refine lcX6_side _ _ _ _ (xs (i + 1)) (xs (i + 2)) (xs (i + 3)) F gL_law_X6_side hK hP1 hD1 hS1 hA ⟨Nat.le_of_ble_eq_true rfl, Nat.le_of_ble_eq_true rfl⟩ hl.1 (Nat.le_of_ble_eq_true rfl) hcs dL_law_400 (fun r2 u2 H2 locs2 e2 hP2 hD2 hS2 => ?_)
  have e3 : (r1, u1.1, u1.2) = sSide f c (xs (i + 1)) (xs (i + 2)) (xs (i + 3)) := e1
  have e4 : (r2, u2.1, u2.2) = sSide f c (xs (i + 1)) (xs (i + 2)) (xs (i + 3)) := e2
  obtain ⟨q1, q2⟩ := Prod.mk.inj (e4.trans e3.symm)
  obtain ⟨q2, q3⟩ := Prod.mk.inj q2
  have ok := ok_side fq.1 c (xs (i + 1)) (xs (i + 2)) (xs (i + 3))
  rw [← e3] at ok
  refine lv_icmp_eq (tgt := 1607) F.1 F.2.1 dL_law_403 (by decide) (fun _ => ?_) (fun hne => absurd q1.symm hne)
  exact kk _ _ (IVk hP2 hD2 hS2 q2 q3 rfl rfl rfl rfl ((fa.ok ok.1 ok.2)) fk)
set_option maxHeartbeats 4000000 in
set_option maxRecDepth 100000 in
theorem cs_frost (C0 : LX pg m cd s args dC dI ct K A b0 L xs) (hl : lv_has ls 4 [(0, .ref b0), (1, .ref x), (2, .ref (a 0)), (3, .int (nI i))]) (hi : i + 5 < L) (hcs : cells ≤ room_1.cells ∧ slots ≤ room_1.slots) (iv : IV dC dI ct K A s.heap x st kt sc ty sh fo bk ek sp es b e tr rw ew q a H locs) (kk : ∀ (H1 : Heap) (locs1 : List Loc), IV dC dI ct K A s.heap x st kt sc ty sh fo bk ek sp es b e tr rw ew q a H1 locs1 → W pg l en room_1 s m args below meth cd H1 locs1 cells slots Q (F0 m 1607 ls [])) : W pg l en room_1 s m args below meth cd H locs cells slots Q (F0 m 408 ls []) := by
  obtain ⟨F, hK, hA, hX, hbl, hbA, hz, hE, hL⟩ := C0
  obtain ⟨ik, zz, z2, s0, s1, s2, s3, s4, nx, sx, f, p, w, y, wd, sz, nm, c, g, h, so, v, k, d, it, mv, mx, my, fa, fk, hP, hD, hS⟩ := iv
  obtain ⟨hzz, hso, hnx, hsx, fq, hZ, hc, ⟨n, hn, hs0, h8, hby⟩, hik⟩ := id fa
  refine lv_aload_n F.1 F.2.1 dL_law_408 rfl (lv_at hl 1 rfl) ?_
  refine sL (q := 1) F.1 F.2.1 hX hbl hbA hS hl (by omega) hL (by decide) dL_law_409 dL_law_410 dL_law_411 dL_law_412 dL_law_413 ?_
  refine lcX5_frost _ _ _ _ _ _ _ _ _ _ _ _ _ _ (xs (i + 1)) F gL_law_X5_frost hK hP hD hS hA ⟨Nat.le_of_ble_eq_true rfl, Nat.le_of_ble_eq_true rfl⟩ hl.1 (Nat.le_of_ble_eq_true rfl) hcs dL_law_414 (fun r1 u1 H1 locs1 e1 hP1 hD1 hS1 => ?_)
  refine lv_aload_n F.1 F.2.1 dL_law_417 rfl (lv_at hl 2 rfl) ?_
  refine sL (q := 1) F.1 F.2.1 hX hbl hbA hS1 hl (by omega) hL (by decide) dL_law_418 dL_law_419 dL_law_420 dL_law_421 dL_law_422 ?_
  refine lcX6_frost _ _ _ _ (xs (i + 1)) F gL_law_X6_frost hK hP1 hD1 hS1 hA ⟨Nat.le_of_ble_eq_true rfl, Nat.le_of_ble_eq_true rfl⟩ hl.1 (Nat.le_of_ble_eq_true rfl) hcs dL_law_423 (fun r2 u2 H2 locs2 e2 hP2 hD2 hS2 => ?_)
  have e3 : (r1, u1.1, u1.2) = sFrost f c (xs (i + 1)) := e1
  have e4 : (r2, u2.1, u2.2) = sFrost f c (xs (i + 1)) := e2
  obtain ⟨q1, q2⟩ := Prod.mk.inj (e4.trans e3.symm)
  obtain ⟨q2, q3⟩ := Prod.mk.inj q2
  have ok := ok_frost fq.1 c (xs (i + 1))
  rw [← e3] at ok
  refine lv_icmp_eq (tgt := 1607) F.1 F.2.1 dL_law_426 (by decide) (fun _ => ?_) (fun hne => absurd q1.symm hne)
  exact kk _ _ (IVk hP2 hD2 hS2 q2 q3 rfl rfl rfl rfl ((fa.ok ok.1 ok.2)) fk)
set_option maxHeartbeats 4000000 in
set_option maxRecDepth 100000 in
theorem cs_price (C0 : LX pg m cd s args dC dI ct K A b0 L xs) (hl : lv_has ls 4 [(0, .ref b0), (1, .ref x), (2, .ref (a 0)), (3, .int (nI i))]) (hi : i + 5 < L) (hcs : cells ≤ room_1.cells ∧ slots ≤ room_1.slots) (iv : IV dC dI ct K A s.heap x st kt sc ty sh fo bk ek sp es b e tr rw ew q a H locs) (kk : ∀ (H1 : Heap) (locs1 : List Loc), IV dC dI ct K A s.heap x st kt sc ty sh fo bk ek sp es b e tr rw ew q a H1 locs1 → W pg l en room_1 s m args below meth cd H1 locs1 cells slots Q (F0 m 1607 ls [])) : W pg l en room_1 s m args below meth cd H locs cells slots Q (F0 m 431 ls []) := by
  obtain ⟨F, hK, hA, hX, hbl, hbA, hz, hE, hL⟩ := C0
  obtain ⟨ik, zz, z2, s0, s1, s2, s3, s4, nx, sx, f, p, w, y, wd, sz, nm, c, g, h, so, v, k, d, it, mv, mx, my, fa, fk, hP, hD, hS⟩ := iv
  obtain ⟨hzz, hso, hnx, hsx, fq, hZ, hc, ⟨n, hn, hs0, h8, hby⟩, hik⟩ := id fa
  refine lv_aload_n F.1 F.2.1 dL_law_431 rfl (lv_at hl 1 rfl) ?_
  refine sL (q := 1) F.1 F.2.1 hX hbl hbA hS hl (by omega) hL (by decide) dL_law_432 dL_law_433 dL_law_434 dL_law_435 dL_law_436 ?_
  refine sL (q := 2) F.1 F.2.1 hX hbl hbA hS hl (by omega) hL (by decide) dL_law_437 dL_law_438 dL_law_439 dL_law_440 dL_law_441 ?_
  refine sL (q := 3) F.1 F.2.1 hX hbl hbA hS hl (by omega) hL (by decide) dL_law_442 dL_law_443 dL_law_444 dL_law_445 dL_law_446 ?_
  refine lcX5_price _ _ _ _ _ _ _ _ _ _ _ _ _ _ (xs (i + 1)) (xs (i + 2)) (xs (i + 3)) F gL_law_X5_price hK hP hD hS hA ⟨Nat.le_of_ble_eq_true rfl, Nat.le_of_ble_eq_true rfl⟩ hl.1 (Nat.le_of_ble_eq_true rfl) hcs dL_law_447 (fun r1 u1 H1 locs1 e1 hP1 hD1 hS1 => ?_)
  refine lv_aload_n F.1 F.2.1 dL_law_450 rfl (lv_at hl 2 rfl) ?_
  refine sL (q := 1) F.1 F.2.1 hX hbl hbA hS1 hl (by omega) hL (by decide) dL_law_451 dL_law_452 dL_law_453 dL_law_454 dL_law_455 ?_
  refine sL (q := 2) F.1 F.2.1 hX hbl hbA hS1 hl (by omega) hL (by decide) dL_law_456 dL_law_457 dL_law_458 dL_law_459 dL_law_460 ?_
  refine sL (q := 3) F.1 F.2.1 hX hbl hbA hS1 hl (by omega) hL (by decide) dL_law_461 dL_law_462 dL_law_463 dL_law_464 dL_law_465 ?_
  refine lcX6_price _ _ _ _ (xs (i + 1)) (xs (i + 2)) (xs (i + 3)) F gL_law_X6_price hK hP1 hD1 hS1 hA ⟨Nat.le_of_ble_eq_true rfl, Nat.le_of_ble_eq_true rfl⟩ hl.1 (Nat.le_of_ble_eq_true rfl) hcs dL_law_466 (fun r2 u2 H2 locs2 e2 hP2 hD2 hS2 => ?_)
  have e3 : (r1, u1.1, u1.2) = sPrice f c (xs (i + 1)) (xs (i + 2)) (xs (i + 3)) := e1
  have e4 : (r2, u2.1, u2.2) = sPrice f c (xs (i + 1)) (xs (i + 2)) (xs (i + 3)) := e2
  obtain ⟨q1, q2⟩ := Prod.mk.inj (e4.trans e3.symm)
  obtain ⟨q2, q3⟩ := Prod.mk.inj q2
  have ok := ok_price fq.1 c (xs (i + 1)) (xs (i + 2)) (xs (i + 3))
  rw [← e3] at ok
  refine lv_icmp_eq (tgt := 1607) F.1 F.2.1 dL_law_469 (by decide) (fun _ => ?_) (fun hne => absurd q1.symm hne)
  exact kk _ _ (IVk hP2 hD2 hS2 q2 q3 rfl rfl rfl rfl ((fa.ok ok.1 ok.2)) fk)
set_option maxHeartbeats 4000000 in
set_option maxRecDepth 100000 in
theorem cs_value (C0 : LX pg m cd s args dC dI ct K A b0 L xs) (hl : lv_has ls 4 [(0, .ref b0), (1, .ref x), (2, .ref (a 0)), (3, .int (nI i))]) (hi : i + 5 < L) (hcs : cells ≤ room_1.cells ∧ slots ≤ room_1.slots) (iv : IV dC dI ct K A s.heap x st kt sc ty sh fo bk ek sp es b e tr rw ew q a H locs) (kk : ∀ (H1 : Heap) (locs1 : List Loc), IV dC dI ct K A s.heap x st kt sc ty sh fo bk ek sp es b e tr rw ew q a H1 locs1 → W pg l en room_1 s m args below meth cd H1 locs1 cells slots Q (F0 m 1607 ls [])) : W pg l en room_1 s m args below meth cd H locs cells slots Q (F0 m 474 ls []) := by
  obtain ⟨F, hK, hA, hX, hbl, hbA, hz, hE, hL⟩ := C0
  obtain ⟨ik, zz, z2, s0, s1, s2, s3, s4, nx, sx, f, p, w, y, wd, sz, nm, c, g, h, so, v, k, d, it, mv, mx, my, fa, fk, hP, hD, hS⟩ := iv
  obtain ⟨hzz, hso, hnx, hsx, fq, hZ, hc, ⟨n, hn, hs0, h8, hby⟩, hik⟩ := id fa
  refine lv_aload_n F.1 F.2.1 dL_law_474 rfl (lv_at hl 1 rfl) ?_
  refine sL (q := 1) F.1 F.2.1 hX hbl hbA hS hl (by omega) hL (by decide) dL_law_475 dL_law_476 dL_law_477 dL_law_478 dL_law_479 ?_
  refine sL (q := 2) F.1 F.2.1 hX hbl hbA hS hl (by omega) hL (by decide) dL_law_480 dL_law_481 dL_law_482 dL_law_483 dL_law_484 ?_
  refine lcX5_value _ _ _ _ _ _ _ _ _ _ _ _ _ _ (xs (i + 1)) (xs (i + 2)) fq.1 F gL_law_X5_value hK hP hD hS hA ⟨Nat.le_of_ble_eq_true rfl, Nat.le_of_ble_eq_true rfl⟩ hl.1 (Nat.le_of_ble_eq_true rfl) hcs dL_law_485 (fun r1 u1 H1 locs1 e1 hP1 hD1 hS1 => ?_)
  refine lv_aload_n F.1 F.2.1 dL_law_488 rfl (lv_at hl 2 rfl) ?_
  refine sL (q := 1) F.1 F.2.1 hX hbl hbA hS1 hl (by omega) hL (by decide) dL_law_489 dL_law_490 dL_law_491 dL_law_492 dL_law_493 ?_
  refine sL (q := 2) F.1 F.2.1 hX hbl hbA hS1 hl (by omega) hL (by decide) dL_law_494 dL_law_495 dL_law_496 dL_law_497 dL_law_498 ?_
  refine lcX6_value _ _ _ _ (xs (i + 1)) (xs (i + 2)) F gL_law_X6_value hK hP1 hD1 hS1 hA ⟨Nat.le_of_ble_eq_true rfl, Nat.le_of_ble_eq_true rfl⟩ hl.1 (Nat.le_of_ble_eq_true rfl) hcs dL_law_499 (fun r2 u2 H2 locs2 e2 hP2 hD2 hS2 => ?_)
  have e3 : (r1, u1.1, u1.2) = sValue f c (xs (i + 1)) (xs (i + 2)) := e1
  have e4 : (r2, u2.1, u2.2) = sValue f c (xs (i + 1)) (xs (i + 2)) := e2
  obtain ⟨q1, q2⟩ := Prod.mk.inj (e4.trans e3.symm)
  obtain ⟨q2, q3⟩ := Prod.mk.inj q2
  have ok := ok_value fq.1 c (xs (i + 1)) (xs (i + 2))
  rw [← e3] at ok
  refine lv_icmp_eq (tgt := 1607) F.1 F.2.1 dL_law_502 (by decide) (fun _ => ?_) (fun hne => absurd q1.symm hne)
  exact kk _ _ (IVk hP2 hD2 hS2 q2 q3 rfl rfl rfl rfl ((fa.ok ok.1 ok.2)) fk)
set_option maxHeartbeats 4000000 in
set_option maxRecDepth 100000 in
theorem cs_eaten (C0 : LX pg m cd s args dC dI ct K A b0 L xs) (hl : lv_has ls 4 [(0, .ref b0), (1, .ref x), (2, .ref (a 0)), (3, .int (nI i))]) (hi : i + 5 < L) (hcs : cells ≤ room_1.cells ∧ slots ≤ room_1.slots) (iv : IV dC dI ct K A s.heap x st kt sc ty sh fo bk ek sp es b e tr rw ew q a H locs) (kk : ∀ (H1 : Heap) (locs1 : List Loc), IV dC dI ct K A s.heap x st kt sc ty sh fo bk ek sp es b e tr rw ew q a H1 locs1 → W pg l en room_1 s m args below meth cd H1 locs1 cells slots Q (F0 m 1607 ls [])) : W pg l en room_1 s m args below meth cd H locs cells slots Q (F0 m 507 ls []) := by
  obtain ⟨F, hK, hA, hX, hbl, hbA, hz, hE, hL⟩ := C0
  obtain ⟨ik, zz, z2, s0, s1, s2, s3, s4, nx, sx, f, p, w, y, wd, sz, nm, c, g, h, so, v, k, d, it, mv, mx, my, fa, fk, hP, hD, hS⟩ := iv
  obtain ⟨hzz, hso, hnx, hsx, fq, hZ, hc, ⟨n, hn, hs0, h8, hby⟩, hik⟩ := id fa
  refine lv_aload_n F.1 F.2.1 dL_law_507 rfl (lv_at hl 1 rfl) ?_
  refine sL (q := 1) F.1 F.2.1 hX hbl hbA hS hl (by omega) hL (by decide) dL_law_508 dL_law_509 dL_law_510 dL_law_511 dL_law_512 ?_
  refine sL (q := 2) F.1 F.2.1 hX hbl hbA hS hl (by omega) hL (by decide) dL_law_513 dL_law_514 dL_law_515 dL_law_516 dL_law_517 ?_
  refine lcX5_eaten _ _ _ _ _ _ _ _ _ _ _ _ _ _ (xs (i + 1)) (xs (i + 2)) F gL_law_X5_eaten hK hP hD hS hA ⟨Nat.le_of_ble_eq_true rfl, Nat.le_of_ble_eq_true rfl⟩ hl.1 (Nat.le_of_ble_eq_true rfl) hcs dL_law_518 (fun r1 u1 H1 locs1 e1 hP1 hD1 hS1 => ?_)
  refine lv_aload_n F.1 F.2.1 dL_law_521 rfl (lv_at hl 2 rfl) ?_
  refine sL (q := 1) F.1 F.2.1 hX hbl hbA hS1 hl (by omega) hL (by decide) dL_law_522 dL_law_523 dL_law_524 dL_law_525 dL_law_526 ?_
  refine sL (q := 2) F.1 F.2.1 hX hbl hbA hS1 hl (by omega) hL (by decide) dL_law_527 dL_law_528 dL_law_529 dL_law_530 dL_law_531 ?_
  refine lcX6_eaten _ _ _ _ (xs (i + 1)) (xs (i + 2)) F gL_law_X6_eaten hK hP1 hD1 hS1 hA ⟨Nat.le_of_ble_eq_true rfl, Nat.le_of_ble_eq_true rfl⟩ hl.1 (Nat.le_of_ble_eq_true rfl) hcs dL_law_532 (fun r2 u2 H2 locs2 e2 hP2 hD2 hS2 => ?_)
  have e3 : (r1, u1.1, u1.2) = sEaten f c (xs (i + 1)) (xs (i + 2)) := e1
  have e4 : (r2, u2.1, u2.2) = sEaten f c (xs (i + 1)) (xs (i + 2)) := e2
  obtain ⟨q1, q2⟩ := Prod.mk.inj (e4.trans e3.symm)
  obtain ⟨q2, q3⟩ := Prod.mk.inj q2
  have ok := ok_eaten fq.1 c (xs (i + 1)) (xs (i + 2))
  rw [← e3] at ok
  refine lv_icmp_eq (tgt := 1607) F.1 F.2.1 dL_law_535 (by decide) (fun _ => ?_) (fun hne => absurd q1.symm hne)
  exact kk _ _ (IVk hP2 hD2 hS2 q2 q3 rfl rfl rfl rfl ((fa.ok ok.1 ok.2)) fk)
set_option maxHeartbeats 4000000 in
set_option maxRecDepth 100000 in
theorem cs_lay (C0 : LX pg m cd s args dC dI ct K A b0 L xs) (hl : lv_has ls 4 [(0, .ref b0), (1, .ref x), (2, .ref (a 0)), (3, .int (nI i))]) (hi : i + 5 < L) (hcs : cells ≤ room_1.cells ∧ slots ≤ room_1.slots) (iv : IV dC dI ct K A s.heap x st kt sc ty sh fo bk ek sp es b e tr rw ew q a H locs) (kk : ∀ (H1 : Heap) (locs1 : List Loc), IV dC dI ct K A s.heap x st kt sc ty sh fo bk ek sp es b e tr rw ew q a H1 locs1 → W pg l en room_1 s m args below meth cd H1 locs1 cells slots Q (F0 m 1607 ls [])) : W pg l en room_1 s m args below meth cd H locs cells slots Q (F0 m 540 ls []) := by
  obtain ⟨F, hK, hA, hX, hbl, hbA, hz, hE, hL⟩ := C0
  obtain ⟨ik, zz, z2, s0, s1, s2, s3, s4, nx, sx, f, p, w, y, wd, sz, nm, c, g, h, so, v, k, d, it, mv, mx, my, fa, fk, hP, hD, hS⟩ := iv
  obtain ⟨hzz, hso, hnx, hsx, fq, hZ, hc, ⟨n, hn, hs0, h8, hby⟩, hik⟩ := id fa
  refine lv_aload_n F.1 F.2.1 dL_law_540 rfl (lv_at hl 1 rfl) ?_
  refine sL (q := 1) F.1 F.2.1 hX hbl hbA hS hl (by omega) hL (by decide) dL_law_541 dL_law_542 dL_law_543 dL_law_544 dL_law_545 ?_
  refine sL (q := 2) F.1 F.2.1 hX hbl hbA hS hl (by omega) hL (by decide) dL_law_546 dL_law_547 dL_law_548 dL_law_549 dL_law_550 ?_
  refine sL (q := 3) F.1 F.2.1 hX hbl hbA hS hl (by omega) hL (by decide) dL_law_551 dL_law_552 dL_law_553 dL_law_554 dL_law_555 ?_
  refine lcX5_lay _ _ _ _ _ _ _ _ _ _ _ _ _ _ (xs (i + 1)) (xs (i + 2)) (xs (i + 3)) F gL_law_X5_lay hK hP hD hS hA ⟨Nat.le_of_ble_eq_true rfl, Nat.le_of_ble_eq_true rfl⟩ hl.1 (Nat.le_of_ble_eq_true rfl) hcs dL_law_556 (fun r1 u1 H1 locs1 e1 hP1 hD1 hS1 => ?_)
  refine lv_aload_n F.1 F.2.1 dL_law_559 rfl (lv_at hl 2 rfl) ?_
  refine sL (q := 1) F.1 F.2.1 hX hbl hbA hS1 hl (by omega) hL (by decide) dL_law_560 dL_law_561 dL_law_562 dL_law_563 dL_law_564 ?_
  refine sL (q := 2) F.1 F.2.1 hX hbl hbA hS1 hl (by omega) hL (by decide) dL_law_565 dL_law_566 dL_law_567 dL_law_568 dL_law_569 ?_
  refine sL (q := 3) F.1 F.2.1 hX hbl hbA hS1 hl (by omega) hL (by decide) dL_law_570 dL_law_571 dL_law_572 dL_law_573 dL_law_574 ?_
  refine lcX6_lay _ _ _ _ (xs (i + 1)) (xs (i + 2)) (xs (i + 3)) F gL_law_X6_lay hK hP1 hD1 hS1 hA ⟨Nat.le_of_ble_eq_true rfl, Nat.le_of_ble_eq_true rfl⟩ hl.1 (Nat.le_of_ble_eq_true rfl) hcs dL_law_575 (fun r2 u2 H2 locs2 e2 hP2 hD2 hS2 => ?_)
  have e3 : (r1, u1.1, u1.2) = sLay f c (xs (i + 1)) (xs (i + 2)) (xs (i + 3)) := e1
  have e4 : (r2, u2.1, u2.2) = sLay f c (xs (i + 1)) (xs (i + 2)) (xs (i + 3)) := e2
  obtain ⟨q1, q2⟩ := Prod.mk.inj (e4.trans e3.symm)
  obtain ⟨q2, q3⟩ := Prod.mk.inj q2
  have ok := ok_lay fq.1 c (xs (i + 1)) (xs (i + 2)) (xs (i + 3))
  rw [← e3] at ok
  refine lv_icmp_eq (tgt := 1607) F.1 F.2.1 dL_law_578 (by decide) (fun _ => ?_) (fun hne => absurd q1.symm hne)
  exact kk _ _ (IVk hP2 hD2 hS2 q2 q3 rfl rfl rfl rfl ((fa.ok ok.1 ok.2)) fk)
set_option maxHeartbeats 4000000 in
set_option maxRecDepth 100000 in
theorem cs_back (C0 : LX pg m cd s args dC dI ct K A b0 L xs) (hl : lv_has ls 4 [(0, .ref b0), (1, .ref x), (2, .ref (a 0)), (3, .int (nI i))]) (hi : i + 5 < L) (hcs : cells ≤ room_1.cells ∧ slots ≤ room_1.slots) (iv : IV dC dI ct K A s.heap x st kt sc ty sh fo bk ek sp es b e tr rw ew q a H locs) (kk : ∀ (H1 : Heap) (locs1 : List Loc), IV dC dI ct K A s.heap x st kt sc ty sh fo bk ek sp es b e tr rw ew q a H1 locs1 → W pg l en room_1 s m args below meth cd H1 locs1 cells slots Q (F0 m 1607 ls [])) : W pg l en room_1 s m args below meth cd H locs cells slots Q (F0 m 583 ls []) := by
  obtain ⟨F, hK, hA, hX, hbl, hbA, hz, hE, hL⟩ := C0
  obtain ⟨ik, zz, z2, s0, s1, s2, s3, s4, nx, sx, f, p, w, y, wd, sz, nm, c, g, h, so, v, k, d, it, mv, mx, my, fa, fk, hP, hD, hS⟩ := iv
  obtain ⟨hzz, hso, hnx, hsx, fq, hZ, hc, ⟨n, hn, hs0, h8, hby⟩, hik⟩ := id fa
  refine lv_aload_n F.1 F.2.1 dL_law_583 rfl (lv_at hl 1 rfl) ?_
  refine sL (q := 1) F.1 F.2.1 hX hbl hbA hS hl (by omega) hL (by decide) dL_law_584 dL_law_585 dL_law_586 dL_law_587 dL_law_588 ?_
  refine sL (q := 2) F.1 F.2.1 hX hbl hbA hS hl (by omega) hL (by decide) dL_law_589 dL_law_590 dL_law_591 dL_law_592 dL_law_593 ?_
  refine sL (q := 3) F.1 F.2.1 hX hbl hbA hS hl (by omega) hL (by decide) dL_law_594 dL_law_595 dL_law_596 dL_law_597 dL_law_598 ?_
  refine lcX5_back _ _ _ _ _ _ _ _ _ _ _ _ _ _ (xs (i + 1)) (xs (i + 2)) (xs (i + 3)) F gL_law_X5_back hK hP hD hS hA ⟨Nat.le_of_ble_eq_true rfl, Nat.le_of_ble_eq_true rfl⟩ hl.1 (Nat.le_of_ble_eq_true rfl) hcs dL_law_599 (fun r1 u1 H1 locs1 e1 hP1 hD1 hS1 => ?_)
  refine lv_aload_n F.1 F.2.1 dL_law_602 rfl (lv_at hl 2 rfl) ?_
  refine sL (q := 1) F.1 F.2.1 hX hbl hbA hS1 hl (by omega) hL (by decide) dL_law_603 dL_law_604 dL_law_605 dL_law_606 dL_law_607 ?_
  refine sL (q := 2) F.1 F.2.1 hX hbl hbA hS1 hl (by omega) hL (by decide) dL_law_608 dL_law_609 dL_law_610 dL_law_611 dL_law_612 ?_
  refine sL (q := 3) F.1 F.2.1 hX hbl hbA hS1 hl (by omega) hL (by decide) dL_law_613 dL_law_614 dL_law_615 dL_law_616 dL_law_617 ?_
  refine lcX6_back _ _ _ _ (xs (i + 1)) (xs (i + 2)) (xs (i + 3)) F gL_law_X6_back hK hP1 hD1 hS1 hA ⟨Nat.le_of_ble_eq_true rfl, Nat.le_of_ble_eq_true rfl⟩ hl.1 (Nat.le_of_ble_eq_true rfl) hcs dL_law_618 (fun r2 u2 H2 locs2 e2 hP2 hD2 hS2 => ?_)
  have e3 : (r1, u1.1, u1.2) = sBack f c (xs (i + 1)) (xs (i + 2)) (xs (i + 3)) := e1
  have e4 : (r2, u2.1, u2.2) = sBack f c (xs (i + 1)) (xs (i + 2)) (xs (i + 3)) := e2
  obtain ⟨q1, q2⟩ := Prod.mk.inj (e4.trans e3.symm)
  obtain ⟨q2, q3⟩ := Prod.mk.inj q2
  have ok := ok_back fq.1 c (xs (i + 1)) (xs (i + 2)) (xs (i + 3))
  rw [← e3] at ok
  refine lv_icmp_eq (tgt := 1607) F.1 F.2.1 dL_law_621 (by decide) (fun _ => ?_) (fun hne => absurd q1.symm hne)
  exact kk _ _ (IVk hP2 hD2 hS2 q2 q3 rfl rfl rfl rfl ((fa.ok ok.1 ok.2)) fk)
set_option maxHeartbeats 4000000 in
set_option maxRecDepth 100000 in
theorem cs_content (C0 : LX pg m cd s args dC dI ct K A b0 L xs) (hl : lv_has ls 4 [(0, .ref b0), (1, .ref x), (2, .ref (a 0)), (3, .int (nI i))]) (hi : i + 5 < L) (hcs : cells ≤ room_1.cells ∧ slots ≤ room_1.slots) (iv : IV dC dI ct K A s.heap x st kt sc ty sh fo bk ek sp es b e tr rw ew q a H locs) (kk : ∀ (H1 : Heap) (locs1 : List Loc), IV dC dI ct K A s.heap x st kt sc ty sh fo bk ek sp es b e tr rw ew q a H1 locs1 → W pg l en room_1 s m args below meth cd H1 locs1 cells slots Q (F0 m 1607 ls [])) : W pg l en room_1 s m args below meth cd H locs cells slots Q (F0 m 626 ls []) := by
  obtain ⟨F, hK, hA, hX, hbl, hbA, hz, hE, hL⟩ := C0
  obtain ⟨ik, zz, z2, s0, s1, s2, s3, s4, nx, sx, f, p, w, y, wd, sz, nm, c, g, h, so, v, k, d, it, mv, mx, my, fa, fk, hP, hD, hS⟩ := iv
  obtain ⟨hzz, hso, hnx, hsx, fq, hZ, hc, ⟨n, hn, hs0, h8, hby⟩, hik⟩ := id fa
  refine lv_aload_n F.1 F.2.1 dL_law_626 rfl (lv_at hl 1 rfl) ?_
  refine sL (q := 1) F.1 F.2.1 hX hbl hbA hS hl (by omega) hL (by decide) dL_law_627 dL_law_628 dL_law_629 dL_law_630 dL_law_631 ?_
  refine lcX5_content _ _ _ _ _ _ _ _ _ _ _ _ _ _ (xs (i + 1)) fq.1 F gL_law_X5_content hK hP hD hS hA ⟨Nat.le_of_ble_eq_true rfl, Nat.le_of_ble_eq_true rfl⟩ hl.1 (Nat.le_of_ble_eq_true rfl) hcs dL_law_632 (fun r1 u1 H1 locs1 e1 hP1 hD1 hS1 => ?_)
  refine lv_aload_n F.1 F.2.1 dL_law_635 rfl (lv_at hl 2 rfl) ?_
  refine sL (q := 1) F.1 F.2.1 hX hbl hbA hS1 hl (by omega) hL (by decide) dL_law_636 dL_law_637 dL_law_638 dL_law_639 dL_law_640 ?_
  refine lcX6_content _ _ _ _ (xs (i + 1)) F gL_law_X6_content hK hP1 hD1 hS1 hA ⟨Nat.le_of_ble_eq_true rfl, Nat.le_of_ble_eq_true rfl⟩ hl.1 (Nat.le_of_ble_eq_true rfl) hcs dL_law_641 (fun r2 u2 H2 locs2 e2 hP2 hD2 hS2 => ?_)
  have e3 : (r1, u1.1, u1.2) = sContent f c (xs (i + 1)) := e1
  have e4 : (r2, u2.1, u2.2) = sContent f c (xs (i + 1)) := e2
  obtain ⟨q1, q2⟩ := Prod.mk.inj (e4.trans e3.symm)
  obtain ⟨q2, q3⟩ := Prod.mk.inj q2
  have ok := ok_content fq.1 c (xs (i + 1))
  rw [← e3] at ok
  refine lv_icmp_eq (tgt := 1607) F.1 F.2.1 dL_law_644 (by decide) (fun _ => ?_) (fun hne => absurd q1.symm hne)
  exact kk _ _ (IVk hP2 hD2 hS2 q2 q3 rfl rfl rfl rfl ((fa.ok ok.1 ok.2)) fk)
set_option maxHeartbeats 4000000 in
set_option maxRecDepth 100000 in
theorem cs_does (C0 : LX pg m cd s args dC dI ct K A b0 L xs) (hl : lv_has ls 4 [(0, .ref b0), (1, .ref x), (2, .ref (a 0)), (3, .int (nI i))]) (hi : i + 5 < L) (hcs : cells ≤ room_1.cells ∧ slots ≤ room_1.slots) (iv : IV dC dI ct K A s.heap x st kt sc ty sh fo bk ek sp es b e tr rw ew q a H locs) (kk : ∀ (H1 : Heap) (locs1 : List Loc), IV dC dI ct K A s.heap x st kt sc ty sh fo bk ek sp es b e tr rw ew q a H1 locs1 → W pg l en room_1 s m args below meth cd H1 locs1 cells slots Q (F0 m 1607 ls [])) : W pg l en room_1 s m args below meth cd H locs cells slots Q (F0 m 649 ls []) := by
  obtain ⟨F, hK, hA, hX, hbl, hbA, hz, hE, hL⟩ := C0
  obtain ⟨ik, zz, z2, s0, s1, s2, s3, s4, nx, sx, f, p, w, y, wd, sz, nm, c, g, h, so, v, k, d, it, mv, mx, my, fa, fk, hP, hD, hS⟩ := iv
  obtain ⟨hzz, hso, hnx, hsx, fq, hZ, hc, ⟨n, hn, hs0, h8, hby⟩, hik⟩ := id fa
  refine lv_aload_n F.1 F.2.1 dL_law_649 rfl (lv_at hl 1 rfl) ?_
  refine sL (q := 1) F.1 F.2.1 hX hbl hbA hS hl (by omega) hL (by decide) dL_law_650 dL_law_651 dL_law_652 dL_law_653 dL_law_654 ?_
  refine lcX5_does _ _ _ _ _ _ _ _ _ _ _ _ _ _ (xs (i + 1)) fq.1 F gL_law_X5_does hK hP hD hS hA ⟨Nat.le_of_ble_eq_true rfl, Nat.le_of_ble_eq_true rfl⟩ hl.1 (Nat.le_of_ble_eq_true rfl) hcs dL_law_655 (fun r1 u1 H1 locs1 e1 hP1 hD1 hS1 => ?_)
  refine lv_aload_n F.1 F.2.1 dL_law_658 rfl (lv_at hl 2 rfl) ?_
  refine sL (q := 1) F.1 F.2.1 hX hbl hbA hS1 hl (by omega) hL (by decide) dL_law_659 dL_law_660 dL_law_661 dL_law_662 dL_law_663 ?_
  refine lcX6_does _ _ _ _ (xs (i + 1)) F gL_law_X6_does hK hP1 hD1 hS1 hA ⟨Nat.le_of_ble_eq_true rfl, Nat.le_of_ble_eq_true rfl⟩ hl.1 (Nat.le_of_ble_eq_true rfl) hcs dL_law_664 (fun r2 u2 H2 locs2 e2 hP2 hD2 hS2 => ?_)
  have e3 : (r1, u1.1, u1.2) = sDoes f c (xs (i + 1)) := e1
  have e4 : (r2, u2.1, u2.2) = sDoes f c (xs (i + 1)) := e2
  obtain ⟨q1, q2⟩ := Prod.mk.inj (e4.trans e3.symm)
  obtain ⟨q2, q3⟩ := Prod.mk.inj q2
  have ok := ok_does fq.1 c (xs (i + 1))
  rw [← e3] at ok
  refine lv_icmp_eq (tgt := 1607) F.1 F.2.1 dL_law_667 (by decide) (fun _ => ?_) (fun hne => absurd q1.symm hne)
  exact kk _ _ (IVk hP2 hD2 hS2 q2 q3 rfl rfl rfl rfl ((fa.ok ok.1 ok.2)) fk)
set_option maxHeartbeats 4000000 in
set_option maxRecDepth 100000 in
theorem cs_less (C0 : LX pg m cd s args dC dI ct K A b0 L xs) (hl : lv_has ls 4 [(0, .ref b0), (1, .ref x), (2, .ref (a 0)), (3, .int (nI i))]) (hi : i + 5 < L) (hcs : cells ≤ room_1.cells ∧ slots ≤ room_1.slots) (iv : IV dC dI ct K A s.heap x st kt sc ty sh fo bk ek sp es b e tr rw ew q a H locs) (kk : ∀ (H1 : Heap) (locs1 : List Loc), IV dC dI ct K A s.heap x st kt sc ty sh fo bk ek sp es b e tr rw ew q a H1 locs1 → W pg l en room_1 s m args below meth cd H1 locs1 cells slots Q (F0 m 1607 ls [])) : W pg l en room_1 s m args below meth cd H locs cells slots Q (F0 m 672 ls []) := by
  obtain ⟨F, hK, hA, hX, hbl, hbA, hz, hE, hL⟩ := C0
  obtain ⟨ik, zz, z2, s0, s1, s2, s3, s4, nx, sx, f, p, w, y, wd, sz, nm, c, g, h, so, v, k, d, it, mv, mx, my, fa, fk, hP, hD, hS⟩ := iv
  obtain ⟨hzz, hso, hnx, hsx, fq, hZ, hc, ⟨n, hn, hs0, h8, hby⟩, hik⟩ := id fa
  refine lv_aload_n F.1 F.2.1 dL_law_672 rfl (lv_at hl 1 rfl) ?_
  refine sL (q := 1) F.1 F.2.1 hX hbl hbA hS hl (by omega) hL (by decide) dL_law_673 dL_law_674 dL_law_675 dL_law_676 dL_law_677 ?_
  refine lcX5_less _ _ _ _ _ _ _ _ _ _ _ _ _ _ (xs (i + 1)) fq.1 F gL_law_X5_less hK hP hD hS hA ⟨Nat.le_of_ble_eq_true rfl, Nat.le_of_ble_eq_true rfl⟩ hl.1 (Nat.le_of_ble_eq_true rfl) hcs dL_law_678 (fun r1 u1 H1 locs1 e1 hP1 hD1 hS1 => ?_)
  refine lv_aload_n F.1 F.2.1 dL_law_681 rfl (lv_at hl 2 rfl) ?_
  refine sL (q := 1) F.1 F.2.1 hX hbl hbA hS1 hl (by omega) hL (by decide) dL_law_682 dL_law_683 dL_law_684 dL_law_685 dL_law_686 ?_
  refine lcX6_less _ _ _ _ (xs (i + 1)) F gL_law_X6_less hK hP1 hD1 hS1 hA ⟨Nat.le_of_ble_eq_true rfl, Nat.le_of_ble_eq_true rfl⟩ hl.1 (Nat.le_of_ble_eq_true rfl) hcs dL_law_687 (fun r2 u2 H2 locs2 e2 hP2 hD2 hS2 => ?_)
  have e3 : (r1, u1.1, u1.2) = sLess f c (xs (i + 1)) := e1
  have e4 : (r2, u2.1, u2.2) = sLess f c (xs (i + 1)) := e2
  obtain ⟨q1, q2⟩ := Prod.mk.inj (e4.trans e3.symm)
  obtain ⟨q2, q3⟩ := Prod.mk.inj q2
  have ok := ok_less fq.1 c (xs (i + 1))
  rw [← e3] at ok
  refine lv_icmp_eq (tgt := 1607) F.1 F.2.1 dL_law_690 (by decide) (fun _ => ?_) (fun hne => absurd q1.symm hne)
  exact kk _ _ (IVk hP2 hD2 hS2 q2 q3 rfl rfl rfl rfl ((fa.ok ok.1 ok.2)) fk)
set_option maxHeartbeats 4000000 in
set_option maxRecDepth 100000 in
theorem cs_steal (C0 : LX pg m cd s args dC dI ct K A b0 L xs) (hl : lv_has ls 4 [(0, .ref b0), (1, .ref x), (2, .ref (a 0)), (3, .int (nI i))]) (hi : i + 5 < L) (hcs : cells ≤ room_1.cells ∧ slots ≤ room_1.slots) (iv : IV dC dI ct K A s.heap x st kt sc ty sh fo bk ek sp es b e tr rw ew q a H locs) (kk : ∀ (H1 : Heap) (locs1 : List Loc), IV dC dI ct K A s.heap x st kt sc ty sh fo bk ek sp es b e tr rw ew q a H1 locs1 → W pg l en room_1 s m args below meth cd H1 locs1 cells slots Q (F0 m 1607 ls [])) : W pg l en room_1 s m args below meth cd H locs cells slots Q (F0 m 695 ls []) := by
  obtain ⟨F, hK, hA, hX, hbl, hbA, hz, hE, hL⟩ := C0
  obtain ⟨ik, zz, z2, s0, s1, s2, s3, s4, nx, sx, f, p, w, y, wd, sz, nm, c, g, h, so, v, k, d, it, mv, mx, my, fa, fk, hP, hD, hS⟩ := iv
  obtain ⟨hzz, hso, hnx, hsx, fq, hZ, hc, ⟨n, hn, hs0, h8, hby⟩, hik⟩ := id fa
  refine lv_aload_n F.1 F.2.1 dL_law_695 rfl (lv_at hl 1 rfl) ?_
  refine sL (q := 1) F.1 F.2.1 hX hbl hbA hS hl (by omega) hL (by decide) dL_law_696 dL_law_697 dL_law_698 dL_law_699 dL_law_700 ?_
  refine lcX5_steal _ _ _ _ _ _ _ _ _ _ _ _ _ _ (xs (i + 1)) fq.1 F gL_law_X5_steal hK hP hD hS hA ⟨Nat.le_of_ble_eq_true rfl, Nat.le_of_ble_eq_true rfl⟩ hl.1 (Nat.le_of_ble_eq_true rfl) hcs dL_law_701 (fun r1 u1 H1 locs1 e1 hP1 hD1 hS1 => ?_)
  refine lv_aload_n F.1 F.2.1 dL_law_704 rfl (lv_at hl 2 rfl) ?_
  refine sL (q := 1) F.1 F.2.1 hX hbl hbA hS1 hl (by omega) hL (by decide) dL_law_705 dL_law_706 dL_law_707 dL_law_708 dL_law_709 ?_
  refine lcX6_steal _ _ _ _ (xs (i + 1)) F gL_law_X6_steal hK hP1 hD1 hS1 hA ⟨Nat.le_of_ble_eq_true rfl, Nat.le_of_ble_eq_true rfl⟩ hl.1 (Nat.le_of_ble_eq_true rfl) hcs dL_law_710 (fun r2 u2 H2 locs2 e2 hP2 hD2 hS2 => ?_)
  have e3 : (r1, u1.1, u1.2) = sSteal f c (xs (i + 1)) := e1
  have e4 : (r2, u2.1, u2.2) = sSteal f c (xs (i + 1)) := e2
  obtain ⟨q1, q2⟩ := Prod.mk.inj (e4.trans e3.symm)
  obtain ⟨q2, q3⟩ := Prod.mk.inj q2
  have ok := ok_steal fq.1 c (xs (i + 1))
  rw [← e3] at ok
  refine lv_icmp_eq (tgt := 1607) F.1 F.2.1 dL_law_713 (by decide) (fun _ => ?_) (fun hne => absurd q1.symm hne)
  exact kk _ _ (IVk hP2 hD2 hS2 q2 q3 rfl rfl rfl rfl ((fa.ok ok.1 ok.2)) fk)
set_option maxHeartbeats 4000000 in
set_option maxRecDepth 100000 in
theorem cs_gift (C0 : LX pg m cd s args dC dI ct K A b0 L xs) (hl : lv_has ls 4 [(0, .ref b0), (1, .ref x), (2, .ref (a 0)), (3, .int (nI i))]) (hi : i + 5 < L) (hcs : cells ≤ room_1.cells ∧ slots ≤ room_1.slots) (iv : IV dC dI ct K A s.heap x st kt sc ty sh fo bk ek sp es b e tr rw ew q a H locs) (kk : ∀ (H1 : Heap) (locs1 : List Loc), IV dC dI ct K A s.heap x st kt sc ty sh fo bk ek sp es b e tr rw ew q a H1 locs1 → W pg l en room_1 s m args below meth cd H1 locs1 cells slots Q (F0 m 1607 ls [])) : W pg l en room_1 s m args below meth cd H locs cells slots Q (F0 m 718 ls []) := by
  obtain ⟨F, hK, hA, hX, hbl, hbA, hz, hE, hL⟩ := C0
  obtain ⟨ik, zz, z2, s0, s1, s2, s3, s4, nx, sx, f, p, w, y, wd, sz, nm, c, g, h, so, v, k, d, it, mv, mx, my, fa, fk, hP, hD, hS⟩ := iv
  obtain ⟨hzz, hso, hnx, hsx, fq, hZ, hc, ⟨n, hn, hs0, h8, hby⟩, hik⟩ := id fa
  refine lv_aload_n F.1 F.2.1 dL_law_718 rfl (lv_at hl 1 rfl) ?_
  refine sL (q := 1) F.1 F.2.1 hX hbl hbA hS hl (by omega) hL (by decide) dL_law_719 dL_law_720 dL_law_721 dL_law_722 dL_law_723 ?_
  refine sL (q := 2) F.1 F.2.1 hX hbl hbA hS hl (by omega) hL (by decide) dL_law_724 dL_law_725 dL_law_726 dL_law_727 dL_law_728 ?_
  refine sL (q := 3) F.1 F.2.1 hX hbl hbA hS hl (by omega) hL (by decide) dL_law_729 dL_law_730 dL_law_731 dL_law_732 dL_law_733 ?_
  refine lcX5_gift _ _ _ _ _ _ _ _ _ _ _ _ _ _ (xs (i + 1)) (xs (i + 2)) (xs (i + 3)) F gL_law_X5_gift hK hP hD hS hA ⟨Nat.le_of_ble_eq_true rfl, Nat.le_of_ble_eq_true rfl⟩ hl.1 (Nat.le_of_ble_eq_true rfl) hcs dL_law_734 (fun r1 u1 H1 locs1 e1 hP1 hD1 hS1 => ?_)
  refine lv_aload_n F.1 F.2.1 dL_law_737 rfl (lv_at hl 2 rfl) ?_
  refine sL (q := 1) F.1 F.2.1 hX hbl hbA hS1 hl (by omega) hL (by decide) dL_law_738 dL_law_739 dL_law_740 dL_law_741 dL_law_742 ?_
  refine sL (q := 2) F.1 F.2.1 hX hbl hbA hS1 hl (by omega) hL (by decide) dL_law_743 dL_law_744 dL_law_745 dL_law_746 dL_law_747 ?_
  refine sL (q := 3) F.1 F.2.1 hX hbl hbA hS1 hl (by omega) hL (by decide) dL_law_748 dL_law_749 dL_law_750 dL_law_751 dL_law_752 ?_
  refine lcX6_gift _ _ _ _ (xs (i + 1)) (xs (i + 2)) (xs (i + 3)) F gL_law_X6_gift hK hP1 hD1 hS1 hA ⟨Nat.le_of_ble_eq_true rfl, Nat.le_of_ble_eq_true rfl⟩ hl.1 (Nat.le_of_ble_eq_true rfl) hcs dL_law_753 (fun r2 u2 H2 locs2 e2 hP2 hD2 hS2 => ?_)
  have e3 : (r1, u1.1, u1.2) = sGift f c (xs (i + 1)) (xs (i + 2)) (xs (i + 3)) := e1
  have e4 : (r2, u2.1, u2.2) = sGift f c (xs (i + 1)) (xs (i + 2)) (xs (i + 3)) := e2
  obtain ⟨q1, q2⟩ := Prod.mk.inj (e4.trans e3.symm)
  obtain ⟨q2, q3⟩ := Prod.mk.inj q2
  have ok := ok_gift fq.1 c (xs (i + 1)) (xs (i + 2)) (xs (i + 3))
  rw [← e3] at ok
  refine lv_icmp_eq (tgt := 1607) F.1 F.2.1 dL_law_756 (by decide) (fun _ => ?_) (fun hne => absurd q1.symm hne)
  exact kk _ _ (IVk hP2 hD2 hS2 q2 q3 rfl rfl rfl rfl ((fa.ok ok.1 ok.2)) fk)
set_option maxHeartbeats 4000000 in
set_option maxRecDepth 100000 in
theorem cs_nights (C0 : LX pg m cd s args dC dI ct K A b0 L xs) (hl : lv_has ls 4 [(0, .ref b0), (1, .ref x), (2, .ref (a 0)), (3, .int (nI i))]) (hi : i + 5 < L) (hcs : cells ≤ room_1.cells ∧ slots ≤ room_1.slots) (iv : IV dC dI ct K A s.heap x st kt sc ty sh fo bk ek sp es b e tr rw ew q a H locs) (kk : ∀ (H1 : Heap) (locs1 : List Loc), IV dC dI ct K A s.heap x st kt sc ty sh fo bk ek sp es b e tr rw ew q a H1 locs1 → W pg l en room_1 s m args below meth cd H1 locs1 cells slots Q (F0 m 1607 ls [])) : W pg l en room_1 s m args below meth cd H locs cells slots Q (F0 m 761 ls []) := by
  obtain ⟨F, hK, hA, hX, hbl, hbA, hz, hE, hL⟩ := C0
  obtain ⟨ik, zz, z2, s0, s1, s2, s3, s4, nx, sx, f, p, w, y, wd, sz, nm, c, g, h, so, v, k, d, it, mv, mx, my, fa, fk, hP, hD, hS⟩ := iv
  obtain ⟨hzz, hso, hnx, hsx, fq, hZ, hc, ⟨n, hn, hs0, h8, hby⟩, hik⟩ := id fa
  subst hzz
  subst hnx
  subst hsx
  refine lv_aload_n F.1 F.2.1 dL_law_761 rfl (lv_at hl 1 rfl) ?_
  refine sL (q := 1) F.1 F.2.1 hX hbl hbA hS hl (by omega) hL (by decide) dL_law_762 dL_law_763 dL_law_764 dL_law_765 dL_law_766 ?_
  refine lcX5_nights _ _ _ _ _ _ _ _ _ _ _ _ _ _ _ _ (xs (i + 1)) fq.1 fq.2.2.1 fq.2.1 F gL_law_X5_nights hK hP hD hS hA ⟨Nat.le_of_ble_eq_true rfl, Nat.le_of_ble_eq_true rfl⟩ hl.1 (Nat.le_of_ble_eq_true rfl) hcs dL_law_767 (fun r1 u1 H1 locs1 e1 hP1 hD1 hS1 => ?_)
  refine lv_aload_n F.1 F.2.1 dL_law_770 rfl (lv_at hl 2 rfl) ?_
  refine sL (q := 1) F.1 F.2.1 hX hbl hbA hS1 hl (by omega) hL (by decide) dL_law_771 dL_law_772 dL_law_773 dL_law_774 dL_law_775 ?_
  refine lcX6_nights _ _ _ _ (xs (i + 1)) fq.1 F gL_law_X6_nights hK hP1 hD1 hS1 hA ⟨Nat.le_of_ble_eq_true rfl, Nat.le_of_ble_eq_true rfl⟩ hl.1 (Nat.le_of_ble_eq_true rfl) hcs dL_law_776 (fun r2 u2 H2 locs2 e2 hP2 hD2 hS2 => ?_)
  obtain ⟨e3, hb1⟩ := e1
  have e3 : (r1, u1.1, u1.2.1) = sNights f c (xs (i + 1)) := e3
  have e4 : (r2, u2.1, u2.2) = sNights f c (xs (i + 1)) := e2
  obtain ⟨q1, q2⟩ := Prod.mk.inj (e4.trans e3.symm)
  obtain ⟨q2, q3⟩ := Prod.mk.inj q2
  have ok := nights_keep fq c (xs (i + 1))
  rw [← e3] at ok
  obtain ⟨k1, k2, k3, k4⟩ := ok
  have k3 : ∀ j, 4 ≤ j ∧ j < 15 → u1.1 j = f j := k3
  have fa2 := fa.ng k1 k2 hb1 (fun j hj => k3 j (by omega)) k4
  rw [k3 4 (by omega)] at fa2
  refine lv_icmp_eq (tgt := 1607) F.1 F.2.1 dL_law_779 (by decide) (fun _ => ?_) (fun hne => absurd q1.symm hne)
  exact kk _ _ (IVk hP2 hD2 hS2 q2 q3 rfl rfl rfl rfl fa2 fk)
set_option maxHeartbeats 4000000 in
set_option maxRecDepth 100000 in
theorem cs_now (C0 : LX pg m cd s args dC dI ct K A b0 L xs) (hl : lv_has ls 4 [(0, .ref b0), (1, .ref x), (2, .ref (a 0)), (3, .int (nI i))]) (hi : i + 5 < L) (hcs : cells ≤ room_1.cells ∧ slots ≤ room_1.slots) (iv : IV dC dI ct K A s.heap x st kt sc ty sh fo bk ek sp es b e tr rw ew q a H locs) (kk : ∀ (H1 : Heap) (locs1 : List Loc), IV dC dI ct K A s.heap x st kt sc ty sh fo bk ek sp es b e tr rw ew q a H1 locs1 → W pg l en room_1 s m args below meth cd H1 locs1 cells slots Q (F0 m 1607 ls [])) : W pg l en room_1 s m args below meth cd H locs cells slots Q (F0 m 784 ls []) := by
  obtain ⟨F, hK, hA, hX, hbl, hbA, hz, hE, hL⟩ := C0
  obtain ⟨ik, zz, z2, s0, s1, s2, s3, s4, nx, sx, f, p, w, y, wd, sz, nm, c, g, h, so, v, k, d, it, mv, mx, my, fa, fk, hP, hD, hS⟩ := iv
  obtain ⟨hzz, hso, hnx, hsx, fq, hZ, hc, ⟨n, hn, hs0, h8, hby⟩, hik⟩ := id fa
  subst hnx
  subst hsx
  refine lv_aload_n F.1 F.2.1 dL_law_784 rfl (lv_at hl 1 rfl) ?_
  refine sL (q := 1) F.1 F.2.1 hX hbl hbA hS hl (by omega) hL (by decide) dL_law_785 dL_law_786 dL_law_787 dL_law_788 dL_law_789 ?_
  refine lcX5_now _ _ _ _ _ _ _ _ _ _ _ _ _ _ _ _ (xs (i + 1)) fq.1 F gL_law_X5_now hK hP hD hS hA ⟨Nat.le_of_ble_eq_true rfl, Nat.le_of_ble_eq_true rfl⟩ hl.1 (Nat.le_of_ble_eq_true rfl) hcs dL_law_790 (fun r1 u1 H1 locs1 e1 hP1 hD1 hS1 => ?_)
  refine lv_aload_n F.1 F.2.1 dL_law_793 rfl (lv_at hl 2 rfl) ?_
  refine sL (q := 1) F.1 F.2.1 hX hbl hbA hS1 hl (by omega) hL (by decide) dL_law_794 dL_law_795 dL_law_796 dL_law_797 dL_law_798 ?_
  refine lcX6_now _ _ _ _ (xs (i + 1)) F gL_law_X6_now hK hP1 hD1 hS1 hA ⟨Nat.le_of_ble_eq_true rfl, Nat.le_of_ble_eq_true rfl⟩ hl.1 (Nat.le_of_ble_eq_true rfl) hcs dL_law_799 (fun r2 u2 H2 locs2 e2 hP2 hD2 hS2 => ?_)
  have e3 : (r1, u1.1, u1.2) = sNow f c (xs (i + 1)) := e1
  have e4 : (r2, u2.1, u2.2) = sNow f c (xs (i + 1)) := e2
  obtain ⟨q1, q2⟩ := Prod.mk.inj (e4.trans e3.symm)
  obtain ⟨q2, q3⟩ := Prod.mk.inj q2
  have ok := ok_now fq.1 c (xs (i + 1))
  rw [← e3] at ok
  refine lv_icmp_eq (tgt := 1607) F.1 F.2.1 dL_law_802 (by decide) (fun _ => ?_) (fun hne => absurd q1.symm hne)
  exact kk _ _ (IVk hP2 hD2 hS2 q2 q3 rfl rfl rfl rfl ((fa.ok ok.1 ok.2)) fk)
set_option maxHeartbeats 4000000 in
set_option maxRecDepth 100000 in
theorem cs_ahead (C0 : LX pg m cd s args dC dI ct K A b0 L xs) (hl : lv_has ls 4 [(0, .ref b0), (1, .ref x), (2, .ref (a 0)), (3, .int (nI i))]) (hi : i + 5 < L) (hcs : cells ≤ room_1.cells ∧ slots ≤ room_1.slots) (iv : IV dC dI ct K A s.heap x st kt sc ty sh fo bk ek sp es b e tr rw ew q a H locs) (kk : ∀ (H1 : Heap) (locs1 : List Loc), IV dC dI ct K A s.heap x st kt sc ty sh fo bk ek sp es b e tr rw ew q a H1 locs1 → W pg l en room_1 s m args below meth cd H1 locs1 cells slots Q (F0 m 1607 ls [])) : W pg l en room_1 s m args below meth cd H locs cells slots Q (F0 m 807 ls []) := by
  obtain ⟨F, hK, hA, hX, hbl, hbA, hz, hE, hL⟩ := C0
  obtain ⟨ik, zz, z2, s0, s1, s2, s3, s4, nx, sx, f, p, w, y, wd, sz, nm, c, g, h, so, v, k, d, it, mv, mx, my, fa, fk, hP, hD, hS⟩ := iv
  obtain ⟨hzz, hso, hnx, hsx, fq, hZ, hc, ⟨n, hn, hs0, h8, hby⟩, hik⟩ := id fa
  refine lv_aload_n F.1 F.2.1 dL_law_807 rfl (lv_at hl 1 rfl) ?_
  refine sL (q := 1) F.1 F.2.1 hX hbl hbA hS hl (by omega) hL (by decide) dL_law_808 dL_law_809 dL_law_810 dL_law_811 dL_law_812 ?_
  refine sL (q := 2) F.1 F.2.1 hX hbl hbA hS hl (by omega) hL (by decide) dL_law_813 dL_law_814 dL_law_815 dL_law_816 dL_law_817 ?_
  refine lcX5_ahead _ _ _ _ _ _ _ _ _ _ _ _ _ _ _ (xs (i + 1)) (xs (i + 2)) fq.1 F gL_law_X5_ahead hK hP hD hS hA ⟨Nat.le_of_ble_eq_true rfl, Nat.le_of_ble_eq_true rfl⟩ hl.1 (Nat.le_of_ble_eq_true rfl) hcs dL_law_818 (fun r1 u1 H1 locs1 e1 hP1 hD1 hS1 => ?_)
  refine lv_aload_n F.1 F.2.1 dL_law_821 rfl (lv_at hl 2 rfl) ?_
  refine sL (q := 1) F.1 F.2.1 hX hbl hbA hS1 hl (by omega) hL (by decide) dL_law_822 dL_law_823 dL_law_824 dL_law_825 dL_law_826 ?_
  refine sL (q := 2) F.1 F.2.1 hX hbl hbA hS1 hl (by omega) hL (by decide) dL_law_827 dL_law_828 dL_law_829 dL_law_830 dL_law_831 ?_
  refine lcX6_ahead _ _ _ _ _ (xs (i + 1)) (xs (i + 2)) fq.1 F gL_law_X6_ahead hK hP1 hD1 hS1 hA ⟨Nat.le_of_ble_eq_true rfl, Nat.le_of_ble_eq_true rfl⟩ hl.1 (Nat.le_of_ble_eq_true rfl) hcs dL_law_832 (fun r2 u2 H2 locs2 e2 hP2 hD2 hS2 => ?_)
  have e3 : (r1, u1.1, u1.2.1) = sAhead f c (xs (i + 1)) (xs (i + 2)) := e1
  have e4 : (r2, u2.1, u2.2.1) = sAhead f c (xs (i + 1)) (xs (i + 2)) := e2
  obtain ⟨q1, q2⟩ := Prod.mk.inj (e4.trans e3.symm)
  obtain ⟨q2, q3⟩ := Prod.mk.inj q2
  have ok := ok_ahead fq.1 c (xs (i + 1)) (xs (i + 2))
  rw [← e3] at ok
  refine lv_icmp_eq (tgt := 1607) F.1 F.2.1 dL_law_835 (by decide) (fun _ => ?_) (fun hne => absurd q1.symm hne)
  exact kk _ _ (IVk hP2 hD2 hS2 q2 q3 rfl rfl rfl rfl ((fa.ok ok.1 ok.2)) fk)
set_option maxHeartbeats 4000000 in
set_option maxRecDepth 100000 in
theorem cs_struck (C0 : LX pg m cd s args dC dI ct K A b0 L xs) (hl : lv_has ls 4 [(0, .ref b0), (1, .ref x), (2, .ref (a 0)), (3, .int (nI i))]) (hi : i + 5 < L) (hcs : cells ≤ room_1.cells ∧ slots ≤ room_1.slots) (iv : IV dC dI ct K A s.heap x st kt sc ty sh fo bk ek sp es b e tr rw ew q a H locs) (kk : ∀ (H1 : Heap) (locs1 : List Loc), IV dC dI ct K A s.heap x st kt sc ty sh fo bk ek sp es b e tr rw ew q a H1 locs1 → W pg l en room_1 s m args below meth cd H1 locs1 cells slots Q (F0 m 1607 ls [])) : W pg l en room_1 s m args below meth cd H locs cells slots Q (F0 m 840 ls []) := by
  obtain ⟨F, hK, hA, hX, hbl, hbA, hz, hE, hL⟩ := C0
  obtain ⟨ik, zz, z2, s0, s1, s2, s3, s4, nx, sx, f, p, w, y, wd, sz, nm, c, g, h, so, v, k, d, it, mv, mx, my, fa, fk, hP, hD, hS⟩ := iv
  obtain ⟨hzz, hso, hnx, hsx, fq, hZ, hc, ⟨n, hn, hs0, h8, hby⟩, hik⟩ := id fa
  refine lv_aload_n F.1 F.2.1 dL_law_840 rfl (lv_at hl 1 rfl) ?_
  refine lcX5_struck _ _ _ _ _ _ _ _ _ _ _ _ _ _ _ fq.1 F gL_law_X5_struck hK hP hD hS hA ⟨Nat.le_of_ble_eq_true rfl, Nat.le_of_ble_eq_true rfl⟩ hl.1 (Nat.le_of_ble_eq_true rfl) hcs dL_law_841 (fun r1 u1 H1 locs1 e1 hP1 hD1 hS1 => ?_)
  refine lv_aload_n F.1 F.2.1 dL_law_844 rfl (lv_at hl 2 rfl) ?_
  refine lcX6_struck _ _ _ _ _ fq.1 F gL_law_X6_struck hK hP1 hD1 hS1 hA ⟨Nat.le_of_ble_eq_true rfl, Nat.le_of_ble_eq_true rfl⟩ hl.1 (Nat.le_of_ble_eq_true rfl) hcs dL_law_845 (fun r2 u2 H2 locs2 e2 hP2 hD2 hS2 => ?_)
  have e3 : (r1, u1.1, u1.2.1) = sStruck f c  := e1
  have e4 : (r2, u2.1, u2.2.1) = sStruck f c  := e2
  obtain ⟨q1, q2⟩ := Prod.mk.inj (e4.trans e3.symm)
  obtain ⟨q2, q3⟩ := Prod.mk.inj q2
  have ok := ok_struck fq.1 c 
  rw [← e3] at ok
  refine lv_icmp_eq (tgt := 1607) F.1 F.2.1 dL_law_848 (by decide) (fun _ => ?_) (fun hne => absurd q1.symm hne)
  exact kk _ _ (IVk hP2 hD2 hS2 q2 q3 rfl rfl rfl rfl ((fa.ok ok.1 ok.2)) fk)
set_option maxHeartbeats 4000000 in
set_option maxRecDepth 100000 in
theorem cs_empty (C0 : LX pg m cd s args dC dI ct K A b0 L xs) (hl : lv_has ls 4 [(0, .ref b0), (1, .ref x), (2, .ref (a 0)), (3, .int (nI i))]) (hi : i + 5 < L) (hcs : cells ≤ room_1.cells ∧ slots ≤ room_1.slots) (iv : IV dC dI ct K A s.heap x st kt sc ty sh fo bk ek sp es b e tr rw ew q a H locs) (kk : ∀ (H1 : Heap) (locs1 : List Loc), IV dC dI ct K A s.heap x st kt sc ty sh fo bk ek sp es b e tr rw ew q a H1 locs1 → W pg l en room_1 s m args below meth cd H1 locs1 cells slots Q (F0 m 1607 ls [])) : W pg l en room_1 s m args below meth cd H locs cells slots Q (F0 m 853 ls []) := by
  obtain ⟨F, hK, hA, hX, hbl, hbA, hz, hE, hL⟩ := C0
  obtain ⟨ik, zz, z2, s0, s1, s2, s3, s4, nx, sx, f, p, w, y, wd, sz, nm, c, g, h, so, v, k, d, it, mv, mx, my, fa, fk, hP, hD, hS⟩ := iv
  obtain ⟨hzz, hso, hnx, hsx, fq, hZ, hc, ⟨n, hn, hs0, h8, hby⟩, hik⟩ := id fa
  refine lv_aload_n F.1 F.2.1 dL_law_853 rfl (lv_at hl 1 rfl) ?_
  refine lcX5_empty _ _ _ _ _ _ _ _ _ _ _ _ _ _ _ fq.1 F gL_law_X5_empty hK hP hD hS hA ⟨Nat.le_of_ble_eq_true rfl, Nat.le_of_ble_eq_true rfl⟩ hl.1 (Nat.le_of_ble_eq_true rfl) hcs dL_law_854 (fun r1 u1 H1 locs1 e1 hP1 hD1 hS1 => ?_)
  refine lv_aload_n F.1 F.2.1 dL_law_857 rfl (lv_at hl 2 rfl) ?_
  refine lcX6_empty _ _ _ _ _ fq.1 F gL_law_X6_empty hK hP1 hD1 hS1 hA ⟨Nat.le_of_ble_eq_true rfl, Nat.le_of_ble_eq_true rfl⟩ hl.1 (Nat.le_of_ble_eq_true rfl) hcs dL_law_858 (fun r2 u2 H2 locs2 e2 hP2 hD2 hS2 => ?_)
  have e3 : (r1, u1.1, u1.2.1) = sEmpty f c  := e1
  have e4 : (r2, u2.1, u2.2.1) = sEmpty f c  := e2
  obtain ⟨q1, q2⟩ := Prod.mk.inj (e4.trans e3.symm)
  obtain ⟨q2, q3⟩ := Prod.mk.inj q2
  have ok := ok_empty fq.1 c 
  rw [← e3] at ok
  refine lv_icmp_eq (tgt := 1607) F.1 F.2.1 dL_law_861 (by decide) (fun _ => ?_) (fun hne => absurd q1.symm hne)
  exact kk _ _ (IVk hP2 hD2 hS2 q2 q3 rfl rfl rfl rfl ((fa.ok ok.1 ok.2)) fk)
set_option maxHeartbeats 4000000 in
set_option maxRecDepth 100000 in
theorem cs_best (C0 : LX pg m cd s args dC dI ct K A b0 L xs) (hl : lv_has ls 4 [(0, .ref b0), (1, .ref x), (2, .ref (a 0)), (3, .int (nI i))]) (hi : i + 5 < L) (hcs : cells ≤ room_1.cells ∧ slots ≤ room_1.slots) (iv : IV dC dI ct K A s.heap x st kt sc ty sh fo bk ek sp es b e tr rw ew q a H locs) (kk : ∀ (H1 : Heap) (locs1 : List Loc), IV dC dI ct K A s.heap x st kt sc ty sh fo bk ek sp es b e tr rw ew q a H1 locs1 → W pg l en room_1 s m args below meth cd H1 locs1 cells slots Q (F0 m 1607 ls [])) : W pg l en room_1 s m args below meth cd H locs cells slots Q (F0 m 866 ls []) := by
  obtain ⟨F, hK, hA, hX, hbl, hbA, hz, hE, hL⟩ := C0
  obtain ⟨ik, zz, z2, s0, s1, s2, s3, s4, nx, sx, f, p, w, y, wd, sz, nm, c, g, h, so, v, k, d, it, mv, mx, my, fa, fk, hP, hD, hS⟩ := iv
  obtain ⟨hzz, hso, hnx, hsx, fq, hZ, hc, ⟨n, hn, hs0, h8, hby⟩, hik⟩ := id fa
  refine lv_aload_n F.1 F.2.1 dL_law_866 rfl (lv_at hl 1 rfl) ?_
  refine sL (q := 1) F.1 F.2.1 hX hbl hbA hS hl (by omega) hL (by decide) dL_law_867 dL_law_868 dL_law_869 dL_law_870 dL_law_871 ?_
  refine sL (q := 2) F.1 F.2.1 hX hbl hbA hS hl (by omega) hL (by decide) dL_law_872 dL_law_873 dL_law_874 dL_law_875 dL_law_876 ?_
  refine lcX5_best _ _ _ _ _ _ _ _ _ _ _ _ _ _ _ (xs (i + 1)) (xs (i + 2)) fq.1 F gL_law_X5_best hK hP hD hS hA ⟨Nat.le_of_ble_eq_true rfl, Nat.le_of_ble_eq_true rfl⟩ hl.1 (Nat.le_of_ble_eq_true rfl) hcs dL_law_877 (fun r1 u1 H1 locs1 e1 hP1 hD1 hS1 => ?_)
  refine lv_aload_n F.1 F.2.1 dL_law_880 rfl (lv_at hl 2 rfl) ?_
  refine sL (q := 1) F.1 F.2.1 hX hbl hbA hS1 hl (by omega) hL (by decide) dL_law_881 dL_law_882 dL_law_883 dL_law_884 dL_law_885 ?_
  refine sL (q := 2) F.1 F.2.1 hX hbl hbA hS1 hl (by omega) hL (by decide) dL_law_886 dL_law_887 dL_law_888 dL_law_889 dL_law_890 ?_
  refine lcX6_best _ _ _ _ _ (xs (i + 1)) (xs (i + 2)) fq.1 F gL_law_X6_best hK hP1 hD1 hS1 hA ⟨Nat.le_of_ble_eq_true rfl, Nat.le_of_ble_eq_true rfl⟩ hl.1 (Nat.le_of_ble_eq_true rfl) hcs dL_law_891 (fun r2 u2 H2 locs2 e2 hP2 hD2 hS2 => ?_)
  have e3 : (r1, u1.1, u1.2.1) = sBest f c (xs (i + 1)) (xs (i + 2)) false := e1
  have e4 : (r2, u2.1, u2.2.1) = sBest f c (xs (i + 1)) (xs (i + 2)) false := e2.1
  obtain ⟨q1, q2⟩ := Prod.mk.inj (e4.trans e3.symm)
  obtain ⟨q2, q3⟩ := Prod.mk.inj q2
  have ok := ok_best fq.1 c (xs (i + 1)) (xs (i + 2)) false
  rw [← e3] at ok
  refine lv_icmp_eq (tgt := 1607) F.1 F.2.1 dL_law_894 (by decide) (fun _ => ?_) (fun hne => absurd q1.symm hne)
  exact kk _ _ (IVk hP2 hD2 hS2 q2 q3 rfl rfl rfl rfl (((fa.ok ok.1 ok.2)).v e2.2.1 e2.2.2) fk)
set_option maxHeartbeats 4000000 in
set_option maxRecDepth 100000 in
theorem cs_gain (C0 : LX pg m cd s args dC dI ct K A b0 L xs) (hl : lv_has ls 4 [(0, .ref b0), (1, .ref x), (2, .ref (a 0)), (3, .int (nI i))]) (hi : i + 5 < L) (hcs : cells ≤ room_1.cells ∧ slots ≤ room_1.slots) (iv : IV dC dI ct K A s.heap x st kt sc ty sh fo bk ek sp es b e tr rw ew q a H locs) (kk : ∀ (H1 : Heap) (locs1 : List Loc), IV dC dI ct K A s.heap x st kt sc ty sh fo bk ek sp es b e tr rw ew q a H1 locs1 → W pg l en room_1 s m args below meth cd H1 locs1 cells slots Q (F0 m 1607 ls [])) : W pg l en room_1 s m args below meth cd H locs cells slots Q (F0 m 899 ls []) := by
  obtain ⟨F, hK, hA, hX, hbl, hbA, hz, hE, hL⟩ := C0
  obtain ⟨ik, zz, z2, s0, s1, s2, s3, s4, nx, sx, f, p, w, y, wd, sz, nm, c, g, h, so, v, k, d, it, mv, mx, my, fa, fk, hP, hD, hS⟩ := iv
  obtain ⟨hzz, hso, hnx, hsx, fq, hZ, hc, ⟨n, hn, hs0, h8, hby⟩, hik⟩ := id fa
  refine lv_aload_n F.1 F.2.1 dL_law_899 rfl (lv_at hl 1 rfl) ?_
  refine sL (q := 1) F.1 F.2.1 hX hbl hbA hS hl (by omega) hL (by decide) dL_law_900 dL_law_901 dL_law_902 dL_law_903 dL_law_904 ?_
  refine sL (q := 2) F.1 F.2.1 hX hbl hbA hS hl (by omega) hL (by decide) dL_law_905 dL_law_906 dL_law_907 dL_law_908 dL_law_909 ?_
  refine lcX5_gain _ _ _ _ _ _ _ _ _ _ _ _ _ _ _ (xs (i + 1)) (xs (i + 2)) fq.1 F gL_law_X5_gain hK hP hD hS hA ⟨Nat.le_of_ble_eq_true rfl, Nat.le_of_ble_eq_true rfl⟩ hl.1 (Nat.le_of_ble_eq_true rfl) hcs dL_law_910 (fun r1 u1 H1 locs1 e1 hP1 hD1 hS1 => ?_)
  refine lv_aload_n F.1 F.2.1 dL_law_913 rfl (lv_at hl 2 rfl) ?_
  refine sL (q := 1) F.1 F.2.1 hX hbl hbA hS1 hl (by omega) hL (by decide) dL_law_914 dL_law_915 dL_law_916 dL_law_917 dL_law_918 ?_
  refine sL (q := 2) F.1 F.2.1 hX hbl hbA hS1 hl (by omega) hL (by decide) dL_law_919 dL_law_920 dL_law_921 dL_law_922 dL_law_923 ?_
  refine lcX6_gain _ _ _ _ _ (xs (i + 1)) (xs (i + 2)) fq.1 F gL_law_X6_gain hK hP1 hD1 hS1 hA ⟨Nat.le_of_ble_eq_true rfl, Nat.le_of_ble_eq_true rfl⟩ hl.1 (Nat.le_of_ble_eq_true rfl) hcs dL_law_924 (fun r2 u2 H2 locs2 e2 hP2 hD2 hS2 => ?_)
  have e3 : (r1, u1.1, u1.2.1) = sBest f c (xs (i + 1)) (xs (i + 2)) true := e1
  have e4 : (r2, u2.1, u2.2.1) = sBest f c (xs (i + 1)) (xs (i + 2)) true := e2.1
  obtain ⟨q1, q2⟩ := Prod.mk.inj (e4.trans e3.symm)
  obtain ⟨q2, q3⟩ := Prod.mk.inj q2
  have ok := ok_best fq.1 c (xs (i + 1)) (xs (i + 2)) true
  rw [← e3] at ok
  refine lv_icmp_eq (tgt := 1607) F.1 F.2.1 dL_law_927 (by decide) (fun _ => ?_) (fun hne => absurd q1.symm hne)
  exact kk _ _ (IVk hP2 hD2 hS2 q2 q3 rfl rfl rfl rfl (((fa.ok ok.1 ok.2)).v e2.2.1 e2.2.2) fk)
set_option maxHeartbeats 4000000 in
set_option maxRecDepth 100000 in
theorem cs_greed (C0 : LX pg m cd s args dC dI ct K A b0 L xs) (hl : lv_has ls 4 [(0, .ref b0), (1, .ref x), (2, .ref (a 0)), (3, .int (nI i))]) (hi : i + 5 < L) (hcs : cells ≤ room_1.cells ∧ slots ≤ room_1.slots) (iv : IV dC dI ct K A s.heap x st kt sc ty sh fo bk ek sp es b e tr rw ew q a H locs) (kk : ∀ (H1 : Heap) (locs1 : List Loc), IV dC dI ct K A s.heap x st kt sc ty sh fo bk ek sp es b e tr rw ew q a H1 locs1 → W pg l en room_1 s m args below meth cd H1 locs1 cells slots Q (F0 m 1607 ls [])) : W pg l en room_1 s m args below meth cd H locs cells slots Q (F0 m 932 ls []) := by
  obtain ⟨F, hK, hA, hX, hbl, hbA, hz, hE, hL⟩ := C0
  obtain ⟨ik, zz, z2, s0, s1, s2, s3, s4, nx, sx, f, p, w, y, wd, sz, nm, c, g, h, so, v, k, d, it, mv, mx, my, fa, fk, hP, hD, hS⟩ := iv
  obtain ⟨hzz, hso, hnx, hsx, fq, hZ, hc, ⟨n, hn, hs0, h8, hby⟩, hik⟩ := id fa
  refine lv_aload_n F.1 F.2.1 dL_law_932 rfl (lv_at hl 1 rfl) ?_
  refine sL (q := 1) F.1 F.2.1 hX hbl hbA hS hl (by omega) hL (by decide) dL_law_933 dL_law_934 dL_law_935 dL_law_936 dL_law_937 ?_
  refine sL (q := 2) F.1 F.2.1 hX hbl hbA hS hl (by omega) hL (by decide) dL_law_938 dL_law_939 dL_law_940 dL_law_941 dL_law_942 ?_
  refine lcX5_greed _ _ _ _ _ _ _ _ _ _ _ _ _ _ _ (xs (i + 1)) (xs (i + 2)) fq.1 F gL_law_X5_greed hK hP hD hS hA ⟨Nat.le_of_ble_eq_true rfl, Nat.le_of_ble_eq_true rfl⟩ hl.1 (Nat.le_of_ble_eq_true rfl) hcs dL_law_943 (fun r1 u1 H1 locs1 e1 hP1 hD1 hS1 => ?_)
  refine lv_aload_n F.1 F.2.1 dL_law_946 rfl (lv_at hl 2 rfl) ?_
  refine sL (q := 1) F.1 F.2.1 hX hbl hbA hS1 hl (by omega) hL (by decide) dL_law_947 dL_law_948 dL_law_949 dL_law_950 dL_law_951 ?_
  refine sL (q := 2) F.1 F.2.1 hX hbl hbA hS1 hl (by omega) hL (by decide) dL_law_952 dL_law_953 dL_law_954 dL_law_955 dL_law_956 ?_
  refine lcX6_greed _ _ _ _ _ (xs (i + 1)) (xs (i + 2)) fq.1 F gL_law_X6_greed hK hP1 hD1 hS1 hA ⟨Nat.le_of_ble_eq_true rfl, Nat.le_of_ble_eq_true rfl⟩ hl.1 (Nat.le_of_ble_eq_true rfl) hcs dL_law_957 (fun r2 u2 H2 locs2 e2 hP2 hD2 hS2 => ?_)
  have e3 : (r1, u1.1, u1.2.1) = sGreed f c (xs (i + 1)) (xs (i + 2)) := e1
  have e4 : (r2, u2.1, u2.2.1) = sGreed f c (xs (i + 1)) (xs (i + 2)) := e2
  obtain ⟨q1, q2⟩ := Prod.mk.inj (e4.trans e3.symm)
  obtain ⟨q2, q3⟩ := Prod.mk.inj q2
  have ok := ok_greed fq.1 c (xs (i + 1)) (xs (i + 2))
  rw [← e3] at ok
  refine lv_icmp_eq (tgt := 1607) F.1 F.2.1 dL_law_960 (by decide) (fun _ => ?_) (fun hne => absurd q1.symm hne)
  exact kk _ _ (IVk hP2 hD2 hS2 q2 q3 rfl rfl rfl rfl ((fa.ok ok.1 ok.2)) fk)
set_option maxHeartbeats 4000000 in
set_option maxRecDepth 100000 in
theorem cs_kindFor (C0 : LX pg m cd s args dC dI ct K A b0 L xs) (hl : lv_has ls 4 [(0, .ref b0), (1, .ref x), (2, .ref (a 0)), (3, .int (nI i))]) (hi : i + 5 < L) (hcs : cells ≤ room_1.cells ∧ slots ≤ room_1.slots) (iv : IV dC dI ct K A s.heap x st kt sc ty sh fo bk ek sp es b e tr rw ew q a H locs) (kk : ∀ (H1 : Heap) (locs1 : List Loc), IV dC dI ct K A s.heap x st kt sc ty sh fo bk ek sp es b e tr rw ew q a H1 locs1 → W pg l en room_1 s m args below meth cd H1 locs1 cells slots Q (F0 m 1607 ls [])) : W pg l en room_1 s m args below meth cd H locs cells slots Q (F0 m 965 ls []) := by
  obtain ⟨F, hK, hA, hX, hbl, hbA, hz, hE, hL⟩ := C0
  obtain ⟨ik, zz, z2, s0, s1, s2, s3, s4, nx, sx, f, p, w, y, wd, sz, nm, c, g, h, so, v, k, d, it, mv, mx, my, fa, fk, hP, hD, hS⟩ := iv
  obtain ⟨hzz, hso, hnx, hsx, fq, hZ, hc, ⟨n, hn, hs0, h8, hby⟩, hik⟩ := id fa
  refine lv_aload_n F.1 F.2.1 dL_law_965 rfl (lv_at hl 1 rfl) ?_
  refine sL (q := 1) F.1 F.2.1 hX hbl hbA hS hl (by omega) hL (by decide) dL_law_966 dL_law_967 dL_law_968 dL_law_969 dL_law_970 ?_
  refine sL (q := 2) F.1 F.2.1 hX hbl hbA hS hl (by omega) hL (by decide) dL_law_971 dL_law_972 dL_law_973 dL_law_974 dL_law_975 ?_
  refine lcX5_kindFor _ _ _ _ _ _ _ _ _ _ _ _ _ _ _ (xs (i + 1)) (xs (i + 2)) fq.1 F gL_law_X5_kindFor hK hP hD hS hA ⟨Nat.le_of_ble_eq_true rfl, Nat.le_of_ble_eq_true rfl⟩ hl.1 (Nat.le_of_ble_eq_true rfl) hcs dL_law_976 (fun r1 u1 H1 locs1 e1 hP1 hD1 hS1 => ?_)
  refine lv_aload_n F.1 F.2.1 dL_law_979 rfl (lv_at hl 2 rfl) ?_
  refine sL (q := 1) F.1 F.2.1 hX hbl hbA hS1 hl (by omega) hL (by decide) dL_law_980 dL_law_981 dL_law_982 dL_law_983 dL_law_984 ?_
  refine sL (q := 2) F.1 F.2.1 hX hbl hbA hS1 hl (by omega) hL (by decide) dL_law_985 dL_law_986 dL_law_987 dL_law_988 dL_law_989 ?_
  refine lcX6_kindFor _ _ _ _ _ (xs (i + 1)) (xs (i + 2)) fq.1 F gL_law_X6_kindFor hK hP1 hD1 hS1 hA ⟨Nat.le_of_ble_eq_true rfl, Nat.le_of_ble_eq_true rfl⟩ hl.1 (Nat.le_of_ble_eq_true rfl) hcs dL_law_990 (fun r2 u2 H2 locs2 e2 hP2 hD2 hS2 => ?_)
  have e3 : (r1, u1.1, u1.2.1) = sKindFor f c (xs (i + 1)) (xs (i + 2)) := e1
  have e4 : (r2, u2.1, u2.2.1) = sKindFor f c (xs (i + 1)) (xs (i + 2)) := e2
  obtain ⟨q1, q2⟩ := Prod.mk.inj (e4.trans e3.symm)
  obtain ⟨q2, q3⟩ := Prod.mk.inj q2
  have ok := ok_kindFor fq.1 c (xs (i + 1)) (xs (i + 2))
  rw [← e3] at ok
  refine lv_icmp_eq (tgt := 1607) F.1 F.2.1 dL_law_993 (by decide) (fun _ => ?_) (fun hne => absurd q1.symm hne)
  exact kk _ _ (IVk hP2 hD2 hS2 q2 q3 rfl rfl rfl rfl ((fa.ok ok.1 ok.2)) fk)
end LAW4
