set_option maxHeartbeats 4000000 in
set_option maxRecDepth 100000 in
theorem case_feed {p : Program} {l : Launch} {e : Env} {s : State} {m : MethodId} {below : List Frame} {meth : Method} {c : Code} {H : Heap} {locs : List Loc} {Q : State → Prop} {ls : Array Slot} {A : Nat → Prop} {g g2 : Gw} {w w2 : Wd} {b : Nat} {xs : Nat → Int32} (hLC : LC p s m c b xs A g g2) (hP : va_P g.1 vwCl (wsW tabX g w ++ wsW tabM g2 w2) H) (hD : va_D A (wsW tabX g w ++ wsW tabM g2 w2)) (hS : va_S A s.heap H locs) (hl : lv_has ls 4 (lvL b g g2)) (hpx : pX10_feed (fun r _ => pX11_feed (fun r2 _ => r2 = r) (xs 1) (xs 2) (xs 3) (xs 4) (xs 5) w2) (xs 1) (xs 2) (xs 3) (xs 4) (xs 5) w) (hend : ∀ (H : Heap) (locs : List Loc), va_S A s.heap H locs → W p l e room_1 s m #[.ref b] below meth c H locs 134 142488 Q (F0 m 2075 ls [])) : W p l e room_1 s m #[.ref b] below meth c H locs 134 142488 Q (F0 m 252 ls []) := by
  obtain ⟨hC, hC2, hgg, hXs, hbl, hbA, hA⟩ := hLC
  have hx := hC.1
  have hb := hC.2.1
  refine lv_aload_n hx hb dL_law_252 rfl (lv_at hl 1 rfl) ?_
  refine law_arg (k0 := 0) (k3 := 3) hx hb hXs hbl hbA hS hl rfl rfl (show 1 < 6 by decide) (by decide) dL_law_253 dL_law_254 dL_law_255 dL_law_256 dL_law_257 ?_
  refine law_arg (k0 := 0) (k3 := 3) hx hb hXs hbl hbA hS hl rfl rfl (show 2 < 6 by decide) (by decide) dL_law_258 dL_law_259 dL_law_260 dL_law_261 dL_law_262 ?_
  refine law_arg (k0 := 0) (k3 := 3) hx hb hXs hbl hbA hS hl rfl rfl (show 3 < 6 by decide) (by decide) dL_law_263 dL_law_264 dL_law_265 dL_law_266 dL_law_267 ?_
  refine law_arg (k0 := 0) (k3 := 3) hx hb hXs hbl hbA hS hl rfl rfl (show 4 < 6 by decide) (by decide) dL_law_268 dL_law_269 dL_law_270 dL_law_271 dL_law_272 ?_
  refine law_arg (k0 := 0) (k3 := 3) hx hb hXs hbl hbA hS hl rfl rfl (show 5 < 6 by decide) (by decide) dL_law_273 dL_law_274 dL_law_275 dL_law_276 dL_law_277 ?_
  refine law_cv (As := [.int (xs 1), .int (xs 2), .int (xs 3), .int (xs 4), .int (xs 5)]) (rest := []) hC hP hD hS hA hl.1 (rX10_feed hpx) cwL_13 yvX10_feed (va_recv (ci := 10) (q0 := 0) hC.2.2.2.2.2.1 (law_left hP) rfl (wk_at tb_0)) rfl rfl (Nat.le_of_ble_eq_true rfl) (rmL (by decide) (by decide)) dL_law_278 (fun r1 w1 H locs h1 hP hD hS => ?_)
  refine lv_aload_n hx hb dL_law_281 rfl (lv_at hl 2 rfl) ?_
  refine law_arg (k0 := 0) (k3 := 3) hx hb hXs hbl hbA hS hl rfl rfl (show 1 < 6 by decide) (by decide) dL_law_282 dL_law_283 dL_law_284 dL_law_285 dL_law_286 ?_
  refine law_arg (k0 := 0) (k3 := 3) hx hb hXs hbl hbA hS hl rfl rfl (show 2 < 6 by decide) (by decide) dL_law_287 dL_law_288 dL_law_289 dL_law_290 dL_law_291 ?_
  refine law_arg (k0 := 0) (k3 := 3) hx hb hXs hbl hbA hS hl rfl rfl (show 3 < 6 by decide) (by decide) dL_law_292 dL_law_293 dL_law_294 dL_law_295 dL_law_296 ?_
  refine law_arg (k0 := 0) (k3 := 3) hx hb hXs hbl hbA hS hl rfl rfl (show 4 < 6 by decide) (by decide) dL_law_297 dL_law_298 dL_law_299 dL_law_300 dL_law_301 ?_
  refine law_arg (k0 := 0) (k3 := 3) hx hb hXs hbl hbA hS hl rfl rfl (show 5 < 6 by decide) (by decide) dL_law_302 dL_law_303 dL_law_304 dL_law_305 dL_law_306 ?_
  have hP := e_swapP hP
  have hD := e_swapD hD
  rw [← hgg] at hP
  refine law_cv (As := [.int (xs 1), .int (xs 2), .int (xs 3), .int (xs 4), .int (xs 5)]) (rest := [.int r1]) hC2 hP hD hS hA hl.1 (rX11_feed h1) cwL_17 yvX11_feed (va_recv (ci := 11) (q0 := 0) hC2.2.2.2.2.2.1 (law_left hP) rfl (wk_at tb_300)) rfl rfl (Nat.le_of_ble_eq_true rfl) (rmL (by decide) (by decide)) dL_law_307 (fun r2 w3 H locs h2 hP hD hS => ?_)
  refine lv_icmp_eq (tgt := 2075) hx hb dL_law_310 (by decide) (fun _ => hend H locs hS) (fun c_1 => absurd h2.symm c_1)
set_option maxHeartbeats 4000000 in
set_option maxRecDepth 100000 in
theorem case_end {p : Program} {l : Launch} {e : Env} {s : State} {m : MethodId} {below : List Frame} {meth : Method} {c : Code} {H : Heap} {locs : List Loc} {Q : State → Prop} {ls : Array Slot} {A : Nat → Prop} {g g2 : Gw} {w w2 : Wd} {b : Nat} {xs : Nat → Int32} (hLC : LC p s m c b xs A g g2) (hP : va_P g.1 vwCl (wsW tabX g w ++ wsW tabM g2 w2) H) (hD : va_D A (wsW tabX g w ++ wsW tabM g2 w2)) (hS : va_S A s.heap H locs) (hl : lv_has ls 4 (lvL b g g2)) (hpx : pX10_end (fun r _ => pX11_end (fun r2 _ => r2 = r) (xs 1) w2) (xs 1) w) (hend : ∀ (H : Heap) (locs : List Loc), va_S A s.heap H locs → W p l e room_1 s m #[.ref b] below meth c H locs 134 142488 Q (F0 m 2075 ls [])) : W p l e room_1 s m #[.ref b] below meth c H locs 134 142488 Q (F0 m 315 ls []) := by
  obtain ⟨hC, hC2, hgg, hXs, hbl, hbA, hA⟩ := hLC
  have hx := hC.1
  have hb := hC.2.1
  refine lv_aload_n hx hb dL_law_315 rfl (lv_at hl 1 rfl) ?_
  refine law_arg (k0 := 0) (k3 := 3) hx hb hXs hbl hbA hS hl rfl rfl (show 1 < 6 by decide) (by decide) dL_law_316 dL_law_317 dL_law_318 dL_law_319 dL_law_320 ?_
  refine law_cv (As := [.int (xs 1)]) (rest := []) hC hP hD hS hA hl.1 (rX10_end hpx) cwL_18 yvX10_end (va_recv (ci := 10) (q0 := 0) hC.2.2.2.2.2.1 (law_left hP) rfl (wk_at tb_0)) rfl rfl (Nat.le_of_ble_eq_true rfl) (rmL (by decide) (by decide)) dL_law_321 (fun r1 w1 H locs h1 hP hD hS => ?_)
  refine lv_aload_n hx hb dL_law_324 rfl (lv_at hl 2 rfl) ?_
  refine law_arg (k0 := 0) (k3 := 3) hx hb hXs hbl hbA hS hl rfl rfl (show 1 < 6 by decide) (by decide) dL_law_325 dL_law_326 dL_law_327 dL_law_328 dL_law_329 ?_
  have hP := e_swapP hP
  have hD := e_swapD hD
  rw [← hgg] at hP
  refine law_cv (As := [.int (xs 1)]) (rest := [.int r1]) hC2 hP hD hS hA hl.1 (rX11_end h1) cwL_22 yvX11_end (va_recv (ci := 11) (q0 := 0) hC2.2.2.2.2.2.1 (law_left hP) rfl (wk_at tb_300)) rfl rfl (Nat.le_of_ble_eq_true rfl) (rmL (by decide) (by decide)) dL_law_330 (fun r2 w3 H locs h2 hP hD hS => ?_)
  refine lv_icmp_eq (tgt := 2075) hx hb dL_law_333 (by decide) (fun _ => hend H locs hS) (fun c_1 => absurd h2.symm c_1)
set_option maxHeartbeats 4000000 in
set_option maxRecDepth 100000 in
theorem case_chancery {p : Program} {l : Launch} {e : Env} {s : State} {m : MethodId} {below : List Frame} {meth : Method} {c : Code} {H : Heap} {locs : List Loc} {Q : State → Prop} {ls : Array Slot} {A : Nat → Prop} {g g2 : Gw} {w w2 : Wd} {b : Nat} {xs : Nat → Int32} (hLC : LC p s m c b xs A g g2) (hP : va_P g.1 vwCl (wsW tabX g w ++ wsW tabM g2 w2) H) (hD : va_D A (wsW tabX g w ++ wsW tabM g2 w2)) (hS : va_S A s.heap H locs) (hl : lv_has ls 4 (lvL b g g2)) (hpx : pX10_chancery (fun r _ => pX11_chancery (fun r2 _ => r2 = r)  w2)  w) (hend : ∀ (H : Heap) (locs : List Loc), va_S A s.heap H locs → W p l e room_1 s m #[.ref b] below meth c H locs 134 142488 Q (F0 m 2075 ls [])) : W p l e room_1 s m #[.ref b] below meth c H locs 134 142488 Q (F0 m 338 ls []) := by
  obtain ⟨hC, hC2, hgg, hXs, hbl, hbA, hA⟩ := hLC
  have hx := hC.1
  have hb := hC.2.1
  refine lv_aload_n hx hb dL_law_338 rfl (lv_at hl 1 rfl) ?_
  refine law_cv (As := []) (rest := []) hC hP hD hS hA hl.1 (rX10_chancery hpx) cwL_23 yvX10_chancery (va_recv (ci := 10) (q0 := 0) hC.2.2.2.2.2.1 (law_left hP) rfl (wk_at tb_0)) rfl rfl (Nat.le_of_ble_eq_true rfl) (rmL (by decide) (by decide)) dL_law_339 (fun r1 w1 H locs h1 hP hD hS => ?_)
  refine lv_aload_n hx hb dL_law_342 rfl (lv_at hl 2 rfl) ?_
  have hP := e_swapP hP
  have hD := e_swapD hD
  rw [← hgg] at hP
  refine law_cv (As := []) (rest := [.int r1]) hC2 hP hD hS hA hl.1 (rX11_chancery h1) cwL_27 yvX11_chancery (va_recv (ci := 11) (q0 := 0) hC2.2.2.2.2.2.1 (law_left hP) rfl (wk_at tb_300)) rfl rfl (Nat.le_of_ble_eq_true rfl) (rmL (by decide) (by decide)) dL_law_343 (fun r2 w3 H locs h2 hP hD hS => ?_)
  refine lv_icmp_eq (tgt := 2075) hx hb dL_law_346 (by decide) (fun _ => hend H locs hS) (fun c_1 => absurd h2.symm c_1)
set_option maxHeartbeats 4000000 in
set_option maxRecDepth 100000 in
theorem case_fault {p : Program} {l : Launch} {e : Env} {s : State} {m : MethodId} {below : List Frame} {meth : Method} {c : Code} {H : Heap} {locs : List Loc} {Q : State → Prop} {ls : Array Slot} {A : Nat → Prop} {g g2 : Gw} {w w2 : Wd} {b : Nat} {xs : Nat → Int32} (hLC : LC p s m c b xs A g g2) (hP : va_P g.1 vwCl (wsW tabX g w ++ wsW tabM g2 w2) H) (hD : va_D A (wsW tabX g w ++ wsW tabM g2 w2)) (hS : va_S A s.heap H locs) (hl : lv_has ls 4 (lvL b g g2)) (hpx : pX10_fault (fun r _ => pX11_fault (fun r2 _ => r2 = r) (xs 1) w2) (xs 1) w) (hend : ∀ (H : Heap) (locs : List Loc), va_S A s.heap H locs → W p l e room_1 s m #[.ref b] below meth c H locs 134 142488 Q (F0 m 2075 ls [])) : W p l e room_1 s m #[.ref b] below meth c H locs 134 142488 Q (F0 m 351 ls []) := by
  obtain ⟨hC, hC2, hgg, hXs, hbl, hbA, hA⟩ := hLC
  have hx := hC.1
  have hb := hC.2.1
  refine lv_aload_n hx hb dL_law_351 rfl (lv_at hl 1 rfl) ?_
  refine law_arg (k0 := 0) (k3 := 3) hx hb hXs hbl hbA hS hl rfl rfl (show 1 < 6 by decide) (by decide) dL_law_352 dL_law_353 dL_law_354 dL_law_355 dL_law_356 ?_
  refine law_cv (As := [.int (xs 1)]) (rest := []) hC hP hD hS hA hl.1 (rX10_fault hpx) cwL_28 yvX10_fault (va_recv (ci := 10) (q0 := 0) hC.2.2.2.2.2.1 (law_left hP) rfl (wk_at tb_0)) rfl rfl (Nat.le_of_ble_eq_true rfl) (rmL (by decide) (by decide)) dL_law_357 (fun r1 w1 H locs h1 hP hD hS => ?_)
  refine lv_aload_n hx hb dL_law_360 rfl (lv_at hl 2 rfl) ?_
  refine law_arg (k0 := 0) (k3 := 3) hx hb hXs hbl hbA hS hl rfl rfl (show 1 < 6 by decide) (by decide) dL_law_361 dL_law_362 dL_law_363 dL_law_364 dL_law_365 ?_
  have hP := e_swapP hP
  have hD := e_swapD hD
  rw [← hgg] at hP
  refine law_cv (As := [.int (xs 1)]) (rest := [.int r1]) hC2 hP hD hS hA hl.1 (rX11_fault h1) cwL_31 yvX11_fault (va_recv (ci := 11) (q0 := 0) hC2.2.2.2.2.2.1 (law_left hP) rfl (wk_at tb_300)) rfl rfl (Nat.le_of_ble_eq_true rfl) (rmL (by decide) (by decide)) dL_law_366 (fun r2 w3 H locs h2 hP hD hS => ?_)
  refine lv_icmp_eq (tgt := 2075) hx hb dL_law_369 (by decide) (fun _ => hend H locs hS) (fun c_1 => absurd h2.symm c_1)
set_option maxHeartbeats 4000000 in
set_option maxRecDepth 100000 in
theorem case_seal {p : Program} {l : Launch} {e : Env} {s : State} {m : MethodId} {below : List Frame} {meth : Method} {c : Code} {H : Heap} {locs : List Loc} {Q : State → Prop} {ls : Array Slot} {A : Nat → Prop} {g g2 : Gw} {w w2 : Wd} {b : Nat} {xs : Nat → Int32} (hLC : LC p s m c b xs A g g2) (hP : va_P g.1 vwCl (wsW tabX g w ++ wsW tabM g2 w2) H) (hD : va_D A (wsW tabX g w ++ wsW tabM g2 w2)) (hS : va_S A s.heap H locs) (hl : lv_has ls 4 (lvL b g g2)) (hpx : pX10_seal (fun r _ => pX11_seal (fun r2 _ => r2 = r) (xs 1) (xs 2) w2) (xs 1) (xs 2) w) (hend : ∀ (H : Heap) (locs : List Loc), va_S A s.heap H locs → W p l e room_1 s m #[.ref b] below meth c H locs 134 142488 Q (F0 m 2075 ls [])) : W p l e room_1 s m #[.ref b] below meth c H locs 134 142488 Q (F0 m 374 ls []) := by
  obtain ⟨hC, hC2, hgg, hXs, hbl, hbA, hA⟩ := hLC
  have hx := hC.1
  have hb := hC.2.1
  refine lv_aload_n hx hb dL_law_374 rfl (lv_at hl 1 rfl) ?_
  refine law_arg (k0 := 0) (k3 := 3) hx hb hXs hbl hbA hS hl rfl rfl (show 1 < 6 by decide) (by decide) dL_law_375 dL_law_376 dL_law_377 dL_law_378 dL_law_379 ?_
  refine law_arg (k0 := 0) (k3 := 3) hx hb hXs hbl hbA hS hl rfl rfl (show 2 < 6 by decide) (by decide) dL_law_380 dL_law_381 dL_law_382 dL_law_383 dL_law_384 ?_
  refine law_cv (As := [.int (xs 1), .int (xs 2)]) (rest := []) hC hP hD hS hA hl.1 (rX10_seal hpx) cwL_32 yvX10_seal (va_recv (ci := 10) (q0 := 0) hC.2.2.2.2.2.1 (law_left hP) rfl (wk_at tb_0)) rfl rfl (Nat.le_of_ble_eq_true rfl) (rmL (by decide) (by decide)) dL_law_385 (fun r1 w1 H locs h1 hP hD hS => ?_)
  refine lv_aload_n hx hb dL_law_388 rfl (lv_at hl 2 rfl) ?_
  refine law_arg (k0 := 0) (k3 := 3) hx hb hXs hbl hbA hS hl rfl rfl (show 1 < 6 by decide) (by decide) dL_law_389 dL_law_390 dL_law_391 dL_law_392 dL_law_393 ?_
  refine law_arg (k0 := 0) (k3 := 3) hx hb hXs hbl hbA hS hl rfl rfl (show 2 < 6 by decide) (by decide) dL_law_394 dL_law_395 dL_law_396 dL_law_397 dL_law_398 ?_
  have hP := e_swapP hP
  have hD := e_swapD hD
  rw [← hgg] at hP
  refine law_cv (As := [.int (xs 1), .int (xs 2)]) (rest := [.int r1]) hC2 hP hD hS hA hl.1 (rX11_seal h1) cwL_36 yvX11_seal (va_recv (ci := 11) (q0 := 0) hC2.2.2.2.2.2.1 (law_left hP) rfl (wk_at tb_300)) rfl rfl (Nat.le_of_ble_eq_true rfl) (rmL (by decide) (by decide)) dL_law_399 (fun r2 w3 H locs h2 hP hD hS => ?_)
  refine lv_icmp_eq (tgt := 2075) hx hb dL_law_402 (by decide) (fun _ => hend H locs hS) (fun c_1 => absurd h2.symm c_1)
set_option maxHeartbeats 4000000 in
set_option maxRecDepth 100000 in
theorem case_shown {p : Program} {l : Launch} {e : Env} {s : State} {m : MethodId} {below : List Frame} {meth : Method} {c : Code} {H : Heap} {locs : List Loc} {Q : State → Prop} {ls : Array Slot} {A : Nat → Prop} {g g2 : Gw} {w w2 : Wd} {b : Nat} {xs : Nat → Int32} (hLC : LC p s m c b xs A g g2) (hP : va_P g.1 vwCl (wsW tabX g w ++ wsW tabM g2 w2) H) (hD : va_D A (wsW tabX g w ++ wsW tabM g2 w2)) (hS : va_S A s.heap H locs) (hl : lv_has ls 4 (lvL b g g2)) (hpx : pX10_shown (fun r _ => pX11_shown (fun r2 _ => r2 = r) (xs 1) (xs 2) w2) (xs 1) (xs 2) w) (hend : ∀ (H : Heap) (locs : List Loc), va_S A s.heap H locs → W p l e room_1 s m #[.ref b] below meth c H locs 134 142488 Q (F0 m 2075 ls [])) : W p l e room_1 s m #[.ref b] below meth c H locs 134 142488 Q (F0 m 407 ls []) := by
  obtain ⟨hC, hC2, hgg, hXs, hbl, hbA, hA⟩ := hLC
  have hx := hC.1
  have hb := hC.2.1
  refine lv_aload_n hx hb dL_law_407 rfl (lv_at hl 1 rfl) ?_
  refine law_arg (k0 := 0) (k3 := 3) hx hb hXs hbl hbA hS hl rfl rfl (show 1 < 6 by decide) (by decide) dL_law_408 dL_law_409 dL_law_410 dL_law_411 dL_law_412 ?_
  refine law_arg (k0 := 0) (k3 := 3) hx hb hXs hbl hbA hS hl rfl rfl (show 2 < 6 by decide) (by decide) dL_law_413 dL_law_414 dL_law_415 dL_law_416 dL_law_417 ?_
  refine law_cv (As := [.int (xs 1), .int (xs 2)]) (rest := []) hC hP hD hS hA hl.1 (rX10_shown hpx) cwL_37 yvX10_shown (va_recv (ci := 10) (q0 := 0) hC.2.2.2.2.2.1 (law_left hP) rfl (wk_at tb_0)) rfl rfl (Nat.le_of_ble_eq_true rfl) (rmL (by decide) (by decide)) dL_law_418 (fun r1 w1 H locs h1 hP hD hS => ?_)
  refine lv_aload_n hx hb dL_law_421 rfl (lv_at hl 2 rfl) ?_
  refine law_arg (k0 := 0) (k3 := 3) hx hb hXs hbl hbA hS hl rfl rfl (show 1 < 6 by decide) (by decide) dL_law_422 dL_law_423 dL_law_424 dL_law_425 dL_law_426 ?_
  refine law_arg (k0 := 0) (k3 := 3) hx hb hXs hbl hbA hS hl rfl rfl (show 2 < 6 by decide) (by decide) dL_law_427 dL_law_428 dL_law_429 dL_law_430 dL_law_431 ?_
  have hP := e_swapP hP
  have hD := e_swapD hD
  rw [← hgg] at hP
  refine law_cv (As := [.int (xs 1), .int (xs 2)]) (rest := [.int r1]) hC2 hP hD hS hA hl.1 (rX11_shown h1) cwL_40 yvX11_shown (va_recv (ci := 11) (q0 := 0) hC2.2.2.2.2.2.1 (law_left hP) rfl (wk_at tb_300)) rfl rfl (Nat.le_of_ble_eq_true rfl) (rmL (by decide) (by decide)) dL_law_432 (fun r2 w3 H locs h2 hP hD hS => ?_)
  refine lv_icmp_eq (tgt := 2075) hx hb dL_law_435 (by decide) (fun _ => hend H locs hS) (fun c_1 => absurd h2.symm c_1)
set_option maxHeartbeats 4000000 in
set_option maxRecDepth 100000 in
theorem case_prints {p : Program} {l : Launch} {e : Env} {s : State} {m : MethodId} {below : List Frame} {meth : Method} {c : Code} {H : Heap} {locs : List Loc} {Q : State → Prop} {ls : Array Slot} {A : Nat → Prop} {g g2 : Gw} {w w2 : Wd} {b : Nat} {xs : Nat → Int32} (hLC : LC p s m c b xs A g g2) (hP : va_P g.1 vwCl (wsW tabX g w ++ wsW tabM g2 w2) H) (hD : va_D A (wsW tabX g w ++ wsW tabM g2 w2)) (hS : va_S A s.heap H locs) (hl : lv_has ls 4 (lvL b g g2)) (hpx : pX10_prints (fun r _ => pX11_prints (fun r2 _ => r2 = r) (xs 1) (xs 2) w2) (xs 1) (xs 2) w) (hend : ∀ (H : Heap) (locs : List Loc), va_S A s.heap H locs → W p l e room_1 s m #[.ref b] below meth c H locs 134 142488 Q (F0 m 2075 ls [])) : W p l e room_1 s m #[.ref b] below meth c H locs 134 142488 Q (F0 m 440 ls []) := by
  obtain ⟨hC, hC2, hgg, hXs, hbl, hbA, hA⟩ := hLC
  have hx := hC.1
  have hb := hC.2.1
  refine lv_aload_n hx hb dL_law_440 rfl (lv_at hl 1 rfl) ?_
  refine law_arg (k0 := 0) (k3 := 3) hx hb hXs hbl hbA hS hl rfl rfl (show 1 < 6 by decide) (by decide) dL_law_441 dL_law_442 dL_law_443 dL_law_444 dL_law_445 ?_
  refine law_arg (k0 := 0) (k3 := 3) hx hb hXs hbl hbA hS hl rfl rfl (show 2 < 6 by decide) (by decide) dL_law_446 dL_law_447 dL_law_448 dL_law_449 dL_law_450 ?_
  refine law_cv (As := [.int (xs 1), .int (xs 2)]) (rest := []) hC hP hD hS hA hl.1 (rX10_prints hpx) cwL_41 yvX10_prints (va_recv (ci := 10) (q0 := 0) hC.2.2.2.2.2.1 (law_left hP) rfl (wk_at tb_0)) rfl rfl (Nat.le_of_ble_eq_true rfl) (rmL (by decide) (by decide)) dL_law_451 (fun r1 w1 H locs h1 hP hD hS => ?_)
  refine lv_aload_n hx hb dL_law_454 rfl (lv_at hl 2 rfl) ?_
  refine law_arg (k0 := 0) (k3 := 3) hx hb hXs hbl hbA hS hl rfl rfl (show 1 < 6 by decide) (by decide) dL_law_455 dL_law_456 dL_law_457 dL_law_458 dL_law_459 ?_
  refine law_arg (k0 := 0) (k3 := 3) hx hb hXs hbl hbA hS hl rfl rfl (show 2 < 6 by decide) (by decide) dL_law_460 dL_law_461 dL_law_462 dL_law_463 dL_law_464 ?_
  have hP := e_swapP hP
  have hD := e_swapD hD
  rw [← hgg] at hP
  refine law_cv (As := [.int (xs 1), .int (xs 2)]) (rest := [.int r1]) hC2 hP hD hS hA hl.1 (rX11_prints h1) cwL_44 yvX11_prints (va_recv (ci := 11) (q0 := 0) hC2.2.2.2.2.2.1 (law_left hP) rfl (wk_at tb_300)) rfl rfl (Nat.le_of_ble_eq_true rfl) (rmL (by decide) (by decide)) dL_law_465 (fun r2 w3 H locs h2 hP hD hS => ?_)
  refine lv_icmp_eq (tgt := 2075) hx hb dL_law_468 (by decide) (fun _ => hend H locs hS) (fun c_1 => absurd h2.symm c_1)
set_option maxHeartbeats 4000000 in
set_option maxRecDepth 100000 in
theorem case_turned {p : Program} {l : Launch} {e : Env} {s : State} {m : MethodId} {below : List Frame} {meth : Method} {c : Code} {H : Heap} {locs : List Loc} {Q : State → Prop} {ls : Array Slot} {A : Nat → Prop} {g g2 : Gw} {w w2 : Wd} {b : Nat} {xs : Nat → Int32} (hLC : LC p s m c b xs A g g2) (hP : va_P g.1 vwCl (wsW tabX g w ++ wsW tabM g2 w2) H) (hD : va_D A (wsW tabX g w ++ wsW tabM g2 w2)) (hS : va_S A s.heap H locs) (hl : lv_has ls 4 (lvL b g g2)) (hpx : pX10_turned (fun r _ => pX11_turned (fun r2 _ => r2 = r) (xs 1) w2) (xs 1) w) (hend : ∀ (H : Heap) (locs : List Loc), va_S A s.heap H locs → W p l e room_1 s m #[.ref b] below meth c H locs 134 142488 Q (F0 m 2075 ls [])) : W p l e room_1 s m #[.ref b] below meth c H locs 134 142488 Q (F0 m 473 ls []) := by
  obtain ⟨hC, hC2, hgg, hXs, hbl, hbA, hA⟩ := hLC
  have hx := hC.1
  have hb := hC.2.1
  refine lv_aload_n hx hb dL_law_473 rfl (lv_at hl 1 rfl) ?_
  refine law_arg (k0 := 0) (k3 := 3) hx hb hXs hbl hbA hS hl rfl rfl (show 1 < 6 by decide) (by decide) dL_law_474 dL_law_475 dL_law_476 dL_law_477 dL_law_478 ?_
  refine law_cv (As := [.int (xs 1)]) (rest := []) hC hP hD hS hA hl.1 (rX10_turned hpx) cwL_45 yvX10_turned (va_recv (ci := 10) (q0 := 0) hC.2.2.2.2.2.1 (law_left hP) rfl (wk_at tb_0)) rfl rfl (Nat.le_of_ble_eq_true rfl) (rmL (by decide) (by decide)) dL_law_479 (fun r1 w1 H locs h1 hP hD hS => ?_)
  refine lv_aload_n hx hb dL_law_482 rfl (lv_at hl 2 rfl) ?_
  refine law_arg (k0 := 0) (k3 := 3) hx hb hXs hbl hbA hS hl rfl rfl (show 1 < 6 by decide) (by decide) dL_law_483 dL_law_484 dL_law_485 dL_law_486 dL_law_487 ?_
  have hP := e_swapP hP
  have hD := e_swapD hD
  rw [← hgg] at hP
  refine law_cv (As := [.int (xs 1)]) (rest := [.int r1]) hC2 hP hD hS hA hl.1 (rX11_turned h1) cwL_48 yvX11_turned (va_recv (ci := 11) (q0 := 0) hC2.2.2.2.2.2.1 (law_left hP) rfl (wk_at tb_300)) rfl rfl (Nat.le_of_ble_eq_true rfl) (rmL (by decide) (by decide)) dL_law_488 (fun r2 w3 H locs h2 hP hD hS => ?_)
  refine lv_icmp_eq (tgt := 2075) hx hb dL_law_491 (by decide) (fun _ => hend H locs hS) (fun c_1 => absurd h2.symm c_1)
set_option maxHeartbeats 4000000 in
set_option maxRecDepth 100000 in
theorem case_would {p : Program} {l : Launch} {e : Env} {s : State} {m : MethodId} {below : List Frame} {meth : Method} {c : Code} {H : Heap} {locs : List Loc} {Q : State → Prop} {ls : Array Slot} {A : Nat → Prop} {g g2 : Gw} {w w2 : Wd} {b : Nat} {xs : Nat → Int32} (hLC : LC p s m c b xs A g g2) (hP : va_P g.1 vwCl (wsW tabX g w ++ wsW tabM g2 w2) H) (hD : va_D A (wsW tabX g w ++ wsW tabM g2 w2)) (hS : va_S A s.heap H locs) (hl : lv_has ls 4 (lvL b g g2)) (hpx : pX10_would (fun r _ => pX11_would (fun r2 _ => r2 = r) (xs 1) (xs 2) (xs 3) (xs 4) w2) (xs 1) (xs 2) (xs 3) (xs 4) w) (hend : ∀ (H : Heap) (locs : List Loc), va_S A s.heap H locs → W p l e room_1 s m #[.ref b] below meth c H locs 134 142488 Q (F0 m 2075 ls [])) : W p l e room_1 s m #[.ref b] below meth c H locs 134 142488 Q (F0 m 496 ls []) := by
  obtain ⟨hC, hC2, hgg, hXs, hbl, hbA, hA⟩ := hLC
  have hx := hC.1
  have hb := hC.2.1
  refine lv_aload_n hx hb dL_law_496 rfl (lv_at hl 1 rfl) ?_
  refine law_arg (k0 := 0) (k3 := 3) hx hb hXs hbl hbA hS hl rfl rfl (show 1 < 6 by decide) (by decide) dL_law_497 dL_law_498 dL_law_499 dL_law_500 dL_law_501 ?_
  refine law_arg (k0 := 0) (k3 := 3) hx hb hXs hbl hbA hS hl rfl rfl (show 2 < 6 by decide) (by decide) dL_law_502 dL_law_503 dL_law_504 dL_law_505 dL_law_506 ?_
  refine law_arg (k0 := 0) (k3 := 3) hx hb hXs hbl hbA hS hl rfl rfl (show 3 < 6 by decide) (by decide) dL_law_507 dL_law_508 dL_law_509 dL_law_510 dL_law_511 ?_
  refine law_arg (k0 := 0) (k3 := 3) hx hb hXs hbl hbA hS hl rfl rfl (show 4 < 6 by decide) (by decide) dL_law_512 dL_law_513 dL_law_514 dL_law_515 dL_law_516 ?_
  refine law_cv (As := [.int (xs 1), .int (xs 2), .int (xs 3), .int (xs 4)]) (rest := []) hC hP hD hS hA hl.1 (rX10_would hpx) cwL_49 yvX10_would (va_recv (ci := 10) (q0 := 0) hC.2.2.2.2.2.1 (law_left hP) rfl (wk_at tb_0)) rfl rfl (Nat.le_of_ble_eq_true rfl) (rmL (by decide) (by decide)) dL_law_517 (fun r1 w1 H locs h1 hP hD hS => ?_)
  refine lv_aload_n hx hb dL_law_520 rfl (lv_at hl 2 rfl) ?_
  refine law_arg (k0 := 0) (k3 := 3) hx hb hXs hbl hbA hS hl rfl rfl (show 1 < 6 by decide) (by decide) dL_law_521 dL_law_522 dL_law_523 dL_law_524 dL_law_525 ?_
  refine law_arg (k0 := 0) (k3 := 3) hx hb hXs hbl hbA hS hl rfl rfl (show 2 < 6 by decide) (by decide) dL_law_526 dL_law_527 dL_law_528 dL_law_529 dL_law_530 ?_
  refine law_arg (k0 := 0) (k3 := 3) hx hb hXs hbl hbA hS hl rfl rfl (show 3 < 6 by decide) (by decide) dL_law_531 dL_law_532 dL_law_533 dL_law_534 dL_law_535 ?_
  refine law_arg (k0 := 0) (k3 := 3) hx hb hXs hbl hbA hS hl rfl rfl (show 4 < 6 by decide) (by decide) dL_law_536 dL_law_537 dL_law_538 dL_law_539 dL_law_540 ?_
  have hP := e_swapP hP
  have hD := e_swapD hD
  rw [← hgg] at hP
  refine law_cv (As := [.int (xs 1), .int (xs 2), .int (xs 3), .int (xs 4)]) (rest := [.int r1]) hC2 hP hD hS hA hl.1 (rX11_would h1) cwL_53 yvX11_would (va_recv (ci := 11) (q0 := 0) hC2.2.2.2.2.2.1 (law_left hP) rfl (wk_at tb_300)) rfl rfl (Nat.le_of_ble_eq_true rfl) (rmL (by decide) (by decide)) dL_law_541 (fun r2 w3 H locs h2 hP hD hS => ?_)
  refine lv_icmp_eq (tgt := 2075) hx hb dL_law_544 (by decide) (fun _ => hend H locs hS) (fun c_1 => absurd h2.symm c_1)
set_option maxHeartbeats 4000000 in
set_option maxRecDepth 100000 in
theorem case_cast {p : Program} {l : Launch} {e : Env} {s : State} {m : MethodId} {below : List Frame} {meth : Method} {c : Code} {H : Heap} {locs : List Loc} {Q : State → Prop} {ls : Array Slot} {A : Nat → Prop} {g g2 : Gw} {w w2 : Wd} {b : Nat} {xs : Nat → Int32} (hLC : LC p s m c b xs A g g2) (hP : va_P g.1 vwCl (wsW tabX g w ++ wsW tabM g2 w2) H) (hD : va_D A (wsW tabX g w ++ wsW tabM g2 w2)) (hS : va_S A s.heap H locs) (hl : lv_has ls 4 (lvL b g g2)) (hpx : pX10_cast (fun r _ => pX11_cast (fun r2 _ => r2 = r) (xs 1) (xs 2) (xs 3) w2) (xs 1) (xs 2) (xs 3) w) (hend : ∀ (H : Heap) (locs : List Loc), va_S A s.heap H locs → W p l e room_1 s m #[.ref b] below meth c H locs 134 142488 Q (F0 m 2075 ls [])) : W p l e room_1 s m #[.ref b] below meth c H locs 134 142488 Q (F0 m 549 ls []) := by
  obtain ⟨hC, hC2, hgg, hXs, hbl, hbA, hA⟩ := hLC
  have hx := hC.1
  have hb := hC.2.1
  refine lv_aload_n hx hb dL_law_549 rfl (lv_at hl 1 rfl) ?_
  refine law_arg (k0 := 0) (k3 := 3) hx hb hXs hbl hbA hS hl rfl rfl (show 1 < 6 by decide) (by decide) dL_law_550 dL_law_551 dL_law_552 dL_law_553 dL_law_554 ?_
  refine law_arg (k0 := 0) (k3 := 3) hx hb hXs hbl hbA hS hl rfl rfl (show 2 < 6 by decide) (by decide) dL_law_555 dL_law_556 dL_law_557 dL_law_558 dL_law_559 ?_
  refine law_arg (k0 := 0) (k3 := 3) hx hb hXs hbl hbA hS hl rfl rfl (show 3 < 6 by decide) (by decide) dL_law_560 dL_law_561 dL_law_562 dL_law_563 dL_law_564 ?_
  refine law_cv (As := [.int (xs 1), .int (xs 2), .int (xs 3)]) (rest := []) hC hP hD hS hA hl.1 (rX10_cast hpx) cwL_54 yvX10_cast (va_recv (ci := 10) (q0 := 0) hC.2.2.2.2.2.1 (law_left hP) rfl (wk_at tb_0)) rfl rfl (Nat.le_of_ble_eq_true rfl) (rmL (by decide) (by decide)) dL_law_565 (fun r1 w1 H locs h1 hP hD hS => ?_)
  refine lv_aload_n hx hb dL_law_568 rfl (lv_at hl 2 rfl) ?_
  refine law_arg (k0 := 0) (k3 := 3) hx hb hXs hbl hbA hS hl rfl rfl (show 1 < 6 by decide) (by decide) dL_law_569 dL_law_570 dL_law_571 dL_law_572 dL_law_573 ?_
  refine law_arg (k0 := 0) (k3 := 3) hx hb hXs hbl hbA hS hl rfl rfl (show 2 < 6 by decide) (by decide) dL_law_574 dL_law_575 dL_law_576 dL_law_577 dL_law_578 ?_
  refine law_arg (k0 := 0) (k3 := 3) hx hb hXs hbl hbA hS hl rfl rfl (show 3 < 6 by decide) (by decide) dL_law_579 dL_law_580 dL_law_581 dL_law_582 dL_law_583 ?_
  have hP := e_swapP hP
  have hD := e_swapD hD
  rw [← hgg] at hP
  refine law_cv (As := [.int (xs 1), .int (xs 2), .int (xs 3)]) (rest := [.int r1]) hC2 hP hD hS hA hl.1 (rX11_cast h1) cwL_58 yvX11_cast (va_recv (ci := 11) (q0 := 0) hC2.2.2.2.2.2.1 (law_left hP) rfl (wk_at tb_300)) rfl rfl (Nat.le_of_ble_eq_true rfl) (rmL (by decide) (by decide)) dL_law_584 (fun r2 w3 H locs h2 hP hD hS => ?_)
  refine lv_icmp_eq (tgt := 2075) hx hb dL_law_587 (by decide) (fun _ => hend H locs hS) (fun c_1 => absurd h2.symm c_1)
set_option maxHeartbeats 4000000 in
set_option maxRecDepth 100000 in
theorem case_print {p : Program} {l : Launch} {e : Env} {s : State} {m : MethodId} {below : List Frame} {meth : Method} {c : Code} {H : Heap} {locs : List Loc} {Q : State → Prop} {ls : Array Slot} {A : Nat → Prop} {g g2 : Gw} {w w2 : Wd} {b : Nat} {xs : Nat → Int32} (hLC : LC p s m c b xs A g g2) (hP : va_P g.1 vwCl (wsW tabX g w ++ wsW tabM g2 w2) H) (hD : va_D A (wsW tabX g w ++ wsW tabM g2 w2)) (hS : va_S A s.heap H locs) (hl : lv_has ls 4 (lvL b g g2)) (hpx : pX10_print (fun r _ => pX11_print (fun r2 _ => r2 = r) (xs 1) w2) (xs 1) w) (hend : ∀ (H : Heap) (locs : List Loc), va_S A s.heap H locs → W p l e room_1 s m #[.ref b] below meth c H locs 134 142488 Q (F0 m 2075 ls [])) : W p l e room_1 s m #[.ref b] below meth c H locs 134 142488 Q (F0 m 592 ls []) := by
  obtain ⟨hC, hC2, hgg, hXs, hbl, hbA, hA⟩ := hLC
  have hx := hC.1
  have hb := hC.2.1
  refine lv_aload_n hx hb dL_law_592 rfl (lv_at hl 1 rfl) ?_
  refine law_arg (k0 := 0) (k3 := 3) hx hb hXs hbl hbA hS hl rfl rfl (show 1 < 6 by decide) (by decide) dL_law_593 dL_law_594 dL_law_595 dL_law_596 dL_law_597 ?_
  refine law_cv (As := [.int (xs 1)]) (rest := []) hC hP hD hS hA hl.1 (rX10_print hpx) cwL_59 yvX10_print (va_recv (ci := 10) (q0 := 0) hC.2.2.2.2.2.1 (law_left hP) rfl (wk_at tb_0)) rfl rfl (Nat.le_of_ble_eq_true rfl) (rmL (by decide) (by decide)) dL_law_598 (fun r1 w1 H locs h1 hP hD hS => ?_)
  refine lv_aload_n hx hb dL_law_601 rfl (lv_at hl 2 rfl) ?_
  refine law_arg (k0 := 0) (k3 := 3) hx hb hXs hbl hbA hS hl rfl rfl (show 1 < 6 by decide) (by decide) dL_law_602 dL_law_603 dL_law_604 dL_law_605 dL_law_606 ?_
  have hP := e_swapP hP
  have hD := e_swapD hD
  rw [← hgg] at hP
  refine law_cv (As := [.int (xs 1)]) (rest := [.int r1]) hC2 hP hD hS hA hl.1 (rX11_print h1) cwL_62 yvX11_print (va_recv (ci := 11) (q0 := 0) hC2.2.2.2.2.2.1 (law_left hP) rfl (wk_at tb_300)) rfl rfl (Nat.le_of_ble_eq_true rfl) (rmL (by decide) (by decide)) dL_law_607 (fun r2 w3 H locs h2 hP hD hS => ?_)
  refine lv_icmp_eq (tgt := 2075) hx hb dL_law_610 (by decide) (fun _ => hend H locs hS) (fun c_1 => absurd h2.symm c_1)
set_option maxHeartbeats 4000000 in
set_option maxRecDepth 100000 in
theorem case_crack {p : Program} {l : Launch} {e : Env} {s : State} {m : MethodId} {below : List Frame} {meth : Method} {c : Code} {H : Heap} {locs : List Loc} {Q : State → Prop} {ls : Array Slot} {A : Nat → Prop} {g g2 : Gw} {w w2 : Wd} {b : Nat} {xs : Nat → Int32} (hLC : LC p s m c b xs A g g2) (hP : va_P g.1 vwCl (wsW tabX g w ++ wsW tabM g2 w2) H) (hD : va_D A (wsW tabX g w ++ wsW tabM g2 w2)) (hS : va_S A s.heap H locs) (hl : lv_has ls 4 (lvL b g g2)) (hpx : pX10_crack (fun r _ => pX11_crack (fun r2 _ => r2 = r) (xs 1) (xs 2) w2) (xs 1) (xs 2) w) (hend : ∀ (H : Heap) (locs : List Loc), va_S A s.heap H locs → W p l e room_1 s m #[.ref b] below meth c H locs 134 142488 Q (F0 m 2075 ls [])) : W p l e room_1 s m #[.ref b] below meth c H locs 134 142488 Q (F0 m 615 ls []) := by
  obtain ⟨hC, hC2, hgg, hXs, hbl, hbA, hA⟩ := hLC
  have hx := hC.1
  have hb := hC.2.1
  refine lv_aload_n hx hb dL_law_615 rfl (lv_at hl 1 rfl) ?_
  refine law_arg (k0 := 0) (k3 := 3) hx hb hXs hbl hbA hS hl rfl rfl (show 1 < 6 by decide) (by decide) dL_law_616 dL_law_617 dL_law_618 dL_law_619 dL_law_620 ?_
  refine law_arg (k0 := 0) (k3 := 3) hx hb hXs hbl hbA hS hl rfl rfl (show 2 < 6 by decide) (by decide) dL_law_621 dL_law_622 dL_law_623 dL_law_624 dL_law_625 ?_
  refine law_cv (As := [.int (xs 1), .int (xs 2)]) (rest := []) hC hP hD hS hA hl.1 (rX10_crack hpx) cwL_63 yvX10_crack (va_recv (ci := 10) (q0 := 0) hC.2.2.2.2.2.1 (law_left hP) rfl (wk_at tb_0)) rfl rfl (Nat.le_of_ble_eq_true rfl) (rmL (by decide) (by decide)) dL_law_626 (fun r1 w1 H locs h1 hP hD hS => ?_)
  refine lv_aload_n hx hb dL_law_629 rfl (lv_at hl 2 rfl) ?_
  refine law_arg (k0 := 0) (k3 := 3) hx hb hXs hbl hbA hS hl rfl rfl (show 1 < 6 by decide) (by decide) dL_law_630 dL_law_631 dL_law_632 dL_law_633 dL_law_634 ?_
  refine law_arg (k0 := 0) (k3 := 3) hx hb hXs hbl hbA hS hl rfl rfl (show 2 < 6 by decide) (by decide) dL_law_635 dL_law_636 dL_law_637 dL_law_638 dL_law_639 ?_
  have hP := e_swapP hP
  have hD := e_swapD hD
  rw [← hgg] at hP
  refine law_cv (As := [.int (xs 1), .int (xs 2)]) (rest := [.int r1]) hC2 hP hD hS hA hl.1 (rX11_crack h1) cwL_67 yvX11_crack (va_recv (ci := 11) (q0 := 0) hC2.2.2.2.2.2.1 (law_left hP) rfl (wk_at tb_300)) rfl rfl (Nat.le_of_ble_eq_true rfl) (rmL (by decide) (by decide)) dL_law_640 (fun r2 w3 H locs h2 hP hD hS => ?_)
  refine lv_icmp_eq (tgt := 2075) hx hb dL_law_643 (by decide) (fun _ => hend H locs hS) (fun c_1 => absurd h2.symm c_1)
set_option maxHeartbeats 4000000 in
set_option maxRecDepth 100000 in
theorem case_year {p : Program} {l : Launch} {e : Env} {s : State} {m : MethodId} {below : List Frame} {meth : Method} {c : Code} {H : Heap} {locs : List Loc} {Q : State → Prop} {ls : Array Slot} {A : Nat → Prop} {g g2 : Gw} {w w2 : Wd} {b : Nat} {xs : Nat → Int32} (hLC : LC p s m c b xs A g g2) (hP : va_P g.1 vwCl (wsW tabX g w ++ wsW tabM g2 w2) H) (hD : va_D A (wsW tabX g w ++ wsW tabM g2 w2)) (hS : va_S A s.heap H locs) (hl : lv_has ls 4 (lvL b g g2)) (hpx : pX10_year (fun r _ => pX11_year (fun r2 _ => r2 = r)  w2)  w) (hend : ∀ (H : Heap) (locs : List Loc), va_S A s.heap H locs → W p l e room_1 s m #[.ref b] below meth c H locs 134 142488 Q (F0 m 2075 ls [])) : W p l e room_1 s m #[.ref b] below meth c H locs 134 142488 Q (F0 m 648 ls []) := by
  obtain ⟨hC, hC2, hgg, hXs, hbl, hbA, hA⟩ := hLC
  have hx := hC.1
  have hb := hC.2.1
  refine lv_aload_n hx hb dL_law_648 rfl (lv_at hl 1 rfl) ?_
  refine law_cv (As := []) (rest := []) hC hP hD hS hA hl.1 (rX10_year hpx) cwL_68 yvX10_year (va_recv (ci := 10) (q0 := 0) hC.2.2.2.2.2.1 (law_left hP) rfl (wk_at tb_0)) rfl rfl (Nat.le_of_ble_eq_true rfl) (rmL (by decide) (by decide)) dL_law_649 (fun r1 w1 H locs h1 hP hD hS => ?_)
  refine lv_aload_n hx hb dL_law_652 rfl (lv_at hl 2 rfl) ?_
  have hP := e_swapP hP
  have hD := e_swapD hD
  rw [← hgg] at hP
  refine law_cv (As := []) (rest := [.int r1]) hC2 hP hD hS hA hl.1 (rX11_year h1) cwL_71 yvX11_year (va_recv (ci := 11) (q0 := 0) hC2.2.2.2.2.2.1 (law_left hP) rfl (wk_at tb_300)) rfl rfl (Nat.le_of_ble_eq_true rfl) (rmL (by decide) (by decide)) dL_law_653 (fun r2 w3 H locs h2 hP hD hS => ?_)
  refine lv_icmp_eq (tgt := 2075) hx hb dL_law_656 (by decide) (fun _ => hend H locs hS) (fun c_1 => absurd h2.symm c_1)
set_option maxHeartbeats 4000000 in
set_option maxRecDepth 100000 in
theorem case_undo {p : Program} {l : Launch} {e : Env} {s : State} {m : MethodId} {below : List Frame} {meth : Method} {c : Code} {H : Heap} {locs : List Loc} {Q : State → Prop} {ls : Array Slot} {A : Nat → Prop} {g g2 : Gw} {w w2 : Wd} {b : Nat} {xs : Nat → Int32} (hLC : LC p s m c b xs A g g2) (hP : va_P g.1 vwCl (wsW tabX g w ++ wsW tabM g2 w2) H) (hD : va_D A (wsW tabX g w ++ wsW tabM g2 w2)) (hS : va_S A s.heap H locs) (hl : lv_has ls 4 (lvL b g g2)) (hpx : pX10_undo (fun r _ => pX11_undo (fun r2 _ => r2 = r)  w2)  w) (hend : ∀ (H : Heap) (locs : List Loc), va_S A s.heap H locs → W p l e room_1 s m #[.ref b] below meth c H locs 134 142488 Q (F0 m 2075 ls [])) : W p l e room_1 s m #[.ref b] below meth c H locs 134 142488 Q (F0 m 661 ls []) := by
  obtain ⟨hC, hC2, hgg, hXs, hbl, hbA, hA⟩ := hLC
  have hx := hC.1
  have hb := hC.2.1
  refine lv_aload_n hx hb dL_law_661 rfl (lv_at hl 1 rfl) ?_
  refine law_cv (As := []) (rest := []) hC hP hD hS hA hl.1 (rX10_undo hpx) cwL_72 yvX10_undo (va_recv (ci := 10) (q0 := 0) hC.2.2.2.2.2.1 (law_left hP) rfl (wk_at tb_0)) rfl rfl (Nat.le_of_ble_eq_true rfl) (rmL (by decide) (by decide)) dL_law_662 (fun r1 w1 H locs h1 hP hD hS => ?_)
  refine lv_aload_n hx hb dL_law_665 rfl (lv_at hl 2 rfl) ?_
  have hP := e_swapP hP
  have hD := e_swapD hD
  rw [← hgg] at hP
  refine law_cv (As := []) (rest := [.int r1]) hC2 hP hD hS hA hl.1 (rX11_undo h1) cwL_76 yvX11_undo (va_recv (ci := 11) (q0 := 0) hC2.2.2.2.2.2.1 (law_left hP) rfl (wk_at tb_300)) rfl rfl (Nat.le_of_ble_eq_true rfl) (rmL (by decide) (by decide)) dL_law_666 (fun r2 w3 H locs h2 hP hD hS => ?_)
  refine lv_icmp_eq (tgt := 2075) hx hb dL_law_669 (by decide) (fun _ => hend H locs hS) (fun c_1 => absurd h2.symm c_1)
set_option maxHeartbeats 4000000 in
set_option maxRecDepth 100000 in
theorem case_redo {p : Program} {l : Launch} {e : Env} {s : State} {m : MethodId} {below : List Frame} {meth : Method} {c : Code} {H : Heap} {locs : List Loc} {Q : State → Prop} {ls : Array Slot} {A : Nat → Prop} {g g2 : Gw} {w w2 : Wd} {b : Nat} {xs : Nat → Int32} (hLC : LC p s m c b xs A g g2) (hP : va_P g.1 vwCl (wsW tabX g w ++ wsW tabM g2 w2) H) (hD : va_D A (wsW tabX g w ++ wsW tabM g2 w2)) (hS : va_S A s.heap H locs) (hl : lv_has ls 4 (lvL b g g2)) (hpx : pX10_redo (fun r _ => pX11_redo (fun r2 _ => r2 = r)  w2)  w) (hend : ∀ (H : Heap) (locs : List Loc), va_S A s.heap H locs → W p l e room_1 s m #[.ref b] below meth c H locs 134 142488 Q (F0 m 2075 ls [])) : W p l e room_1 s m #[.ref b] below meth c H locs 134 142488 Q (F0 m 674 ls []) := by
  obtain ⟨hC, hC2, hgg, hXs, hbl, hbA, hA⟩ := hLC
  have hx := hC.1
  have hb := hC.2.1
  refine lv_aload_n hx hb dL_law_674 rfl (lv_at hl 1 rfl) ?_
  refine law_cv (As := []) (rest := []) hC hP hD hS hA hl.1 (rX10_redo hpx) cwL_77 yvX10_redo (va_recv (ci := 10) (q0 := 0) hC.2.2.2.2.2.1 (law_left hP) rfl (wk_at tb_0)) rfl rfl (Nat.le_of_ble_eq_true rfl) (rmL (by decide) (by decide)) dL_law_675 (fun r1 w1 H locs h1 hP hD hS => ?_)
  refine lv_aload_n hx hb dL_law_678 rfl (lv_at hl 2 rfl) ?_
  have hP := e_swapP hP
  have hD := e_swapD hD
  rw [← hgg] at hP
  refine law_cv (As := []) (rest := [.int r1]) hC2 hP hD hS hA hl.1 (rX11_redo h1) cwL_80 yvX11_redo (va_recv (ci := 11) (q0 := 0) hC2.2.2.2.2.2.1 (law_left hP) rfl (wk_at tb_300)) rfl rfl (Nat.le_of_ble_eq_true rfl) (rmL (by decide) (by decide)) dL_law_679 (fun r2 w3 H locs h2 hP hD hS => ?_)
  refine lv_icmp_eq (tgt := 2075) hx hb dL_law_682 (by decide) (fun _ => hend H locs hS) (fun c_1 => absurd h2.symm c_1)
set_option maxHeartbeats 4000000 in
set_option maxRecDepth 100000 in
theorem case_whose {p : Program} {l : Launch} {e : Env} {s : State} {m : MethodId} {below : List Frame} {meth : Method} {c : Code} {H : Heap} {locs : List Loc} {Q : State → Prop} {ls : Array Slot} {A : Nat → Prop} {g g2 : Gw} {w w2 : Wd} {b : Nat} {xs : Nat → Int32} (hLC : LC p s m c b xs A g g2) (hP : va_P g.1 vwCl (wsW tabX g w ++ wsW tabM g2 w2) H) (hD : va_D A (wsW tabX g w ++ wsW tabM g2 w2)) (hS : va_S A s.heap H locs) (hl : lv_has ls 4 (lvL b g g2)) (hpx : pX10_whose (fun r _ => pX11_whose (fun r2 _ => r2 = r) (xs 1) (xs 2) (xs 3) w2) (xs 1) (xs 2) (xs 3) w) (hend : ∀ (H : Heap) (locs : List Loc), va_S A s.heap H locs → W p l e room_1 s m #[.ref b] below meth c H locs 134 142488 Q (F0 m 2075 ls [])) : W p l e room_1 s m #[.ref b] below meth c H locs 134 142488 Q (F0 m 687 ls []) := by
  obtain ⟨hC, hC2, hgg, hXs, hbl, hbA, hA⟩ := hLC
  have hx := hC.1
  have hb := hC.2.1
  refine lv_aload_n hx hb dL_law_687 rfl (lv_at hl 1 rfl) ?_
  refine law_arg (k0 := 0) (k3 := 3) hx hb hXs hbl hbA hS hl rfl rfl (show 1 < 6 by decide) (by decide) dL_law_688 dL_law_689 dL_law_690 dL_law_691 dL_law_692 ?_
  refine law_arg (k0 := 0) (k3 := 3) hx hb hXs hbl hbA hS hl rfl rfl (show 2 < 6 by decide) (by decide) dL_law_693 dL_law_694 dL_law_695 dL_law_696 dL_law_697 ?_
  refine law_arg (k0 := 0) (k3 := 3) hx hb hXs hbl hbA hS hl rfl rfl (show 3 < 6 by decide) (by decide) dL_law_698 dL_law_699 dL_law_700 dL_law_701 dL_law_702 ?_
  refine law_cv (As := [.int (xs 1), .int (xs 2), .int (xs 3)]) (rest := []) hC hP hD hS hA hl.1 (rX10_whose hpx) cwL_81 yvX10_whose (va_recv (ci := 10) (q0 := 0) hC.2.2.2.2.2.1 (law_left hP) rfl (wk_at tb_0)) rfl rfl (Nat.le_of_ble_eq_true rfl) (rmL (by decide) (by decide)) dL_law_703 (fun r1 w1 H locs h1 hP hD hS => ?_)
  refine lv_aload_n hx hb dL_law_706 rfl (lv_at hl 2 rfl) ?_
  refine law_arg (k0 := 0) (k3 := 3) hx hb hXs hbl hbA hS hl rfl rfl (show 1 < 6 by decide) (by decide) dL_law_707 dL_law_708 dL_law_709 dL_law_710 dL_law_711 ?_
  refine law_arg (k0 := 0) (k3 := 3) hx hb hXs hbl hbA hS hl rfl rfl (show 2 < 6 by decide) (by decide) dL_law_712 dL_law_713 dL_law_714 dL_law_715 dL_law_716 ?_
  refine law_arg (k0 := 0) (k3 := 3) hx hb hXs hbl hbA hS hl rfl rfl (show 3 < 6 by decide) (by decide) dL_law_717 dL_law_718 dL_law_719 dL_law_720 dL_law_721 ?_
  have hP := e_swapP hP
  have hD := e_swapD hD
  rw [← hgg] at hP
  refine law_cv (As := [.int (xs 1), .int (xs 2), .int (xs 3)]) (rest := [.int r1]) hC2 hP hD hS hA hl.1 (rX11_whose h1) cwL_84 yvX11_whose (va_recv (ci := 11) (q0 := 0) hC2.2.2.2.2.2.1 (law_left hP) rfl (wk_at tb_300)) rfl rfl (Nat.le_of_ble_eq_true rfl) (rmL (by decide) (by decide)) dL_law_722 (fun r2 w3 H locs h2 hP hD hS => ?_)
  refine lv_icmp_eq (tgt := 2075) hx hb dL_law_725 (by decide) (fun _ => hend H locs hS) (fun c_1 => absurd h2.symm c_1)
set_option maxHeartbeats 4000000 in
set_option maxRecDepth 100000 in
theorem case_made {p : Program} {l : Launch} {e : Env} {s : State} {m : MethodId} {below : List Frame} {meth : Method} {c : Code} {H : Heap} {locs : List Loc} {Q : State → Prop} {ls : Array Slot} {A : Nat → Prop} {g g2 : Gw} {w w2 : Wd} {b : Nat} {xs : Nat → Int32} (hLC : LC p s m c b xs A g g2) (hP : va_P g.1 vwCl (wsW tabX g w ++ wsW tabM g2 w2) H) (hD : va_D A (wsW tabX g w ++ wsW tabM g2 w2)) (hS : va_S A s.heap H locs) (hl : lv_has ls 4 (lvL b g g2)) (hpx : pX10_made (fun r _ => pX11_made (fun r2 _ => r2 = r) (xs 1) (xs 2) w2) (xs 1) (xs 2) w) (hend : ∀ (H : Heap) (locs : List Loc), va_S A s.heap H locs → W p l e room_1 s m #[.ref b] below meth c H locs 134 142488 Q (F0 m 2075 ls [])) : W p l e room_1 s m #[.ref b] below meth c H locs 134 142488 Q (F0 m 730 ls []) := by
  obtain ⟨hC, hC2, hgg, hXs, hbl, hbA, hA⟩ := hLC
  have hx := hC.1
  have hb := hC.2.1
  refine lv_aload_n hx hb dL_law_730 rfl (lv_at hl 1 rfl) ?_
  refine law_arg (k0 := 0) (k3 := 3) hx hb hXs hbl hbA hS hl rfl rfl (show 1 < 6 by decide) (by decide) dL_law_731 dL_law_732 dL_law_733 dL_law_734 dL_law_735 ?_
  refine law_arg (k0 := 0) (k3 := 3) hx hb hXs hbl hbA hS hl rfl rfl (show 2 < 6 by decide) (by decide) dL_law_736 dL_law_737 dL_law_738 dL_law_739 dL_law_740 ?_
  refine law_cv (As := [.int (xs 1), .int (xs 2)]) (rest := []) hC hP hD hS hA hl.1 (rX10_made hpx) cwL_85 yvX10_made (va_recv (ci := 10) (q0 := 0) hC.2.2.2.2.2.1 (law_left hP) rfl (wk_at tb_0)) rfl rfl (Nat.le_of_ble_eq_true rfl) (rmL (by decide) (by decide)) dL_law_741 (fun r1 w1 H locs h1 hP hD hS => ?_)
  refine lv_aload_n hx hb dL_law_744 rfl (lv_at hl 2 rfl) ?_
  refine law_arg (k0 := 0) (k3 := 3) hx hb hXs hbl hbA hS hl rfl rfl (show 1 < 6 by decide) (by decide) dL_law_745 dL_law_746 dL_law_747 dL_law_748 dL_law_749 ?_
  refine law_arg (k0 := 0) (k3 := 3) hx hb hXs hbl hbA hS hl rfl rfl (show 2 < 6 by decide) (by decide) dL_law_750 dL_law_751 dL_law_752 dL_law_753 dL_law_754 ?_
  have hP := e_swapP hP
  have hD := e_swapD hD
  rw [← hgg] at hP
  refine law_cv (As := [.int (xs 1), .int (xs 2)]) (rest := [.int r1]) hC2 hP hD hS hA hl.1 (rX11_made h1) cwL_88 yvX11_made (va_recv (ci := 11) (q0 := 0) hC2.2.2.2.2.2.1 (law_left hP) rfl (wk_at tb_300)) rfl rfl (Nat.le_of_ble_eq_true rfl) (rmL (by decide) (by decide)) dL_law_755 (fun r2 w3 H locs h2 hP hD hS => ?_)
  refine lv_icmp_eq (tgt := 2075) hx hb dL_law_758 (by decide) (fun _ => hend H locs hS) (fun c_1 => absurd h2.symm c_1)
set_option maxHeartbeats 4000000 in
set_option maxRecDepth 100000 in
theorem case_apart {p : Program} {l : Launch} {e : Env} {s : State} {m : MethodId} {below : List Frame} {meth : Method} {c : Code} {H : Heap} {locs : List Loc} {Q : State → Prop} {ls : Array Slot} {A : Nat → Prop} {g g2 : Gw} {w w2 : Wd} {b : Nat} {xs : Nat → Int32} (hLC : LC p s m c b xs A g g2) (hP : va_P g.1 vwCl (wsW tabX g w ++ wsW tabM g2 w2) H) (hD : va_D A (wsW tabX g w ++ wsW tabM g2 w2)) (hS : va_S A s.heap H locs) (hl : lv_has ls 4 (lvL b g g2)) (hpx : pX10_apart (fun r _ => pX11_apart (fun r2 _ => r2 = r) (xs 1) (xs 2) (bz (xs 3)) w2) (xs 1) (xs 2) (bz (xs 3)) w) (hend : ∀ (H : Heap) (locs : List Loc), va_S A s.heap H locs → W p l e room_1 s m #[.ref b] below meth c H locs 134 142488 Q (F0 m 2075 ls [])) : W p l e room_1 s m #[.ref b] below meth c H locs 134 142488 Q (F0 m 763 ls []) := by
  obtain ⟨hC, hC2, hgg, hXs, hbl, hbA, hA⟩ := hLC
  have hx := hC.1
  have hb := hC.2.1
  by_cases hz3 : xs 3 = 0
  · have hb3 : bz (xs 3) = 0 := if_pos hz3
    rw [hb3] at hpx
    refine lv_aload_n hx hb dL_law_763 rfl (lv_at hl 1 rfl) ?_
    refine law_arg (k0 := 0) (k3 := 3) hx hb hXs hbl hbA hS hl rfl rfl (show 1 < 6 by decide) (by decide) dL_law_764 dL_law_765 dL_law_766 dL_law_767 dL_law_768 ?_
    refine law_arg (k0 := 0) (k3 := 3) hx hb hXs hbl hbA hS hl rfl rfl (show 2 < 6 by decide) (by decide) dL_law_769 dL_law_770 dL_law_771 dL_law_772 dL_law_773 ?_
    refine law_arg (k0 := 0) (k3 := 3) hx hb hXs hbl hbA hS hl rfl rfl (show 3 < 6 by decide) (by decide) dL_law_774 dL_law_775 dL_law_776 dL_law_777 dL_law_778 ?_
    refine lv_if_eq (tgt := 786) hx hb dL_law_779 (by decide) (fun _ => ?_) (fun c_1 => absurd hz3 c_1)
    refine lv_iconst (v := 0) hx hb dL_law_786 (by decide) ?_
    refine law_cv (As := [.int (xs 1), .int (xs 2), .int 0]) (rest := []) hC hP hD hS hA hl.1 (rX10_apart hpx) cwL_89 yvX10_apart (va_recv (ci := 10) (q0 := 0) hC.2.2.2.2.2.1 (law_left hP) rfl (wk_at tb_0)) rfl rfl (Nat.le_of_ble_eq_true rfl) (rmL (by decide) (by decide)) dL_law_787 (fun r1 w1 H locs h1 hP hD hS => ?_)
    refine lv_aload_n hx hb dL_law_790 rfl (lv_at hl 2 rfl) ?_
    refine law_arg (k0 := 0) (k3 := 3) hx hb hXs hbl hbA hS hl rfl rfl (show 1 < 6 by decide) (by decide) dL_law_791 dL_law_792 dL_law_793 dL_law_794 dL_law_795 ?_
    refine law_arg (k0 := 0) (k3 := 3) hx hb hXs hbl hbA hS hl rfl rfl (show 2 < 6 by decide) (by decide) dL_law_796 dL_law_797 dL_law_798 dL_law_799 dL_law_800 ?_
    refine law_arg (k0 := 0) (k3 := 3) hx hb hXs hbl hbA hS hl rfl rfl (show 3 < 6 by decide) (by decide) dL_law_801 dL_law_802 dL_law_803 dL_law_804 dL_law_805 ?_
    refine lv_if_eq (tgt := 813) hx hb dL_law_806 (by decide) (fun _ => ?_) (fun c_1 => absurd hz3 c_1)
    refine lv_iconst (v := 0) hx hb dL_law_813 (by decide) ?_
    have hP := e_swapP hP
    have hD := e_swapD hD
    rw [← hgg] at hP
    refine law_cv (As := [.int (xs 1), .int (xs 2), .int 0]) (rest := [.int r1]) hC2 hP hD hS hA hl.1 (rX11_apart h1) cwL_93 yvX11_apart (va_recv (ci := 11) (q0 := 0) hC2.2.2.2.2.2.1 (law_left hP) rfl (wk_at tb_300)) rfl rfl (Nat.le_of_ble_eq_true rfl) (rmL (by decide) (by decide)) dL_law_814 (fun r2 w3 H locs h2 hP hD hS => ?_)
    refine lv_icmp_eq (tgt := 2075) hx hb dL_law_817 (by decide) (fun _ => hend H locs hS) (fun c_1 => absurd h2.symm c_1)
  · have hb3 : bz (xs 3) = 1 := if_neg hz3
    rw [hb3] at hpx
    refine lv_aload_n hx hb dL_law_763 rfl (lv_at hl 1 rfl) ?_
    refine law_arg (k0 := 0) (k3 := 3) hx hb hXs hbl hbA hS hl rfl rfl (show 1 < 6 by decide) (by decide) dL_law_764 dL_law_765 dL_law_766 dL_law_767 dL_law_768 ?_
    refine law_arg (k0 := 0) (k3 := 3) hx hb hXs hbl hbA hS hl rfl rfl (show 2 < 6 by decide) (by decide) dL_law_769 dL_law_770 dL_law_771 dL_law_772 dL_law_773 ?_
    refine law_arg (k0 := 0) (k3 := 3) hx hb hXs hbl hbA hS hl rfl rfl (show 3 < 6 by decide) (by decide) dL_law_774 dL_law_775 dL_law_776 dL_law_777 dL_law_778 ?_
    refine lv_if_eq (tgt := 786) hx hb dL_law_779 (by decide) (fun c_1 => absurd c_1 hz3) (fun _ => ?_)
    refine lv_iconst (v := 1) hx hb dL_law_782 (by decide) ?_
    refine lv_goto (tgt := 787) hx hb dL_law_783 (by decide) ?_
    refine law_cv (As := [.int (xs 1), .int (xs 2), .int 1]) (rest := []) hC hP hD hS hA hl.1 (rX10_apart hpx) cwL_89 yvX10_apart (va_recv (ci := 10) (q0 := 0) hC.2.2.2.2.2.1 (law_left hP) rfl (wk_at tb_0)) rfl rfl (Nat.le_of_ble_eq_true rfl) (rmL (by decide) (by decide)) dL_law_787 (fun r1 w1 H locs h1 hP hD hS => ?_)
    refine lv_aload_n hx hb dL_law_790 rfl (lv_at hl 2 rfl) ?_
    refine law_arg (k0 := 0) (k3 := 3) hx hb hXs hbl hbA hS hl rfl rfl (show 1 < 6 by decide) (by decide) dL_law_791 dL_law_792 dL_law_793 dL_law_794 dL_law_795 ?_
    refine law_arg (k0 := 0) (k3 := 3) hx hb hXs hbl hbA hS hl rfl rfl (show 2 < 6 by decide) (by decide) dL_law_796 dL_law_797 dL_law_798 dL_law_799 dL_law_800 ?_
    refine law_arg (k0 := 0) (k3 := 3) hx hb hXs hbl hbA hS hl rfl rfl (show 3 < 6 by decide) (by decide) dL_law_801 dL_law_802 dL_law_803 dL_law_804 dL_law_805 ?_
    refine lv_if_eq (tgt := 813) hx hb dL_law_806 (by decide) (fun c_1 => absurd c_1 hz3) (fun _ => ?_)
    refine lv_iconst (v := 1) hx hb dL_law_809 (by decide) ?_
    refine lv_goto (tgt := 814) hx hb dL_law_810 (by decide) ?_
    have hP := e_swapP hP
    have hD := e_swapD hD
    rw [← hgg] at hP
    refine law_cv (As := [.int (xs 1), .int (xs 2), .int 1]) (rest := [.int r1]) hC2 hP hD hS hA hl.1 (rX11_apart h1) cwL_93 yvX11_apart (va_recv (ci := 11) (q0 := 0) hC2.2.2.2.2.2.1 (law_left hP) rfl (wk_at tb_300)) rfl rfl (Nat.le_of_ble_eq_true rfl) (rmL (by decide) (by decide)) dL_law_814 (fun r2 w3 H locs h2 hP hD hS => ?_)
    refine lv_icmp_eq (tgt := 2075) hx hb dL_law_817 (by decide) (fun _ => hend H locs hS) (fun c_1 => absurd h2.symm c_1)
set_option maxHeartbeats 4000000 in
set_option maxRecDepth 100000 in
theorem case_heats {p : Program} {l : Launch} {e : Env} {s : State} {m : MethodId} {below : List Frame} {meth : Method} {c : Code} {H : Heap} {locs : List Loc} {Q : State → Prop} {ls : Array Slot} {A : Nat → Prop} {g g2 : Gw} {w w2 : Wd} {b : Nat} {xs : Nat → Int32} (hLC : LC p s m c b xs A g g2) (hP : va_P g.1 vwCl (wsW tabX g w ++ wsW tabM g2 w2) H) (hD : va_D A (wsW tabX g w ++ wsW tabM g2 w2)) (hS : va_S A s.heap H locs) (hl : lv_has ls 4 (lvL b g g2)) (hpx : pX10_heats (fun r _ => pX11_heats (fun r2 _ => r2 = r) (xs 1) (xs 2) (xs 3) w2) (xs 1) (xs 2) (xs 3) w) (hend : ∀ (H : Heap) (locs : List Loc), va_S A s.heap H locs → W p l e room_1 s m #[.ref b] below meth c H locs 134 142488 Q (F0 m 2075 ls [])) : W p l e room_1 s m #[.ref b] below meth c H locs 134 142488 Q (F0 m 822 ls []) := by
  obtain ⟨hC, hC2, hgg, hXs, hbl, hbA, hA⟩ := hLC
  have hx := hC.1
  have hb := hC.2.1
  refine lv_aload_n hx hb dL_law_822 rfl (lv_at hl 1 rfl) ?_
  refine law_arg (k0 := 0) (k3 := 3) hx hb hXs hbl hbA hS hl rfl rfl (show 1 < 6 by decide) (by decide) dL_law_823 dL_law_824 dL_law_825 dL_law_826 dL_law_827 ?_
  refine law_arg (k0 := 0) (k3 := 3) hx hb hXs hbl hbA hS hl rfl rfl (show 2 < 6 by decide) (by decide) dL_law_828 dL_law_829 dL_law_830 dL_law_831 dL_law_832 ?_
  refine law_arg (k0 := 0) (k3 := 3) hx hb hXs hbl hbA hS hl rfl rfl (show 3 < 6 by decide) (by decide) dL_law_833 dL_law_834 dL_law_835 dL_law_836 dL_law_837 ?_
  refine law_cv (As := [.int (xs 1), .int (xs 2), .int (xs 3)]) (rest := []) hC hP hD hS hA hl.1 (rX10_heats hpx) cwL_94 yvX10_heats (va_recv (ci := 10) (q0 := 0) hC.2.2.2.2.2.1 (law_left hP) rfl (wk_at tb_0)) rfl rfl (Nat.le_of_ble_eq_true rfl) (rmL (by decide) (by decide)) dL_law_838 (fun r1 w1 H locs h1 hP hD hS => ?_)
  refine lv_aload_n hx hb dL_law_841 rfl (lv_at hl 2 rfl) ?_
  refine law_arg (k0 := 0) (k3 := 3) hx hb hXs hbl hbA hS hl rfl rfl (show 1 < 6 by decide) (by decide) dL_law_842 dL_law_843 dL_law_844 dL_law_845 dL_law_846 ?_
  refine law_arg (k0 := 0) (k3 := 3) hx hb hXs hbl hbA hS hl rfl rfl (show 2 < 6 by decide) (by decide) dL_law_847 dL_law_848 dL_law_849 dL_law_850 dL_law_851 ?_
  refine law_arg (k0 := 0) (k3 := 3) hx hb hXs hbl hbA hS hl rfl rfl (show 3 < 6 by decide) (by decide) dL_law_852 dL_law_853 dL_law_854 dL_law_855 dL_law_856 ?_
  have hP := e_swapP hP
  have hD := e_swapD hD
  rw [← hgg] at hP
  refine law_cv (As := [.int (xs 1), .int (xs 2), .int (xs 3)]) (rest := [.int r1]) hC2 hP hD hS hA hl.1 (rX11_heats h1) cwL_97 yvX11_heats (va_recv (ci := 11) (q0 := 0) hC2.2.2.2.2.2.1 (law_left hP) rfl (wk_at tb_300)) rfl rfl (Nat.le_of_ble_eq_true rfl) (rmL (by decide) (by decide)) dL_law_857 (fun r2 w3 H locs h2 hP hD hS => ?_)
  refine lv_icmp_eq (tgt := 2075) hx hb dL_law_860 (by decide) (fun _ => hend H locs hS) (fun c_1 => absurd h2.symm c_1)
set_option maxHeartbeats 4000000 in
set_option maxRecDepth 100000 in
theorem case_luck {p : Program} {l : Launch} {e : Env} {s : State} {m : MethodId} {below : List Frame} {meth : Method} {c : Code} {H : Heap} {locs : List Loc} {Q : State → Prop} {ls : Array Slot} {A : Nat → Prop} {g g2 : Gw} {w w2 : Wd} {b : Nat} {xs : Nat → Int32} (hLC : LC p s m c b xs A g g2) (hP : va_P g.1 vwCl (wsW tabX g w ++ wsW tabM g2 w2) H) (hD : va_D A (wsW tabX g w ++ wsW tabM g2 w2)) (hS : va_S A s.heap H locs) (hl : lv_has ls 4 (lvL b g g2)) (hpx : pX10_luck (fun r _ => pX11_luck (fun r2 _ => r2 = r) (xs 1) (xs 2) (xs 3) (xs 4) w2) (xs 1) (xs 2) (xs 3) (xs 4) w) (hend : ∀ (H : Heap) (locs : List Loc), va_S A s.heap H locs → W p l e room_1 s m #[.ref b] below meth c H locs 134 142488 Q (F0 m 2075 ls [])) : W p l e room_1 s m #[.ref b] below meth c H locs 134 142488 Q (F0 m 865 ls []) := by
  obtain ⟨hC, hC2, hgg, hXs, hbl, hbA, hA⟩ := hLC
  have hx := hC.1
  have hb := hC.2.1
  refine lv_aload_n hx hb dL_law_865 rfl (lv_at hl 1 rfl) ?_
  refine law_arg (k0 := 0) (k3 := 3) hx hb hXs hbl hbA hS hl rfl rfl (show 1 < 6 by decide) (by decide) dL_law_866 dL_law_867 dL_law_868 dL_law_869 dL_law_870 ?_
  refine law_arg (k0 := 0) (k3 := 3) hx hb hXs hbl hbA hS hl rfl rfl (show 2 < 6 by decide) (by decide) dL_law_871 dL_law_872 dL_law_873 dL_law_874 dL_law_875 ?_
  refine law_arg (k0 := 0) (k3 := 3) hx hb hXs hbl hbA hS hl rfl rfl (show 3 < 6 by decide) (by decide) dL_law_876 dL_law_877 dL_law_878 dL_law_879 dL_law_880 ?_
  refine law_arg (k0 := 0) (k3 := 3) hx hb hXs hbl hbA hS hl rfl rfl (show 4 < 6 by decide) (by decide) dL_law_881 dL_law_882 dL_law_883 dL_law_884 dL_law_885 ?_
  refine law_cv (As := [.int (xs 1), .int (xs 2), .int (xs 3), .int (xs 4)]) (rest := []) hC hP hD hS hA hl.1 (rX10_luck hpx) cwL_98 yvX10_luck (va_recv (ci := 10) (q0 := 0) hC.2.2.2.2.2.1 (law_left hP) rfl (wk_at tb_0)) rfl rfl (Nat.le_of_ble_eq_true rfl) (rmL (by decide) (by decide)) dL_law_886 (fun r1 w1 H locs h1 hP hD hS => ?_)
  refine lv_aload_n hx hb dL_law_889 rfl (lv_at hl 2 rfl) ?_
  refine law_arg (k0 := 0) (k3 := 3) hx hb hXs hbl hbA hS hl rfl rfl (show 1 < 6 by decide) (by decide) dL_law_890 dL_law_891 dL_law_892 dL_law_893 dL_law_894 ?_
  refine law_arg (k0 := 0) (k3 := 3) hx hb hXs hbl hbA hS hl rfl rfl (show 2 < 6 by decide) (by decide) dL_law_895 dL_law_896 dL_law_897 dL_law_898 dL_law_899 ?_
  refine law_arg (k0 := 0) (k3 := 3) hx hb hXs hbl hbA hS hl rfl rfl (show 3 < 6 by decide) (by decide) dL_law_900 dL_law_901 dL_law_902 dL_law_903 dL_law_904 ?_
  refine law_arg (k0 := 0) (k3 := 3) hx hb hXs hbl hbA hS hl rfl rfl (show 4 < 6 by decide) (by decide) dL_law_905 dL_law_906 dL_law_907 dL_law_908 dL_law_909 ?_
  have hP := e_swapP hP
  have hD := e_swapD hD
  rw [← hgg] at hP
  refine law_cv (As := [.int (xs 1), .int (xs 2), .int (xs 3), .int (xs 4)]) (rest := [.int r1]) hC2 hP hD hS hA hl.1 (rX11_luck h1) cwL_101 yvX11_luck (va_recv (ci := 11) (q0 := 0) hC2.2.2.2.2.2.1 (law_left hP) rfl (wk_at tb_300)) rfl rfl (Nat.le_of_ble_eq_true rfl) (rmL (by decide) (by decide)) dL_law_910 (fun r2 w3 H locs h2 hP hD hS => ?_)
  refine lv_icmp_eq (tgt := 2075) hx hb dL_law_913 (by decide) (fun _ => hend H locs hS) (fun c_1 => absurd h2.symm c_1)
set_option maxHeartbeats 4000000 in
set_option maxRecDepth 100000 in
theorem case_likely {p : Program} {l : Launch} {e : Env} {s : State} {m : MethodId} {below : List Frame} {meth : Method} {c : Code} {H : Heap} {locs : List Loc} {Q : State → Prop} {ls : Array Slot} {A : Nat → Prop} {g g2 : Gw} {w w2 : Wd} {b : Nat} {xs : Nat → Int32} (hLC : LC p s m c b xs A g g2) (hP : va_P g.1 vwCl (wsW tabX g w ++ wsW tabM g2 w2) H) (hD : va_D A (wsW tabX g w ++ wsW tabM g2 w2)) (hS : va_S A s.heap H locs) (hl : lv_has ls 4 (lvL b g g2)) (hpx : pX10_likely (fun r _ => pX11_likely (fun r2 _ => r2 = r) (xs 1) (xs 2) (xs 3) (xs 4) w2) (xs 1) (xs 2) (xs 3) (xs 4) w) (hend : ∀ (H : Heap) (locs : List Loc), va_S A s.heap H locs → W p l e room_1 s m #[.ref b] below meth c H locs 134 142488 Q (F0 m 2075 ls [])) : W p l e room_1 s m #[.ref b] below meth c H locs 134 142488 Q (F0 m 918 ls []) := by
  obtain ⟨hC, hC2, hgg, hXs, hbl, hbA, hA⟩ := hLC
  have hx := hC.1
  have hb := hC.2.1
  refine lv_aload_n hx hb dL_law_918 rfl (lv_at hl 1 rfl) ?_
  refine law_arg (k0 := 0) (k3 := 3) hx hb hXs hbl hbA hS hl rfl rfl (show 1 < 6 by decide) (by decide) dL_law_919 dL_law_920 dL_law_921 dL_law_922 dL_law_923 ?_
  refine law_arg (k0 := 0) (k3 := 3) hx hb hXs hbl hbA hS hl rfl rfl (show 2 < 6 by decide) (by decide) dL_law_924 dL_law_925 dL_law_926 dL_law_927 dL_law_928 ?_
  refine law_arg (k0 := 0) (k3 := 3) hx hb hXs hbl hbA hS hl rfl rfl (show 3 < 6 by decide) (by decide) dL_law_929 dL_law_930 dL_law_931 dL_law_932 dL_law_933 ?_
  refine law_arg (k0 := 0) (k3 := 3) hx hb hXs hbl hbA hS hl rfl rfl (show 4 < 6 by decide) (by decide) dL_law_934 dL_law_935 dL_law_936 dL_law_937 dL_law_938 ?_
  refine law_cv (As := [.int (xs 1), .int (xs 2), .int (xs 3), .int (xs 4)]) (rest := []) hC hP hD hS hA hl.1 (rX10_likely hpx) cwL_102 yvX10_likely (va_recv (ci := 10) (q0 := 0) hC.2.2.2.2.2.1 (law_left hP) rfl (wk_at tb_0)) rfl rfl (Nat.le_of_ble_eq_true rfl) (rmL (by decide) (by decide)) dL_law_939 (fun r1 w1 H locs h1 hP hD hS => ?_)
  refine lv_aload_n hx hb dL_law_942 rfl (lv_at hl 2 rfl) ?_
  refine law_arg (k0 := 0) (k3 := 3) hx hb hXs hbl hbA hS hl rfl rfl (show 1 < 6 by decide) (by decide) dL_law_943 dL_law_944 dL_law_945 dL_law_946 dL_law_947 ?_
  refine law_arg (k0 := 0) (k3 := 3) hx hb hXs hbl hbA hS hl rfl rfl (show 2 < 6 by decide) (by decide) dL_law_948 dL_law_949 dL_law_950 dL_law_951 dL_law_952 ?_
  refine law_arg (k0 := 0) (k3 := 3) hx hb hXs hbl hbA hS hl rfl rfl (show 3 < 6 by decide) (by decide) dL_law_953 dL_law_954 dL_law_955 dL_law_956 dL_law_957 ?_
  refine law_arg (k0 := 0) (k3 := 3) hx hb hXs hbl hbA hS hl rfl rfl (show 4 < 6 by decide) (by decide) dL_law_958 dL_law_959 dL_law_960 dL_law_961 dL_law_962 ?_
  have hP := e_swapP hP
  have hD := e_swapD hD
  rw [← hgg] at hP
  refine law_cv (As := [.int (xs 1), .int (xs 2), .int (xs 3), .int (xs 4)]) (rest := [.int r1]) hC2 hP hD hS hA hl.1 (rX11_likely h1) cwL_105 yvX11_likely (va_recv (ci := 11) (q0 := 0) hC2.2.2.2.2.2.1 (law_left hP) rfl (wk_at tb_300)) rfl rfl (Nat.le_of_ble_eq_true rfl) (rmL (by decide) (by decide)) dL_law_963 (fun r2 w3 H locs h2 hP hD hS => ?_)
  refine lv_icmp_eq (tgt := 2075) hx hb dL_law_966 (by decide) (fun _ => hend H locs hS) (fun c_1 => absurd h2.symm c_1)
set_option maxHeartbeats 4000000 in
set_option maxRecDepth 100000 in
theorem case_fades {p : Program} {l : Launch} {e : Env} {s : State} {m : MethodId} {below : List Frame} {meth : Method} {c : Code} {H : Heap} {locs : List Loc} {Q : State → Prop} {ls : Array Slot} {A : Nat → Prop} {g g2 : Gw} {w w2 : Wd} {b : Nat} {xs : Nat → Int32} (hLC : LC p s m c b xs A g g2) (hP : va_P g.1 vwCl (wsW tabX g w ++ wsW tabM g2 w2) H) (hD : va_D A (wsW tabX g w ++ wsW tabM g2 w2)) (hS : va_S A s.heap H locs) (hl : lv_has ls 4 (lvL b g g2)) (hpx : pX10_fades (fun r _ => pX11_fades (fun r2 _ => r2 = r) (xs 1) (xs 2) (xs 3) w2) (xs 1) (xs 2) (xs 3) w) (hend : ∀ (H : Heap) (locs : List Loc), va_S A s.heap H locs → W p l e room_1 s m #[.ref b] below meth c H locs 134 142488 Q (F0 m 2075 ls [])) : W p l e room_1 s m #[.ref b] below meth c H locs 134 142488 Q (F0 m 971 ls []) := by
  obtain ⟨hC, hC2, hgg, hXs, hbl, hbA, hA⟩ := hLC
  have hx := hC.1
  have hb := hC.2.1
  refine lv_aload_n hx hb dL_law_971 rfl (lv_at hl 1 rfl) ?_
  refine law_arg (k0 := 0) (k3 := 3) hx hb hXs hbl hbA hS hl rfl rfl (show 1 < 6 by decide) (by decide) dL_law_972 dL_law_973 dL_law_974 dL_law_975 dL_law_976 ?_
  refine law_arg (k0 := 0) (k3 := 3) hx hb hXs hbl hbA hS hl rfl rfl (show 2 < 6 by decide) (by decide) dL_law_977 dL_law_978 dL_law_979 dL_law_980 dL_law_981 ?_
  refine law_arg (k0 := 0) (k3 := 3) hx hb hXs hbl hbA hS hl rfl rfl (show 3 < 6 by decide) (by decide) dL_law_982 dL_law_983 dL_law_984 dL_law_985 dL_law_986 ?_
  refine law_cv (As := [.int (xs 1), .int (xs 2), .int (xs 3)]) (rest := []) hC hP hD hS hA hl.1 (rX10_fades hpx) cwL_106 yvX10_fades (va_recv (ci := 10) (q0 := 0) hC.2.2.2.2.2.1 (law_left hP) rfl (wk_at tb_0)) rfl rfl (Nat.le_of_ble_eq_true rfl) (rmL (by decide) (by decide)) dL_law_987 (fun r1 w1 H locs h1 hP hD hS => ?_)
  refine lv_aload_n hx hb dL_law_990 rfl (lv_at hl 2 rfl) ?_
  refine law_arg (k0 := 0) (k3 := 3) hx hb hXs hbl hbA hS hl rfl rfl (show 1 < 6 by decide) (by decide) dL_law_991 dL_law_992 dL_law_993 dL_law_994 dL_law_995 ?_
  refine law_arg (k0 := 0) (k3 := 3) hx hb hXs hbl hbA hS hl rfl rfl (show 2 < 6 by decide) (by decide) dL_law_996 dL_law_997 dL_law_998 dL_law_999 dL_law_1000 ?_
  refine law_arg (k0 := 0) (k3 := 3) hx hb hXs hbl hbA hS hl rfl rfl (show 3 < 6 by decide) (by decide) dL_law_1001 dL_law_1002 dL_law_1003 dL_law_1004 dL_law_1005 ?_
  have hP := e_swapP hP
  have hD := e_swapD hD
  rw [← hgg] at hP
  refine law_cv (As := [.int (xs 1), .int (xs 2), .int (xs 3)]) (rest := [.int r1]) hC2 hP hD hS hA hl.1 (rX11_fades h1) cwL_109 yvX11_fades (va_recv (ci := 11) (q0 := 0) hC2.2.2.2.2.2.1 (law_left hP) rfl (wk_at tb_300)) rfl rfl (Nat.le_of_ble_eq_true rfl) (rmL (by decide) (by decide)) dL_law_1006 (fun r2 w3 H locs h2 hP hD hS => ?_)
  refine lv_icmp_eq (tgt := 2075) hx hb dL_law_1009 (by decide) (fun _ => hend H locs hS) (fun c_1 => absurd h2.symm c_1)
set_option maxHeartbeats 4000000 in
set_option maxRecDepth 100000 in
theorem case_kin {p : Program} {l : Launch} {e : Env} {s : State} {m : MethodId} {below : List Frame} {meth : Method} {c : Code} {H : Heap} {locs : List Loc} {Q : State → Prop} {ls : Array Slot} {A : Nat → Prop} {g g2 : Gw} {w w2 : Wd} {b : Nat} {xs : Nat → Int32} (hLC : LC p s m c b xs A g g2) (hP : va_P g.1 vwCl (wsW tabX g w ++ wsW tabM g2 w2) H) (hD : va_D A (wsW tabX g w ++ wsW tabM g2 w2)) (hS : va_S A s.heap H locs) (hl : lv_has ls 4 (lvL b g g2)) (hpx : pX10_kin (fun r _ => pX11_kin (fun r2 _ => r2 = r) (xs 1) (xs 2) (xs 3) w2) (xs 1) (xs 2) (xs 3) w) (hend : ∀ (H : Heap) (locs : List Loc), va_S A s.heap H locs → W p l e room_1 s m #[.ref b] below meth c H locs 134 142488 Q (F0 m 2075 ls [])) : W p l e room_1 s m #[.ref b] below meth c H locs 134 142488 Q (F0 m 1014 ls []) := by
  obtain ⟨hC, hC2, hgg, hXs, hbl, hbA, hA⟩ := hLC
  have hx := hC.1
  have hb := hC.2.1
  refine lv_aload_n hx hb dL_law_1014 rfl (lv_at hl 1 rfl) ?_
  refine law_arg (k0 := 0) (k3 := 3) hx hb hXs hbl hbA hS hl rfl rfl (show 1 < 6 by decide) (by decide) dL_law_1015 dL_law_1016 dL_law_1017 dL_law_1018 dL_law_1019 ?_
  refine law_arg (k0 := 0) (k3 := 3) hx hb hXs hbl hbA hS hl rfl rfl (show 2 < 6 by decide) (by decide) dL_law_1020 dL_law_1021 dL_law_1022 dL_law_1023 dL_law_1024 ?_
  refine law_arg (k0 := 0) (k3 := 3) hx hb hXs hbl hbA hS hl rfl rfl (show 3 < 6 by decide) (by decide) dL_law_1025 dL_law_1026 dL_law_1027 dL_law_1028 dL_law_1029 ?_
  refine law_cv (As := [.int (xs 1), .int (xs 2), .int (xs 3)]) (rest := []) hC hP hD hS hA hl.1 (rX10_kin hpx) cwL_110 yvX10_kin (va_recv (ci := 10) (q0 := 0) hC.2.2.2.2.2.1 (law_left hP) rfl (wk_at tb_0)) rfl rfl (Nat.le_of_ble_eq_true rfl) (rmL (by decide) (by decide)) dL_law_1030 (fun r1 w1 H locs h1 hP hD hS => ?_)
  refine lv_aload_n hx hb dL_law_1033 rfl (lv_at hl 2 rfl) ?_
  refine law_arg (k0 := 0) (k3 := 3) hx hb hXs hbl hbA hS hl rfl rfl (show 1 < 6 by decide) (by decide) dL_law_1034 dL_law_1035 dL_law_1036 dL_law_1037 dL_law_1038 ?_
  refine law_arg (k0 := 0) (k3 := 3) hx hb hXs hbl hbA hS hl rfl rfl (show 2 < 6 by decide) (by decide) dL_law_1039 dL_law_1040 dL_law_1041 dL_law_1042 dL_law_1043 ?_
  refine law_arg (k0 := 0) (k3 := 3) hx hb hXs hbl hbA hS hl rfl rfl (show 3 < 6 by decide) (by decide) dL_law_1044 dL_law_1045 dL_law_1046 dL_law_1047 dL_law_1048 ?_
  have hP := e_swapP hP
  have hD := e_swapD hD
  rw [← hgg] at hP
  refine law_cv (As := [.int (xs 1), .int (xs 2), .int (xs 3)]) (rest := [.int r1]) hC2 hP hD hS hA hl.1 (rX11_kin h1) cwL_113 yvX11_kin (va_recv (ci := 11) (q0 := 0) hC2.2.2.2.2.2.1 (law_left hP) rfl (wk_at tb_300)) rfl rfl (Nat.le_of_ble_eq_true rfl) (rmL (by decide) (by decide)) dL_law_1049 (fun r2 w3 H locs h2 hP hD hS => ?_)
  refine lv_icmp_eq (tgt := 2075) hx hb dL_law_1052 (by decide) (fun _ => hend H locs hS) (fun c_1 => absurd h2.symm c_1)
set_option maxHeartbeats 4000000 in
set_option maxRecDepth 100000 in
theorem case_thumb {p : Program} {l : Launch} {e : Env} {s : State} {m : MethodId} {below : List Frame} {meth : Method} {c : Code} {H : Heap} {locs : List Loc} {Q : State → Prop} {ls : Array Slot} {A : Nat → Prop} {g g2 : Gw} {w w2 : Wd} {b : Nat} {xs : Nat → Int32} (hLC : LC p s m c b xs A g g2) (hP : va_P g.1 vwCl (wsW tabX g w ++ wsW tabM g2 w2) H) (hD : va_D A (wsW tabX g w ++ wsW tabM g2 w2)) (hS : va_S A s.heap H locs) (hl : lv_has ls 4 (lvL b g g2)) (hpx : pX10_thumb (fun r _ => pX11_thumb (fun r2 _ => r2 = r) (xs 1) (xs 2) w2) (xs 1) (xs 2) w) (hend : ∀ (H : Heap) (locs : List Loc), va_S A s.heap H locs → W p l e room_1 s m #[.ref b] below meth c H locs 134 142488 Q (F0 m 2075 ls [])) : W p l e room_1 s m #[.ref b] below meth c H locs 134 142488 Q (F0 m 1057 ls []) := by
  obtain ⟨hC, hC2, hgg, hXs, hbl, hbA, hA⟩ := hLC
  have hx := hC.1
  have hb := hC.2.1
  refine lv_aload_n hx hb dL_law_1057 rfl (lv_at hl 1 rfl) ?_
  refine law_arg (k0 := 0) (k3 := 3) hx hb hXs hbl hbA hS hl rfl rfl (show 1 < 6 by decide) (by decide) dL_law_1058 dL_law_1059 dL_law_1060 dL_law_1061 dL_law_1062 ?_
  refine law_arg (k0 := 0) (k3 := 3) hx hb hXs hbl hbA hS hl rfl rfl (show 2 < 6 by decide) (by decide) dL_law_1063 dL_law_1064 dL_law_1065 dL_law_1066 dL_law_1067 ?_
  refine law_cv (As := [.int (xs 1), .int (xs 2)]) (rest := []) hC hP hD hS hA hl.1 (rX10_thumb hpx) cwL_114 yvX10_thumb (va_recv (ci := 10) (q0 := 0) hC.2.2.2.2.2.1 (law_left hP) rfl (wk_at tb_0)) rfl rfl (Nat.le_of_ble_eq_true rfl) (rmL (by decide) (by decide)) dL_law_1068 (fun r1 w1 H locs h1 hP hD hS => ?_)
  refine lv_aload_n hx hb dL_law_1071 rfl (lv_at hl 2 rfl) ?_
  refine law_arg (k0 := 0) (k3 := 3) hx hb hXs hbl hbA hS hl rfl rfl (show 1 < 6 by decide) (by decide) dL_law_1072 dL_law_1073 dL_law_1074 dL_law_1075 dL_law_1076 ?_
  refine law_arg (k0 := 0) (k3 := 3) hx hb hXs hbl hbA hS hl rfl rfl (show 2 < 6 by decide) (by decide) dL_law_1077 dL_law_1078 dL_law_1079 dL_law_1080 dL_law_1081 ?_
  have hP := e_swapP hP
  have hD := e_swapD hD
  rw [← hgg] at hP
  refine law_cv (As := [.int (xs 1), .int (xs 2)]) (rest := [.int r1]) hC2 hP hD hS hA hl.1 (rX11_thumb h1) cwL_117 yvX11_thumb (va_recv (ci := 11) (q0 := 0) hC2.2.2.2.2.2.1 (law_left hP) rfl (wk_at tb_300)) rfl rfl (Nat.le_of_ble_eq_true rfl) (rmL (by decide) (by decide)) dL_law_1082 (fun r2 w3 H locs h2 hP hD hS => ?_)
  refine lv_icmp_eq (tgt := 2075) hx hb dL_law_1085 (by decide) (fun _ => hend H locs hS) (fun c_1 => absurd h2.symm c_1)
set_option maxHeartbeats 4000000 in
set_option maxRecDepth 100000 in
theorem case_share {p : Program} {l : Launch} {e : Env} {s : State} {m : MethodId} {below : List Frame} {meth : Method} {c : Code} {H : Heap} {locs : List Loc} {Q : State → Prop} {ls : Array Slot} {A : Nat → Prop} {g g2 : Gw} {w w2 : Wd} {b : Nat} {xs : Nat → Int32} (hLC : LC p s m c b xs A g g2) (hP : va_P g.1 vwCl (wsW tabX g w ++ wsW tabM g2 w2) H) (hD : va_D A (wsW tabX g w ++ wsW tabM g2 w2)) (hS : va_S A s.heap H locs) (hl : lv_has ls 4 (lvL b g g2)) (hpx : pX10_share (fun r _ => pX11_share (fun r2 _ => r2 = r) (xs 1) (xs 2) (xs 3) w2) (xs 1) (xs 2) (xs 3) w) (hend : ∀ (H : Heap) (locs : List Loc), va_S A s.heap H locs → W p l e room_1 s m #[.ref b] below meth c H locs 134 142488 Q (F0 m 2075 ls [])) : W p l e room_1 s m #[.ref b] below meth c H locs 134 142488 Q (F0 m 1090 ls []) := by
  obtain ⟨hC, hC2, hgg, hXs, hbl, hbA, hA⟩ := hLC
  have hx := hC.1
  have hb := hC.2.1
  refine lv_aload_n hx hb dL_law_1090 rfl (lv_at hl 1 rfl) ?_
  refine law_arg (k0 := 0) (k3 := 3) hx hb hXs hbl hbA hS hl rfl rfl (show 1 < 6 by decide) (by decide) dL_law_1091 dL_law_1092 dL_law_1093 dL_law_1094 dL_law_1095 ?_
  refine law_arg (k0 := 0) (k3 := 3) hx hb hXs hbl hbA hS hl rfl rfl (show 2 < 6 by decide) (by decide) dL_law_1096 dL_law_1097 dL_law_1098 dL_law_1099 dL_law_1100 ?_
  refine law_arg (k0 := 0) (k3 := 3) hx hb hXs hbl hbA hS hl rfl rfl (show 3 < 6 by decide) (by decide) dL_law_1101 dL_law_1102 dL_law_1103 dL_law_1104 dL_law_1105 ?_
  refine law_cv (As := [.int (xs 1), .int (xs 2), .int (xs 3)]) (rest := []) hC hP hD hS hA hl.1 (rX10_share hpx) cwL_118 yvX10_share (va_recv (ci := 10) (q0 := 0) hC.2.2.2.2.2.1 (law_left hP) rfl (wk_at tb_0)) rfl rfl (Nat.le_of_ble_eq_true rfl) (rmL (by decide) (by decide)) dL_law_1106 (fun r1 w1 H locs h1 hP hD hS => ?_)
  refine lv_aload_n hx hb dL_law_1109 rfl (lv_at hl 2 rfl) ?_
  refine law_arg (k0 := 0) (k3 := 3) hx hb hXs hbl hbA hS hl rfl rfl (show 1 < 6 by decide) (by decide) dL_law_1110 dL_law_1111 dL_law_1112 dL_law_1113 dL_law_1114 ?_
  refine law_arg (k0 := 0) (k3 := 3) hx hb hXs hbl hbA hS hl rfl rfl (show 2 < 6 by decide) (by decide) dL_law_1115 dL_law_1116 dL_law_1117 dL_law_1118 dL_law_1119 ?_
  refine law_arg (k0 := 0) (k3 := 3) hx hb hXs hbl hbA hS hl rfl rfl (show 3 < 6 by decide) (by decide) dL_law_1120 dL_law_1121 dL_law_1122 dL_law_1123 dL_law_1124 ?_
  have hP := e_swapP hP
  have hD := e_swapD hD
  rw [← hgg] at hP
  refine law_cv (As := [.int (xs 1), .int (xs 2), .int (xs 3)]) (rest := [.int r1]) hC2 hP hD hS hA hl.1 (rX11_share h1) cwL_121 yvX11_share (va_recv (ci := 11) (q0 := 0) hC2.2.2.2.2.2.1 (law_left hP) rfl (wk_at tb_300)) rfl rfl (Nat.le_of_ble_eq_true rfl) (rmL (by decide) (by decide)) dL_law_1125 (fun r2 w3 H locs h2 hP hD hS => ?_)
  refine lv_icmp_eq (tgt := 2075) hx hb dL_law_1128 (by decide) (fun _ => hend H locs hS) (fun c_1 => absurd h2.symm c_1)
set_option maxHeartbeats 4000000 in
set_option maxRecDepth 100000 in
theorem case_forge {p : Program} {l : Launch} {e : Env} {s : State} {m : MethodId} {below : List Frame} {meth : Method} {c : Code} {H : Heap} {locs : List Loc} {Q : State → Prop} {ls : Array Slot} {A : Nat → Prop} {g g2 : Gw} {w w2 : Wd} {b : Nat} {xs : Nat → Int32} (hLC : LC p s m c b xs A g g2) (hP : va_P g.1 vwCl (wsW tabX g w ++ wsW tabM g2 w2) H) (hD : va_D A (wsW tabX g w ++ wsW tabM g2 w2)) (hS : va_S A s.heap H locs) (hl : lv_has ls 4 (lvL b g g2)) (hpx : pX10_forge (fun r _ => pX11_forge (fun r2 _ => r2 = r) (xs 1) (xs 2) (xs 3) (xs 4) (xs 5) w2) (xs 1) (xs 2) (xs 3) (xs 4) (xs 5) w) (hend : ∀ (H : Heap) (locs : List Loc), va_S A s.heap H locs → W p l e room_1 s m #[.ref b] below meth c H locs 134 142488 Q (F0 m 2075 ls [])) : W p l e room_1 s m #[.ref b] below meth c H locs 134 142488 Q (F0 m 1133 ls []) := by
  obtain ⟨hC, hC2, hgg, hXs, hbl, hbA, hA⟩ := hLC
  have hx := hC.1
  have hb := hC.2.1
  refine lv_aload_n hx hb dL_law_1133 rfl (lv_at hl 1 rfl) ?_
  refine law_arg (k0 := 0) (k3 := 3) hx hb hXs hbl hbA hS hl rfl rfl (show 1 < 6 by decide) (by decide) dL_law_1134 dL_law_1135 dL_law_1136 dL_law_1137 dL_law_1138 ?_
  refine law_arg (k0 := 0) (k3 := 3) hx hb hXs hbl hbA hS hl rfl rfl (show 2 < 6 by decide) (by decide) dL_law_1139 dL_law_1140 dL_law_1141 dL_law_1142 dL_law_1143 ?_
  refine law_arg (k0 := 0) (k3 := 3) hx hb hXs hbl hbA hS hl rfl rfl (show 3 < 6 by decide) (by decide) dL_law_1144 dL_law_1145 dL_law_1146 dL_law_1147 dL_law_1148 ?_
  refine law_arg (k0 := 0) (k3 := 3) hx hb hXs hbl hbA hS hl rfl rfl (show 4 < 6 by decide) (by decide) dL_law_1149 dL_law_1150 dL_law_1151 dL_law_1152 dL_law_1153 ?_
  refine law_arg (k0 := 0) (k3 := 3) hx hb hXs hbl hbA hS hl rfl rfl (show 5 < 6 by decide) (by decide) dL_law_1154 dL_law_1155 dL_law_1156 dL_law_1157 dL_law_1158 ?_
  refine law_cv (As := [.int (xs 1), .int (xs 2), .int (xs 3), .int (xs 4), .int (xs 5)]) (rest := []) hC hP hD hS hA hl.1 (rX10_forge hpx) cwL_122 yvX10_forge (va_recv (ci := 10) (q0 := 0) hC.2.2.2.2.2.1 (law_left hP) rfl (wk_at tb_0)) rfl rfl (Nat.le_of_ble_eq_true rfl) (rmL (by decide) (by decide)) dL_law_1159 (fun r1 w1 H locs h1 hP hD hS => ?_)
  refine lv_aload_n hx hb dL_law_1162 rfl (lv_at hl 2 rfl) ?_
  refine law_arg (k0 := 0) (k3 := 3) hx hb hXs hbl hbA hS hl rfl rfl (show 1 < 6 by decide) (by decide) dL_law_1163 dL_law_1164 dL_law_1165 dL_law_1166 dL_law_1167 ?_
  refine law_arg (k0 := 0) (k3 := 3) hx hb hXs hbl hbA hS hl rfl rfl (show 2 < 6 by decide) (by decide) dL_law_1168 dL_law_1169 dL_law_1170 dL_law_1171 dL_law_1172 ?_
  refine law_arg (k0 := 0) (k3 := 3) hx hb hXs hbl hbA hS hl rfl rfl (show 3 < 6 by decide) (by decide) dL_law_1173 dL_law_1174 dL_law_1175 dL_law_1176 dL_law_1177 ?_
  refine law_arg (k0 := 0) (k3 := 3) hx hb hXs hbl hbA hS hl rfl rfl (show 4 < 6 by decide) (by decide) dL_law_1178 dL_law_1179 dL_law_1180 dL_law_1181 dL_law_1182 ?_
  refine law_arg (k0 := 0) (k3 := 3) hx hb hXs hbl hbA hS hl rfl rfl (show 5 < 6 by decide) (by decide) dL_law_1183 dL_law_1184 dL_law_1185 dL_law_1186 dL_law_1187 ?_
  have hP := e_swapP hP
  have hD := e_swapD hD
  rw [← hgg] at hP
  refine law_cv (As := [.int (xs 1), .int (xs 2), .int (xs 3), .int (xs 4), .int (xs 5)]) (rest := [.int r1]) hC2 hP hD hS hA hl.1 (rX11_forge h1) cwL_125 yvX11_forge (va_recv (ci := 11) (q0 := 0) hC2.2.2.2.2.2.1 (law_left hP) rfl (wk_at tb_300)) rfl rfl (Nat.le_of_ble_eq_true rfl) (rmL (by decide) (by decide)) dL_law_1188 (fun r2 w3 H locs h2 hP hD hS => ?_)
  refine lv_icmp_eq (tgt := 2075) hx hb dL_law_1191 (by decide) (fun _ => hend H locs hS) (fun c_1 => absurd h2.symm c_1)
