set_option maxHeartbeats 4000000 in
set_option maxRecDepth 100000 in
theorem case4_feed {p : Program} {l : Launch} {e : Env} {s : State} {m : MethodId} {below : List Frame} {meth : Method} {c : Code} {H : Heap} {locs : List Loc} {Q : State → Prop} {ls : Array Slot} {A : Nat → Prop} {g g2 : Gw} {w w2 : Wd} {b L i : Nat} {xs : Nat → Int32} {JX JM : Wd → Prop} (hLC : LC4 p s m c b L xs A g g2) (hi : i + 6 ≤ L) (hP : va_P g.1 vwCl (wsW tabX g w ++ wsW tabM g2 w2) H) (hD : va_D A (wsW tabX g w ++ wsW tabM g2 w2)) (hS : va_S A s.heap H locs) (hl : lv_has ls 4 (lvL4 b i g g2)) (hpx : pX10_feed (fun _ w1 => JX w1) (xs (i + 1)) (xs (i + 2)) (xs (i + 3)) (xs (i + 4)) (xs (i + 5)) w) (hpm : pX11_feed (fun _ w1 => JM w1) (xs (i + 1)) (xs (i + 2)) (xs (i + 3)) (xs (i + 4)) (xs (i + 5)) w2) (hend : ∀ (w1 w3 : Wd) (H : Heap) (locs : List Loc), JX w1 → JM w3 → va_P g.1 vwCl (wsW tabX g w1 ++ wsW tabM g2 w3) H → va_D A (wsW tabX g w1 ++ wsW tabM g2 w3) → va_S A s.heap H locs → W p l e room_1 s m #[.ref b] below meth c H locs 134 142488 Q (F0 m 2075 ls [])) : W p l e room_1 s m #[.ref b] below meth c H locs 134 142488 Q (F0 m 252 ls []) := by
  obtain ⟨hC, hC2, hgg, hXs, hbl, hbA, hA, hL⟩ := hLC
  have hx := hC.1
  have hb := hC.2.1
  refine lv_aload_n hx hb dL_law_252 rfl (lv_at hl 1 rfl) ?_
  refine law4_arg (k0 := 0) (k3 := 3) (i := i) (j := 1) hx hb hXs hbl hbA hS hL hl rfl rfl (by omega) (by decide) dL_law_253 dL_law_254 dL_law_255 dL_law_256 dL_law_257 ?_
  refine law4_arg (k0 := 0) (k3 := 3) (i := i) (j := 2) hx hb hXs hbl hbA hS hL hl rfl rfl (by omega) (by decide) dL_law_258 dL_law_259 dL_law_260 dL_law_261 dL_law_262 ?_
  refine law4_arg (k0 := 0) (k3 := 3) (i := i) (j := 3) hx hb hXs hbl hbA hS hL hl rfl rfl (by omega) (by decide) dL_law_263 dL_law_264 dL_law_265 dL_law_266 dL_law_267 ?_
  refine law4_arg (k0 := 0) (k3 := 3) (i := i) (j := 4) hx hb hXs hbl hbA hS hL hl rfl rfl (by omega) (by decide) dL_law_268 dL_law_269 dL_law_270 dL_law_271 dL_law_272 ?_
  refine law4_arg (k0 := 0) (k3 := 3) (i := i) (j := 5) hx hb hXs hbl hbA hS hL hl rfl rfl (by omega) (by decide) dL_law_273 dL_law_274 dL_law_275 dL_law_276 dL_law_277 ?_
  refine law_cv (As := [.int (xs (i + 1)), .int (xs (i + 2)), .int (xs (i + 3)), .int (xs (i + 4)), .int (xs (i + 5))]) (rest := []) hC hP hD hS hA hl.1 (rX10_feed hpx) cwL_13 yvX10_feed (va_recv (ci := 10) (q0 := 0) hC.2.2.2.2.2.1 (law_left hP) rfl (wk_at tb_0)) rfl rfl (Nat.le_of_ble_eq_true rfl) (rmL4 (by decide) (by decide)) dL_law_278 (fun r1 w1 H locs h1 hP hD hS => ?_)
  refine lv_pop hx hb dL_law_281 rfl ?_
  refine lv_aload_n hx hb dL_law_282 rfl (lv_at hl 2 rfl) ?_
  refine law4_arg (k0 := 0) (k3 := 3) (i := i) (j := 1) hx hb hXs hbl hbA hS hL hl rfl rfl (by omega) (by decide) dL_law_283 dL_law_284 dL_law_285 dL_law_286 dL_law_287 ?_
  refine law4_arg (k0 := 0) (k3 := 3) (i := i) (j := 2) hx hb hXs hbl hbA hS hL hl rfl rfl (by omega) (by decide) dL_law_288 dL_law_289 dL_law_290 dL_law_291 dL_law_292 ?_
  refine law4_arg (k0 := 0) (k3 := 3) (i := i) (j := 3) hx hb hXs hbl hbA hS hL hl rfl rfl (by omega) (by decide) dL_law_293 dL_law_294 dL_law_295 dL_law_296 dL_law_297 ?_
  refine law4_arg (k0 := 0) (k3 := 3) (i := i) (j := 4) hx hb hXs hbl hbA hS hL hl rfl rfl (by omega) (by decide) dL_law_298 dL_law_299 dL_law_300 dL_law_301 dL_law_302 ?_
  refine law4_arg (k0 := 0) (k3 := 3) (i := i) (j := 5) hx hb hXs hbl hbA hS hL hl rfl rfl (by omega) (by decide) dL_law_303 dL_law_304 dL_law_305 dL_law_306 dL_law_307 ?_
  have hP := e_swapP hP
  have hD := e_swapD hD
  rw [← hgg] at hP
  refine law_cv (As := [.int (xs (i + 1)), .int (xs (i + 2)), .int (xs (i + 3)), .int (xs (i + 4)), .int (xs (i + 5))]) (rest := []) hC2 hP hD hS hA hl.1 (rX11_feed hpm) cwL_17 yvX11_feed (va_recv (ci := 11) (q0 := 0) hC2.2.2.2.2.2.1 (law_left hP) rfl (wk_at tb_300)) rfl rfl (Nat.le_of_ble_eq_true rfl) (rmL4 (by decide) (by decide)) dL_law_308 (fun r2 w3 H locs h2 hP hD hS => ?_)
  have hP := e_swapP hP
  have hD := e_swapD hD
  rw [hgg] at hP
  refine lv_pop hx hb dL_law_311 rfl ?_
  refine lv_goto (tgt := 2075) hx hb dL_law_312 (by decide) ?_
  exact hend w1 w3 H locs h1 h2 hP hD hS
set_option maxHeartbeats 4000000 in
set_option maxRecDepth 100000 in
theorem case4_end {p : Program} {l : Launch} {e : Env} {s : State} {m : MethodId} {below : List Frame} {meth : Method} {c : Code} {H : Heap} {locs : List Loc} {Q : State → Prop} {ls : Array Slot} {A : Nat → Prop} {g g2 : Gw} {w w2 : Wd} {b L i : Nat} {xs : Nat → Int32} {JX JM : Wd → Prop} (hLC : LC4 p s m c b L xs A g g2) (hi : i + 6 ≤ L) (hP : va_P g.1 vwCl (wsW tabX g w ++ wsW tabM g2 w2) H) (hD : va_D A (wsW tabX g w ++ wsW tabM g2 w2)) (hS : va_S A s.heap H locs) (hl : lv_has ls 4 (lvL4 b i g g2)) (hpx : pX10_end (fun _ w1 => JX w1) (xs (i + 1)) w) (hpm : pX11_end (fun _ w1 => JM w1) (xs (i + 1)) w2) (hend : ∀ (w1 w3 : Wd) (H : Heap) (locs : List Loc), JX w1 → JM w3 → va_P g.1 vwCl (wsW tabX g w1 ++ wsW tabM g2 w3) H → va_D A (wsW tabX g w1 ++ wsW tabM g2 w3) → va_S A s.heap H locs → W p l e room_1 s m #[.ref b] below meth c H locs 134 142488 Q (F0 m 2075 ls [])) : W p l e room_1 s m #[.ref b] below meth c H locs 134 142488 Q (F0 m 315 ls []) := by
  obtain ⟨hC, hC2, hgg, hXs, hbl, hbA, hA, hL⟩ := hLC
  have hx := hC.1
  have hb := hC.2.1
  refine lv_aload_n hx hb dL_law_315 rfl (lv_at hl 1 rfl) ?_
  refine law4_arg (k0 := 0) (k3 := 3) (i := i) (j := 1) hx hb hXs hbl hbA hS hL hl rfl rfl (by omega) (by decide) dL_law_316 dL_law_317 dL_law_318 dL_law_319 dL_law_320 ?_
  refine law_cv (As := [.int (xs (i + 1))]) (rest := []) hC hP hD hS hA hl.1 (rX10_end hpx) cwL_18 yvX10_end (va_recv (ci := 10) (q0 := 0) hC.2.2.2.2.2.1 (law_left hP) rfl (wk_at tb_0)) rfl rfl (Nat.le_of_ble_eq_true rfl) (rmL4 (by decide) (by decide)) dL_law_321 (fun r1 w1 H locs h1 hP hD hS => ?_)
  refine lv_pop hx hb dL_law_324 rfl ?_
  refine lv_aload_n hx hb dL_law_325 rfl (lv_at hl 2 rfl) ?_
  refine law4_arg (k0 := 0) (k3 := 3) (i := i) (j := 1) hx hb hXs hbl hbA hS hL hl rfl rfl (by omega) (by decide) dL_law_326 dL_law_327 dL_law_328 dL_law_329 dL_law_330 ?_
  have hP := e_swapP hP
  have hD := e_swapD hD
  rw [← hgg] at hP
  refine law_cv (As := [.int (xs (i + 1))]) (rest := []) hC2 hP hD hS hA hl.1 (rX11_end hpm) cwL_22 yvX11_end (va_recv (ci := 11) (q0 := 0) hC2.2.2.2.2.2.1 (law_left hP) rfl (wk_at tb_300)) rfl rfl (Nat.le_of_ble_eq_true rfl) (rmL4 (by decide) (by decide)) dL_law_331 (fun r2 w3 H locs h2 hP hD hS => ?_)
  have hP := e_swapP hP
  have hD := e_swapD hD
  rw [hgg] at hP
  refine lv_pop hx hb dL_law_334 rfl ?_
  refine lv_goto (tgt := 2075) hx hb dL_law_335 (by decide) ?_
  exact hend w1 w3 H locs h1 h2 hP hD hS
set_option maxHeartbeats 4000000 in
set_option maxRecDepth 100000 in
theorem case4_chancery {p : Program} {l : Launch} {e : Env} {s : State} {m : MethodId} {below : List Frame} {meth : Method} {c : Code} {H : Heap} {locs : List Loc} {Q : State → Prop} {ls : Array Slot} {A : Nat → Prop} {g g2 : Gw} {w w2 : Wd} {b L i : Nat} {xs : Nat → Int32} {JX JM : Wd → Prop} (hLC : LC4 p s m c b L xs A g g2) (hi : i + 6 ≤ L) (hP : va_P g.1 vwCl (wsW tabX g w ++ wsW tabM g2 w2) H) (hD : va_D A (wsW tabX g w ++ wsW tabM g2 w2)) (hS : va_S A s.heap H locs) (hl : lv_has ls 4 (lvL4 b i g g2)) (hpx : pX10_chancery (fun _ w1 => JX w1)  w) (hpm : pX11_chancery (fun _ w1 => JM w1)  w2) (hend : ∀ (w1 w3 : Wd) (H : Heap) (locs : List Loc), JX w1 → JM w3 → va_P g.1 vwCl (wsW tabX g w1 ++ wsW tabM g2 w3) H → va_D A (wsW tabX g w1 ++ wsW tabM g2 w3) → va_S A s.heap H locs → W p l e room_1 s m #[.ref b] below meth c H locs 134 142488 Q (F0 m 2075 ls [])) : W p l e room_1 s m #[.ref b] below meth c H locs 134 142488 Q (F0 m 338 ls []) := by
  obtain ⟨hC, hC2, hgg, hXs, hbl, hbA, hA, hL⟩ := hLC
  have hx := hC.1
  have hb := hC.2.1
  refine lv_aload_n hx hb dL_law_338 rfl (lv_at hl 1 rfl) ?_
  refine law_cv (As := []) (rest := []) hC hP hD hS hA hl.1 (rX10_chancery hpx) cwL_23 yvX10_chancery (va_recv (ci := 10) (q0 := 0) hC.2.2.2.2.2.1 (law_left hP) rfl (wk_at tb_0)) rfl rfl (Nat.le_of_ble_eq_true rfl) (rmL4 (by decide) (by decide)) dL_law_339 (fun r1 w1 H locs h1 hP hD hS => ?_)
  refine lv_pop hx hb dL_law_342 rfl ?_
  refine lv_aload_n hx hb dL_law_343 rfl (lv_at hl 2 rfl) ?_
  have hP := e_swapP hP
  have hD := e_swapD hD
  rw [← hgg] at hP
  refine law_cv (As := []) (rest := []) hC2 hP hD hS hA hl.1 (rX11_chancery hpm) cwL_27 yvX11_chancery (va_recv (ci := 11) (q0 := 0) hC2.2.2.2.2.2.1 (law_left hP) rfl (wk_at tb_300)) rfl rfl (Nat.le_of_ble_eq_true rfl) (rmL4 (by decide) (by decide)) dL_law_344 (fun r2 w3 H locs h2 hP hD hS => ?_)
  have hP := e_swapP hP
  have hD := e_swapD hD
  rw [hgg] at hP
  refine lv_pop hx hb dL_law_347 rfl ?_
  refine lv_goto (tgt := 2075) hx hb dL_law_348 (by decide) ?_
  exact hend w1 w3 H locs h1 h2 hP hD hS
set_option maxHeartbeats 4000000 in
set_option maxRecDepth 100000 in
theorem case4_fault {p : Program} {l : Launch} {e : Env} {s : State} {m : MethodId} {below : List Frame} {meth : Method} {c : Code} {H : Heap} {locs : List Loc} {Q : State → Prop} {ls : Array Slot} {A : Nat → Prop} {g g2 : Gw} {w w2 : Wd} {b L i : Nat} {xs : Nat → Int32} {JX JM : Wd → Prop} (hLC : LC4 p s m c b L xs A g g2) (hi : i + 6 ≤ L) (hP : va_P g.1 vwCl (wsW tabX g w ++ wsW tabM g2 w2) H) (hD : va_D A (wsW tabX g w ++ wsW tabM g2 w2)) (hS : va_S A s.heap H locs) (hl : lv_has ls 4 (lvL4 b i g g2)) (hpx : pX10_fault (fun _ w1 => JX w1) (xs (i + 1)) w) (hpm : pX11_fault (fun _ w1 => JM w1) (xs (i + 1)) w2) (hend : ∀ (w1 w3 : Wd) (H : Heap) (locs : List Loc), JX w1 → JM w3 → va_P g.1 vwCl (wsW tabX g w1 ++ wsW tabM g2 w3) H → va_D A (wsW tabX g w1 ++ wsW tabM g2 w3) → va_S A s.heap H locs → W p l e room_1 s m #[.ref b] below meth c H locs 134 142488 Q (F0 m 2075 ls [])) : W p l e room_1 s m #[.ref b] below meth c H locs 134 142488 Q (F0 m 351 ls []) := by
  obtain ⟨hC, hC2, hgg, hXs, hbl, hbA, hA, hL⟩ := hLC
  have hx := hC.1
  have hb := hC.2.1
  refine lv_aload_n hx hb dL_law_351 rfl (lv_at hl 1 rfl) ?_
  refine law4_arg (k0 := 0) (k3 := 3) (i := i) (j := 1) hx hb hXs hbl hbA hS hL hl rfl rfl (by omega) (by decide) dL_law_352 dL_law_353 dL_law_354 dL_law_355 dL_law_356 ?_
  refine law_cv (As := [.int (xs (i + 1))]) (rest := []) hC hP hD hS hA hl.1 (rX10_fault hpx) cwL_28 yvX10_fault (va_recv (ci := 10) (q0 := 0) hC.2.2.2.2.2.1 (law_left hP) rfl (wk_at tb_0)) rfl rfl (Nat.le_of_ble_eq_true rfl) (rmL4 (by decide) (by decide)) dL_law_357 (fun r1 w1 H locs h1 hP hD hS => ?_)
  refine lv_pop hx hb dL_law_360 rfl ?_
  refine lv_aload_n hx hb dL_law_361 rfl (lv_at hl 2 rfl) ?_
  refine law4_arg (k0 := 0) (k3 := 3) (i := i) (j := 1) hx hb hXs hbl hbA hS hL hl rfl rfl (by omega) (by decide) dL_law_362 dL_law_363 dL_law_364 dL_law_365 dL_law_366 ?_
  have hP := e_swapP hP
  have hD := e_swapD hD
  rw [← hgg] at hP
  refine law_cv (As := [.int (xs (i + 1))]) (rest := []) hC2 hP hD hS hA hl.1 (rX11_fault hpm) cwL_31 yvX11_fault (va_recv (ci := 11) (q0 := 0) hC2.2.2.2.2.2.1 (law_left hP) rfl (wk_at tb_300)) rfl rfl (Nat.le_of_ble_eq_true rfl) (rmL4 (by decide) (by decide)) dL_law_367 (fun r2 w3 H locs h2 hP hD hS => ?_)
  have hP := e_swapP hP
  have hD := e_swapD hD
  rw [hgg] at hP
  refine lv_pop hx hb dL_law_370 rfl ?_
  refine lv_goto (tgt := 2075) hx hb dL_law_371 (by decide) ?_
  exact hend w1 w3 H locs h1 h2 hP hD hS
set_option maxHeartbeats 4000000 in
set_option maxRecDepth 100000 in
theorem case4_seal {p : Program} {l : Launch} {e : Env} {s : State} {m : MethodId} {below : List Frame} {meth : Method} {c : Code} {H : Heap} {locs : List Loc} {Q : State → Prop} {ls : Array Slot} {A : Nat → Prop} {g g2 : Gw} {w w2 : Wd} {b L i : Nat} {xs : Nat → Int32} {JX JM : Wd → Prop} (hLC : LC4 p s m c b L xs A g g2) (hi : i + 6 ≤ L) (hP : va_P g.1 vwCl (wsW tabX g w ++ wsW tabM g2 w2) H) (hD : va_D A (wsW tabX g w ++ wsW tabM g2 w2)) (hS : va_S A s.heap H locs) (hl : lv_has ls 4 (lvL4 b i g g2)) (hpx : pX10_seal (fun _ w1 => JX w1) (xs (i + 1)) (xs (i + 2)) w) (hpm : pX11_seal (fun _ w1 => JM w1) (xs (i + 1)) (xs (i + 2)) w2) (hend : ∀ (w1 w3 : Wd) (H : Heap) (locs : List Loc), JX w1 → JM w3 → va_P g.1 vwCl (wsW tabX g w1 ++ wsW tabM g2 w3) H → va_D A (wsW tabX g w1 ++ wsW tabM g2 w3) → va_S A s.heap H locs → W p l e room_1 s m #[.ref b] below meth c H locs 134 142488 Q (F0 m 2075 ls [])) : W p l e room_1 s m #[.ref b] below meth c H locs 134 142488 Q (F0 m 374 ls []) := by
  obtain ⟨hC, hC2, hgg, hXs, hbl, hbA, hA, hL⟩ := hLC
  have hx := hC.1
  have hb := hC.2.1
  refine lv_aload_n hx hb dL_law_374 rfl (lv_at hl 1 rfl) ?_
  refine law4_arg (k0 := 0) (k3 := 3) (i := i) (j := 1) hx hb hXs hbl hbA hS hL hl rfl rfl (by omega) (by decide) dL_law_375 dL_law_376 dL_law_377 dL_law_378 dL_law_379 ?_
  refine law4_arg (k0 := 0) (k3 := 3) (i := i) (j := 2) hx hb hXs hbl hbA hS hL hl rfl rfl (by omega) (by decide) dL_law_380 dL_law_381 dL_law_382 dL_law_383 dL_law_384 ?_
  refine law_cv (As := [.int (xs (i + 1)), .int (xs (i + 2))]) (rest := []) hC hP hD hS hA hl.1 (rX10_seal hpx) cwL_32 yvX10_seal (va_recv (ci := 10) (q0 := 0) hC.2.2.2.2.2.1 (law_left hP) rfl (wk_at tb_0)) rfl rfl (Nat.le_of_ble_eq_true rfl) (rmL4 (by decide) (by decide)) dL_law_385 (fun r1 w1 H locs h1 hP hD hS => ?_)
  refine lv_pop hx hb dL_law_388 rfl ?_
  refine lv_aload_n hx hb dL_law_389 rfl (lv_at hl 2 rfl) ?_
  refine law4_arg (k0 := 0) (k3 := 3) (i := i) (j := 1) hx hb hXs hbl hbA hS hL hl rfl rfl (by omega) (by decide) dL_law_390 dL_law_391 dL_law_392 dL_law_393 dL_law_394 ?_
  refine law4_arg (k0 := 0) (k3 := 3) (i := i) (j := 2) hx hb hXs hbl hbA hS hL hl rfl rfl (by omega) (by decide) dL_law_395 dL_law_396 dL_law_397 dL_law_398 dL_law_399 ?_
  have hP := e_swapP hP
  have hD := e_swapD hD
  rw [← hgg] at hP
  refine law_cv (As := [.int (xs (i + 1)), .int (xs (i + 2))]) (rest := []) hC2 hP hD hS hA hl.1 (rX11_seal hpm) cwL_36 yvX11_seal (va_recv (ci := 11) (q0 := 0) hC2.2.2.2.2.2.1 (law_left hP) rfl (wk_at tb_300)) rfl rfl (Nat.le_of_ble_eq_true rfl) (rmL4 (by decide) (by decide)) dL_law_400 (fun r2 w3 H locs h2 hP hD hS => ?_)
  have hP := e_swapP hP
  have hD := e_swapD hD
  rw [hgg] at hP
  refine lv_pop hx hb dL_law_403 rfl ?_
  refine lv_goto (tgt := 2075) hx hb dL_law_404 (by decide) ?_
  exact hend w1 w3 H locs h1 h2 hP hD hS
set_option maxHeartbeats 4000000 in
set_option maxRecDepth 100000 in
theorem case4_shown {p : Program} {l : Launch} {e : Env} {s : State} {m : MethodId} {below : List Frame} {meth : Method} {c : Code} {H : Heap} {locs : List Loc} {Q : State → Prop} {ls : Array Slot} {A : Nat → Prop} {g g2 : Gw} {w w2 : Wd} {b L i : Nat} {xs : Nat → Int32} {JX JM : Wd → Prop} (hLC : LC4 p s m c b L xs A g g2) (hi : i + 6 ≤ L) (hP : va_P g.1 vwCl (wsW tabX g w ++ wsW tabM g2 w2) H) (hD : va_D A (wsW tabX g w ++ wsW tabM g2 w2)) (hS : va_S A s.heap H locs) (hl : lv_has ls 4 (lvL4 b i g g2)) (hpx : pX10_shown (fun _ w1 => JX w1) (xs (i + 1)) (xs (i + 2)) w) (hpm : pX11_shown (fun _ w1 => JM w1) (xs (i + 1)) (xs (i + 2)) w2) (hend : ∀ (w1 w3 : Wd) (H : Heap) (locs : List Loc), JX w1 → JM w3 → va_P g.1 vwCl (wsW tabX g w1 ++ wsW tabM g2 w3) H → va_D A (wsW tabX g w1 ++ wsW tabM g2 w3) → va_S A s.heap H locs → W p l e room_1 s m #[.ref b] below meth c H locs 134 142488 Q (F0 m 2075 ls [])) : W p l e room_1 s m #[.ref b] below meth c H locs 134 142488 Q (F0 m 407 ls []) := by
  obtain ⟨hC, hC2, hgg, hXs, hbl, hbA, hA, hL⟩ := hLC
  have hx := hC.1
  have hb := hC.2.1
  refine lv_aload_n hx hb dL_law_407 rfl (lv_at hl 1 rfl) ?_
  refine law4_arg (k0 := 0) (k3 := 3) (i := i) (j := 1) hx hb hXs hbl hbA hS hL hl rfl rfl (by omega) (by decide) dL_law_408 dL_law_409 dL_law_410 dL_law_411 dL_law_412 ?_
  refine law4_arg (k0 := 0) (k3 := 3) (i := i) (j := 2) hx hb hXs hbl hbA hS hL hl rfl rfl (by omega) (by decide) dL_law_413 dL_law_414 dL_law_415 dL_law_416 dL_law_417 ?_
  refine law_cv (As := [.int (xs (i + 1)), .int (xs (i + 2))]) (rest := []) hC hP hD hS hA hl.1 (rX10_shown hpx) cwL_37 yvX10_shown (va_recv (ci := 10) (q0 := 0) hC.2.2.2.2.2.1 (law_left hP) rfl (wk_at tb_0)) rfl rfl (Nat.le_of_ble_eq_true rfl) (rmL4 (by decide) (by decide)) dL_law_418 (fun r1 w1 H locs h1 hP hD hS => ?_)
  refine lv_pop hx hb dL_law_421 rfl ?_
  refine lv_aload_n hx hb dL_law_422 rfl (lv_at hl 2 rfl) ?_
  refine law4_arg (k0 := 0) (k3 := 3) (i := i) (j := 1) hx hb hXs hbl hbA hS hL hl rfl rfl (by omega) (by decide) dL_law_423 dL_law_424 dL_law_425 dL_law_426 dL_law_427 ?_
  refine law4_arg (k0 := 0) (k3 := 3) (i := i) (j := 2) hx hb hXs hbl hbA hS hL hl rfl rfl (by omega) (by decide) dL_law_428 dL_law_429 dL_law_430 dL_law_431 dL_law_432 ?_
  have hP := e_swapP hP
  have hD := e_swapD hD
  rw [← hgg] at hP
  refine law_cv (As := [.int (xs (i + 1)), .int (xs (i + 2))]) (rest := []) hC2 hP hD hS hA hl.1 (rX11_shown hpm) cwL_40 yvX11_shown (va_recv (ci := 11) (q0 := 0) hC2.2.2.2.2.2.1 (law_left hP) rfl (wk_at tb_300)) rfl rfl (Nat.le_of_ble_eq_true rfl) (rmL4 (by decide) (by decide)) dL_law_433 (fun r2 w3 H locs h2 hP hD hS => ?_)
  have hP := e_swapP hP
  have hD := e_swapD hD
  rw [hgg] at hP
  refine lv_pop hx hb dL_law_436 rfl ?_
  refine lv_goto (tgt := 2075) hx hb dL_law_437 (by decide) ?_
  exact hend w1 w3 H locs h1 h2 hP hD hS
set_option maxHeartbeats 4000000 in
set_option maxRecDepth 100000 in
theorem case4_prints {p : Program} {l : Launch} {e : Env} {s : State} {m : MethodId} {below : List Frame} {meth : Method} {c : Code} {H : Heap} {locs : List Loc} {Q : State → Prop} {ls : Array Slot} {A : Nat → Prop} {g g2 : Gw} {w w2 : Wd} {b L i : Nat} {xs : Nat → Int32} {JX JM : Wd → Prop} (hLC : LC4 p s m c b L xs A g g2) (hi : i + 6 ≤ L) (hP : va_P g.1 vwCl (wsW tabX g w ++ wsW tabM g2 w2) H) (hD : va_D A (wsW tabX g w ++ wsW tabM g2 w2)) (hS : va_S A s.heap H locs) (hl : lv_has ls 4 (lvL4 b i g g2)) (hpx : pX10_prints (fun _ w1 => JX w1) (xs (i + 1)) (xs (i + 2)) w) (hpm : pX11_prints (fun _ w1 => JM w1) (xs (i + 1)) (xs (i + 2)) w2) (hend : ∀ (w1 w3 : Wd) (H : Heap) (locs : List Loc), JX w1 → JM w3 → va_P g.1 vwCl (wsW tabX g w1 ++ wsW tabM g2 w3) H → va_D A (wsW tabX g w1 ++ wsW tabM g2 w3) → va_S A s.heap H locs → W p l e room_1 s m #[.ref b] below meth c H locs 134 142488 Q (F0 m 2075 ls [])) : W p l e room_1 s m #[.ref b] below meth c H locs 134 142488 Q (F0 m 440 ls []) := by
  obtain ⟨hC, hC2, hgg, hXs, hbl, hbA, hA, hL⟩ := hLC
  have hx := hC.1
  have hb := hC.2.1
  refine lv_aload_n hx hb dL_law_440 rfl (lv_at hl 1 rfl) ?_
  refine law4_arg (k0 := 0) (k3 := 3) (i := i) (j := 1) hx hb hXs hbl hbA hS hL hl rfl rfl (by omega) (by decide) dL_law_441 dL_law_442 dL_law_443 dL_law_444 dL_law_445 ?_
  refine law4_arg (k0 := 0) (k3 := 3) (i := i) (j := 2) hx hb hXs hbl hbA hS hL hl rfl rfl (by omega) (by decide) dL_law_446 dL_law_447 dL_law_448 dL_law_449 dL_law_450 ?_
  refine law_cv (As := [.int (xs (i + 1)), .int (xs (i + 2))]) (rest := []) hC hP hD hS hA hl.1 (rX10_prints hpx) cwL_41 yvX10_prints (va_recv (ci := 10) (q0 := 0) hC.2.2.2.2.2.1 (law_left hP) rfl (wk_at tb_0)) rfl rfl (Nat.le_of_ble_eq_true rfl) (rmL4 (by decide) (by decide)) dL_law_451 (fun r1 w1 H locs h1 hP hD hS => ?_)
  refine lv_pop hx hb dL_law_454 rfl ?_
  refine lv_aload_n hx hb dL_law_455 rfl (lv_at hl 2 rfl) ?_
  refine law4_arg (k0 := 0) (k3 := 3) (i := i) (j := 1) hx hb hXs hbl hbA hS hL hl rfl rfl (by omega) (by decide) dL_law_456 dL_law_457 dL_law_458 dL_law_459 dL_law_460 ?_
  refine law4_arg (k0 := 0) (k3 := 3) (i := i) (j := 2) hx hb hXs hbl hbA hS hL hl rfl rfl (by omega) (by decide) dL_law_461 dL_law_462 dL_law_463 dL_law_464 dL_law_465 ?_
  have hP := e_swapP hP
  have hD := e_swapD hD
  rw [← hgg] at hP
  refine law_cv (As := [.int (xs (i + 1)), .int (xs (i + 2))]) (rest := []) hC2 hP hD hS hA hl.1 (rX11_prints hpm) cwL_44 yvX11_prints (va_recv (ci := 11) (q0 := 0) hC2.2.2.2.2.2.1 (law_left hP) rfl (wk_at tb_300)) rfl rfl (Nat.le_of_ble_eq_true rfl) (rmL4 (by decide) (by decide)) dL_law_466 (fun r2 w3 H locs h2 hP hD hS => ?_)
  have hP := e_swapP hP
  have hD := e_swapD hD
  rw [hgg] at hP
  refine lv_pop hx hb dL_law_469 rfl ?_
  refine lv_goto (tgt := 2075) hx hb dL_law_470 (by decide) ?_
  exact hend w1 w3 H locs h1 h2 hP hD hS
set_option maxHeartbeats 4000000 in
set_option maxRecDepth 100000 in
theorem case4_turned {p : Program} {l : Launch} {e : Env} {s : State} {m : MethodId} {below : List Frame} {meth : Method} {c : Code} {H : Heap} {locs : List Loc} {Q : State → Prop} {ls : Array Slot} {A : Nat → Prop} {g g2 : Gw} {w w2 : Wd} {b L i : Nat} {xs : Nat → Int32} {JX JM : Wd → Prop} (hLC : LC4 p s m c b L xs A g g2) (hi : i + 6 ≤ L) (hP : va_P g.1 vwCl (wsW tabX g w ++ wsW tabM g2 w2) H) (hD : va_D A (wsW tabX g w ++ wsW tabM g2 w2)) (hS : va_S A s.heap H locs) (hl : lv_has ls 4 (lvL4 b i g g2)) (hpx : pX10_turned (fun _ w1 => JX w1) (xs (i + 1)) w) (hpm : pX11_turned (fun _ w1 => JM w1) (xs (i + 1)) w2) (hend : ∀ (w1 w3 : Wd) (H : Heap) (locs : List Loc), JX w1 → JM w3 → va_P g.1 vwCl (wsW tabX g w1 ++ wsW tabM g2 w3) H → va_D A (wsW tabX g w1 ++ wsW tabM g2 w3) → va_S A s.heap H locs → W p l e room_1 s m #[.ref b] below meth c H locs 134 142488 Q (F0 m 2075 ls [])) : W p l e room_1 s m #[.ref b] below meth c H locs 134 142488 Q (F0 m 473 ls []) := by
  obtain ⟨hC, hC2, hgg, hXs, hbl, hbA, hA, hL⟩ := hLC
  have hx := hC.1
  have hb := hC.2.1
  refine lv_aload_n hx hb dL_law_473 rfl (lv_at hl 1 rfl) ?_
  refine law4_arg (k0 := 0) (k3 := 3) (i := i) (j := 1) hx hb hXs hbl hbA hS hL hl rfl rfl (by omega) (by decide) dL_law_474 dL_law_475 dL_law_476 dL_law_477 dL_law_478 ?_
  refine law_cv (As := [.int (xs (i + 1))]) (rest := []) hC hP hD hS hA hl.1 (rX10_turned hpx) cwL_45 yvX10_turned (va_recv (ci := 10) (q0 := 0) hC.2.2.2.2.2.1 (law_left hP) rfl (wk_at tb_0)) rfl rfl (Nat.le_of_ble_eq_true rfl) (rmL4 (by decide) (by decide)) dL_law_479 (fun r1 w1 H locs h1 hP hD hS => ?_)
  refine lv_pop hx hb dL_law_482 rfl ?_
  refine lv_aload_n hx hb dL_law_483 rfl (lv_at hl 2 rfl) ?_
  refine law4_arg (k0 := 0) (k3 := 3) (i := i) (j := 1) hx hb hXs hbl hbA hS hL hl rfl rfl (by omega) (by decide) dL_law_484 dL_law_485 dL_law_486 dL_law_487 dL_law_488 ?_
  have hP := e_swapP hP
  have hD := e_swapD hD
  rw [← hgg] at hP
  refine law_cv (As := [.int (xs (i + 1))]) (rest := []) hC2 hP hD hS hA hl.1 (rX11_turned hpm) cwL_48 yvX11_turned (va_recv (ci := 11) (q0 := 0) hC2.2.2.2.2.2.1 (law_left hP) rfl (wk_at tb_300)) rfl rfl (Nat.le_of_ble_eq_true rfl) (rmL4 (by decide) (by decide)) dL_law_489 (fun r2 w3 H locs h2 hP hD hS => ?_)
  have hP := e_swapP hP
  have hD := e_swapD hD
  rw [hgg] at hP
  refine lv_pop hx hb dL_law_492 rfl ?_
  refine lv_goto (tgt := 2075) hx hb dL_law_493 (by decide) ?_
  exact hend w1 w3 H locs h1 h2 hP hD hS
set_option maxHeartbeats 4000000 in
set_option maxRecDepth 100000 in
theorem case4_would {p : Program} {l : Launch} {e : Env} {s : State} {m : MethodId} {below : List Frame} {meth : Method} {c : Code} {H : Heap} {locs : List Loc} {Q : State → Prop} {ls : Array Slot} {A : Nat → Prop} {g g2 : Gw} {w w2 : Wd} {b L i : Nat} {xs : Nat → Int32} {JX JM : Wd → Prop} (hLC : LC4 p s m c b L xs A g g2) (hi : i + 6 ≤ L) (hP : va_P g.1 vwCl (wsW tabX g w ++ wsW tabM g2 w2) H) (hD : va_D A (wsW tabX g w ++ wsW tabM g2 w2)) (hS : va_S A s.heap H locs) (hl : lv_has ls 4 (lvL4 b i g g2)) (hpx : pX10_would (fun _ w1 => JX w1) (xs (i + 1)) (xs (i + 2)) (xs (i + 3)) (xs (i + 4)) w) (hpm : pX11_would (fun _ w1 => JM w1) (xs (i + 1)) (xs (i + 2)) (xs (i + 3)) (xs (i + 4)) w2) (hend : ∀ (w1 w3 : Wd) (H : Heap) (locs : List Loc), JX w1 → JM w3 → va_P g.1 vwCl (wsW tabX g w1 ++ wsW tabM g2 w3) H → va_D A (wsW tabX g w1 ++ wsW tabM g2 w3) → va_S A s.heap H locs → W p l e room_1 s m #[.ref b] below meth c H locs 134 142488 Q (F0 m 2075 ls [])) : W p l e room_1 s m #[.ref b] below meth c H locs 134 142488 Q (F0 m 496 ls []) := by
  obtain ⟨hC, hC2, hgg, hXs, hbl, hbA, hA, hL⟩ := hLC
  have hx := hC.1
  have hb := hC.2.1
  refine lv_aload_n hx hb dL_law_496 rfl (lv_at hl 1 rfl) ?_
  refine law4_arg (k0 := 0) (k3 := 3) (i := i) (j := 1) hx hb hXs hbl hbA hS hL hl rfl rfl (by omega) (by decide) dL_law_497 dL_law_498 dL_law_499 dL_law_500 dL_law_501 ?_
  refine law4_arg (k0 := 0) (k3 := 3) (i := i) (j := 2) hx hb hXs hbl hbA hS hL hl rfl rfl (by omega) (by decide) dL_law_502 dL_law_503 dL_law_504 dL_law_505 dL_law_506 ?_
  refine law4_arg (k0 := 0) (k3 := 3) (i := i) (j := 3) hx hb hXs hbl hbA hS hL hl rfl rfl (by omega) (by decide) dL_law_507 dL_law_508 dL_law_509 dL_law_510 dL_law_511 ?_
  refine law4_arg (k0 := 0) (k3 := 3) (i := i) (j := 4) hx hb hXs hbl hbA hS hL hl rfl rfl (by omega) (by decide) dL_law_512 dL_law_513 dL_law_514 dL_law_515 dL_law_516 ?_
  refine law_cv (As := [.int (xs (i + 1)), .int (xs (i + 2)), .int (xs (i + 3)), .int (xs (i + 4))]) (rest := []) hC hP hD hS hA hl.1 (rX10_would hpx) cwL_49 yvX10_would (va_recv (ci := 10) (q0 := 0) hC.2.2.2.2.2.1 (law_left hP) rfl (wk_at tb_0)) rfl rfl (Nat.le_of_ble_eq_true rfl) (rmL4 (by decide) (by decide)) dL_law_517 (fun r1 w1 H locs h1 hP hD hS => ?_)
  refine lv_pop hx hb dL_law_520 rfl ?_
  refine lv_aload_n hx hb dL_law_521 rfl (lv_at hl 2 rfl) ?_
  refine law4_arg (k0 := 0) (k3 := 3) (i := i) (j := 1) hx hb hXs hbl hbA hS hL hl rfl rfl (by omega) (by decide) dL_law_522 dL_law_523 dL_law_524 dL_law_525 dL_law_526 ?_
  refine law4_arg (k0 := 0) (k3 := 3) (i := i) (j := 2) hx hb hXs hbl hbA hS hL hl rfl rfl (by omega) (by decide) dL_law_527 dL_law_528 dL_law_529 dL_law_530 dL_law_531 ?_
  refine law4_arg (k0 := 0) (k3 := 3) (i := i) (j := 3) hx hb hXs hbl hbA hS hL hl rfl rfl (by omega) (by decide) dL_law_532 dL_law_533 dL_law_534 dL_law_535 dL_law_536 ?_
  refine law4_arg (k0 := 0) (k3 := 3) (i := i) (j := 4) hx hb hXs hbl hbA hS hL hl rfl rfl (by omega) (by decide) dL_law_537 dL_law_538 dL_law_539 dL_law_540 dL_law_541 ?_
  have hP := e_swapP hP
  have hD := e_swapD hD
  rw [← hgg] at hP
  refine law_cv (As := [.int (xs (i + 1)), .int (xs (i + 2)), .int (xs (i + 3)), .int (xs (i + 4))]) (rest := []) hC2 hP hD hS hA hl.1 (rX11_would hpm) cwL_53 yvX11_would (va_recv (ci := 11) (q0 := 0) hC2.2.2.2.2.2.1 (law_left hP) rfl (wk_at tb_300)) rfl rfl (Nat.le_of_ble_eq_true rfl) (rmL4 (by decide) (by decide)) dL_law_542 (fun r2 w3 H locs h2 hP hD hS => ?_)
  have hP := e_swapP hP
  have hD := e_swapD hD
  rw [hgg] at hP
  refine lv_pop hx hb dL_law_545 rfl ?_
  refine lv_goto (tgt := 2075) hx hb dL_law_546 (by decide) ?_
  exact hend w1 w3 H locs h1 h2 hP hD hS
set_option maxHeartbeats 4000000 in
set_option maxRecDepth 100000 in
theorem case4_cast {p : Program} {l : Launch} {e : Env} {s : State} {m : MethodId} {below : List Frame} {meth : Method} {c : Code} {H : Heap} {locs : List Loc} {Q : State → Prop} {ls : Array Slot} {A : Nat → Prop} {g g2 : Gw} {w w2 : Wd} {b L i : Nat} {xs : Nat → Int32} {JX JM : Wd → Prop} (hLC : LC4 p s m c b L xs A g g2) (hi : i + 6 ≤ L) (hP : va_P g.1 vwCl (wsW tabX g w ++ wsW tabM g2 w2) H) (hD : va_D A (wsW tabX g w ++ wsW tabM g2 w2)) (hS : va_S A s.heap H locs) (hl : lv_has ls 4 (lvL4 b i g g2)) (hpx : pX10_cast (fun _ w1 => JX w1) (xs (i + 1)) (xs (i + 2)) (xs (i + 3)) w) (hpm : pX11_cast (fun _ w1 => JM w1) (xs (i + 1)) (xs (i + 2)) (xs (i + 3)) w2) (hend : ∀ (w1 w3 : Wd) (H : Heap) (locs : List Loc), JX w1 → JM w3 → va_P g.1 vwCl (wsW tabX g w1 ++ wsW tabM g2 w3) H → va_D A (wsW tabX g w1 ++ wsW tabM g2 w3) → va_S A s.heap H locs → W p l e room_1 s m #[.ref b] below meth c H locs 134 142488 Q (F0 m 2075 ls [])) : W p l e room_1 s m #[.ref b] below meth c H locs 134 142488 Q (F0 m 549 ls []) := by
  obtain ⟨hC, hC2, hgg, hXs, hbl, hbA, hA, hL⟩ := hLC
  have hx := hC.1
  have hb := hC.2.1
  refine lv_aload_n hx hb dL_law_549 rfl (lv_at hl 1 rfl) ?_
  refine law4_arg (k0 := 0) (k3 := 3) (i := i) (j := 1) hx hb hXs hbl hbA hS hL hl rfl rfl (by omega) (by decide) dL_law_550 dL_law_551 dL_law_552 dL_law_553 dL_law_554 ?_
  refine law4_arg (k0 := 0) (k3 := 3) (i := i) (j := 2) hx hb hXs hbl hbA hS hL hl rfl rfl (by omega) (by decide) dL_law_555 dL_law_556 dL_law_557 dL_law_558 dL_law_559 ?_
  refine law4_arg (k0 := 0) (k3 := 3) (i := i) (j := 3) hx hb hXs hbl hbA hS hL hl rfl rfl (by omega) (by decide) dL_law_560 dL_law_561 dL_law_562 dL_law_563 dL_law_564 ?_
  refine law_cv (As := [.int (xs (i + 1)), .int (xs (i + 2)), .int (xs (i + 3))]) (rest := []) hC hP hD hS hA hl.1 (rX10_cast hpx) cwL_54 yvX10_cast (va_recv (ci := 10) (q0 := 0) hC.2.2.2.2.2.1 (law_left hP) rfl (wk_at tb_0)) rfl rfl (Nat.le_of_ble_eq_true rfl) (rmL4 (by decide) (by decide)) dL_law_565 (fun r1 w1 H locs h1 hP hD hS => ?_)
  refine lv_pop hx hb dL_law_568 rfl ?_
  refine lv_aload_n hx hb dL_law_569 rfl (lv_at hl 2 rfl) ?_
  refine law4_arg (k0 := 0) (k3 := 3) (i := i) (j := 1) hx hb hXs hbl hbA hS hL hl rfl rfl (by omega) (by decide) dL_law_570 dL_law_571 dL_law_572 dL_law_573 dL_law_574 ?_
  refine law4_arg (k0 := 0) (k3 := 3) (i := i) (j := 2) hx hb hXs hbl hbA hS hL hl rfl rfl (by omega) (by decide) dL_law_575 dL_law_576 dL_law_577 dL_law_578 dL_law_579 ?_
  refine law4_arg (k0 := 0) (k3 := 3) (i := i) (j := 3) hx hb hXs hbl hbA hS hL hl rfl rfl (by omega) (by decide) dL_law_580 dL_law_581 dL_law_582 dL_law_583 dL_law_584 ?_
  have hP := e_swapP hP
  have hD := e_swapD hD
  rw [← hgg] at hP
  refine law_cv (As := [.int (xs (i + 1)), .int (xs (i + 2)), .int (xs (i + 3))]) (rest := []) hC2 hP hD hS hA hl.1 (rX11_cast hpm) cwL_58 yvX11_cast (va_recv (ci := 11) (q0 := 0) hC2.2.2.2.2.2.1 (law_left hP) rfl (wk_at tb_300)) rfl rfl (Nat.le_of_ble_eq_true rfl) (rmL4 (by decide) (by decide)) dL_law_585 (fun r2 w3 H locs h2 hP hD hS => ?_)
  have hP := e_swapP hP
  have hD := e_swapD hD
  rw [hgg] at hP
  refine lv_pop hx hb dL_law_588 rfl ?_
  refine lv_goto (tgt := 2075) hx hb dL_law_589 (by decide) ?_
  exact hend w1 w3 H locs h1 h2 hP hD hS
set_option maxHeartbeats 4000000 in
set_option maxRecDepth 100000 in
theorem case4_print {p : Program} {l : Launch} {e : Env} {s : State} {m : MethodId} {below : List Frame} {meth : Method} {c : Code} {H : Heap} {locs : List Loc} {Q : State → Prop} {ls : Array Slot} {A : Nat → Prop} {g g2 : Gw} {w w2 : Wd} {b L i : Nat} {xs : Nat → Int32} {JX JM : Wd → Prop} (hLC : LC4 p s m c b L xs A g g2) (hi : i + 6 ≤ L) (hP : va_P g.1 vwCl (wsW tabX g w ++ wsW tabM g2 w2) H) (hD : va_D A (wsW tabX g w ++ wsW tabM g2 w2)) (hS : va_S A s.heap H locs) (hl : lv_has ls 4 (lvL4 b i g g2)) (hpx : pX10_print (fun _ w1 => JX w1) (xs (i + 1)) w) (hpm : pX11_print (fun _ w1 => JM w1) (xs (i + 1)) w2) (hend : ∀ (w1 w3 : Wd) (H : Heap) (locs : List Loc), JX w1 → JM w3 → va_P g.1 vwCl (wsW tabX g w1 ++ wsW tabM g2 w3) H → va_D A (wsW tabX g w1 ++ wsW tabM g2 w3) → va_S A s.heap H locs → W p l e room_1 s m #[.ref b] below meth c H locs 134 142488 Q (F0 m 2075 ls [])) : W p l e room_1 s m #[.ref b] below meth c H locs 134 142488 Q (F0 m 592 ls []) := by
  obtain ⟨hC, hC2, hgg, hXs, hbl, hbA, hA, hL⟩ := hLC
  have hx := hC.1
  have hb := hC.2.1
  refine lv_aload_n hx hb dL_law_592 rfl (lv_at hl 1 rfl) ?_
  refine law4_arg (k0 := 0) (k3 := 3) (i := i) (j := 1) hx hb hXs hbl hbA hS hL hl rfl rfl (by omega) (by decide) dL_law_593 dL_law_594 dL_law_595 dL_law_596 dL_law_597 ?_
  refine law_cv (As := [.int (xs (i + 1))]) (rest := []) hC hP hD hS hA hl.1 (rX10_print hpx) cwL_59 yvX10_print (va_recv (ci := 10) (q0 := 0) hC.2.2.2.2.2.1 (law_left hP) rfl (wk_at tb_0)) rfl rfl (Nat.le_of_ble_eq_true rfl) (rmL4 (by decide) (by decide)) dL_law_598 (fun r1 w1 H locs h1 hP hD hS => ?_)
  refine lv_pop hx hb dL_law_601 rfl ?_
  refine lv_aload_n hx hb dL_law_602 rfl (lv_at hl 2 rfl) ?_
  refine law4_arg (k0 := 0) (k3 := 3) (i := i) (j := 1) hx hb hXs hbl hbA hS hL hl rfl rfl (by omega) (by decide) dL_law_603 dL_law_604 dL_law_605 dL_law_606 dL_law_607 ?_
  have hP := e_swapP hP
  have hD := e_swapD hD
  rw [← hgg] at hP
  refine law_cv (As := [.int (xs (i + 1))]) (rest := []) hC2 hP hD hS hA hl.1 (rX11_print hpm) cwL_62 yvX11_print (va_recv (ci := 11) (q0 := 0) hC2.2.2.2.2.2.1 (law_left hP) rfl (wk_at tb_300)) rfl rfl (Nat.le_of_ble_eq_true rfl) (rmL4 (by decide) (by decide)) dL_law_608 (fun r2 w3 H locs h2 hP hD hS => ?_)
  have hP := e_swapP hP
  have hD := e_swapD hD
  rw [hgg] at hP
  refine lv_pop hx hb dL_law_611 rfl ?_
  refine lv_goto (tgt := 2075) hx hb dL_law_612 (by decide) ?_
  exact hend w1 w3 H locs h1 h2 hP hD hS
set_option maxHeartbeats 4000000 in
set_option maxRecDepth 100000 in
theorem case4_crack {p : Program} {l : Launch} {e : Env} {s : State} {m : MethodId} {below : List Frame} {meth : Method} {c : Code} {H : Heap} {locs : List Loc} {Q : State → Prop} {ls : Array Slot} {A : Nat → Prop} {g g2 : Gw} {w w2 : Wd} {b L i : Nat} {xs : Nat → Int32} {JX JM : Wd → Prop} (hLC : LC4 p s m c b L xs A g g2) (hi : i + 6 ≤ L) (hP : va_P g.1 vwCl (wsW tabX g w ++ wsW tabM g2 w2) H) (hD : va_D A (wsW tabX g w ++ wsW tabM g2 w2)) (hS : va_S A s.heap H locs) (hl : lv_has ls 4 (lvL4 b i g g2)) (hpx : pX10_crack (fun _ w1 => JX w1) (xs (i + 1)) (xs (i + 2)) w) (hpm : pX11_crack (fun _ w1 => JM w1) (xs (i + 1)) (xs (i + 2)) w2) (hend : ∀ (w1 w3 : Wd) (H : Heap) (locs : List Loc), JX w1 → JM w3 → va_P g.1 vwCl (wsW tabX g w1 ++ wsW tabM g2 w3) H → va_D A (wsW tabX g w1 ++ wsW tabM g2 w3) → va_S A s.heap H locs → W p l e room_1 s m #[.ref b] below meth c H locs 134 142488 Q (F0 m 2075 ls [])) : W p l e room_1 s m #[.ref b] below meth c H locs 134 142488 Q (F0 m 615 ls []) := by
  obtain ⟨hC, hC2, hgg, hXs, hbl, hbA, hA, hL⟩ := hLC
  have hx := hC.1
  have hb := hC.2.1
  refine lv_aload_n hx hb dL_law_615 rfl (lv_at hl 1 rfl) ?_
  refine law4_arg (k0 := 0) (k3 := 3) (i := i) (j := 1) hx hb hXs hbl hbA hS hL hl rfl rfl (by omega) (by decide) dL_law_616 dL_law_617 dL_law_618 dL_law_619 dL_law_620 ?_
  refine law4_arg (k0 := 0) (k3 := 3) (i := i) (j := 2) hx hb hXs hbl hbA hS hL hl rfl rfl (by omega) (by decide) dL_law_621 dL_law_622 dL_law_623 dL_law_624 dL_law_625 ?_
  refine law_cv (As := [.int (xs (i + 1)), .int (xs (i + 2))]) (rest := []) hC hP hD hS hA hl.1 (rX10_crack hpx) cwL_63 yvX10_crack (va_recv (ci := 10) (q0 := 0) hC.2.2.2.2.2.1 (law_left hP) rfl (wk_at tb_0)) rfl rfl (Nat.le_of_ble_eq_true rfl) (rmL4 (by decide) (by decide)) dL_law_626 (fun r1 w1 H locs h1 hP hD hS => ?_)
  refine lv_pop hx hb dL_law_629 rfl ?_
  refine lv_aload_n hx hb dL_law_630 rfl (lv_at hl 2 rfl) ?_
  refine law4_arg (k0 := 0) (k3 := 3) (i := i) (j := 1) hx hb hXs hbl hbA hS hL hl rfl rfl (by omega) (by decide) dL_law_631 dL_law_632 dL_law_633 dL_law_634 dL_law_635 ?_
  refine law4_arg (k0 := 0) (k3 := 3) (i := i) (j := 2) hx hb hXs hbl hbA hS hL hl rfl rfl (by omega) (by decide) dL_law_636 dL_law_637 dL_law_638 dL_law_639 dL_law_640 ?_
  have hP := e_swapP hP
  have hD := e_swapD hD
  rw [← hgg] at hP
  refine law_cv (As := [.int (xs (i + 1)), .int (xs (i + 2))]) (rest := []) hC2 hP hD hS hA hl.1 (rX11_crack hpm) cwL_67 yvX11_crack (va_recv (ci := 11) (q0 := 0) hC2.2.2.2.2.2.1 (law_left hP) rfl (wk_at tb_300)) rfl rfl (Nat.le_of_ble_eq_true rfl) (rmL4 (by decide) (by decide)) dL_law_641 (fun r2 w3 H locs h2 hP hD hS => ?_)
  have hP := e_swapP hP
  have hD := e_swapD hD
  rw [hgg] at hP
  refine lv_pop hx hb dL_law_644 rfl ?_
  refine lv_goto (tgt := 2075) hx hb dL_law_645 (by decide) ?_
  exact hend w1 w3 H locs h1 h2 hP hD hS
set_option maxHeartbeats 4000000 in
set_option maxRecDepth 100000 in
theorem case4_year {p : Program} {l : Launch} {e : Env} {s : State} {m : MethodId} {below : List Frame} {meth : Method} {c : Code} {H : Heap} {locs : List Loc} {Q : State → Prop} {ls : Array Slot} {A : Nat → Prop} {g g2 : Gw} {w w2 : Wd} {b L i : Nat} {xs : Nat → Int32} {JX JM : Wd → Prop} (hLC : LC4 p s m c b L xs A g g2) (hi : i + 6 ≤ L) (hP : va_P g.1 vwCl (wsW tabX g w ++ wsW tabM g2 w2) H) (hD : va_D A (wsW tabX g w ++ wsW tabM g2 w2)) (hS : va_S A s.heap H locs) (hl : lv_has ls 4 (lvL4 b i g g2)) (hpx : pX10_year (fun _ w1 => JX w1)  w) (hpm : pX11_year (fun _ w1 => JM w1)  w2) (hend : ∀ (w1 w3 : Wd) (H : Heap) (locs : List Loc), JX w1 → JM w3 → va_P g.1 vwCl (wsW tabX g w1 ++ wsW tabM g2 w3) H → va_D A (wsW tabX g w1 ++ wsW tabM g2 w3) → va_S A s.heap H locs → W p l e room_1 s m #[.ref b] below meth c H locs 134 142488 Q (F0 m 2075 ls [])) : W p l e room_1 s m #[.ref b] below meth c H locs 134 142488 Q (F0 m 648 ls []) := by
  obtain ⟨hC, hC2, hgg, hXs, hbl, hbA, hA, hL⟩ := hLC
  have hx := hC.1
  have hb := hC.2.1
  refine lv_aload_n hx hb dL_law_648 rfl (lv_at hl 1 rfl) ?_
  refine law_cv (As := []) (rest := []) hC hP hD hS hA hl.1 (rX10_year hpx) cwL_68 yvX10_year (va_recv (ci := 10) (q0 := 0) hC.2.2.2.2.2.1 (law_left hP) rfl (wk_at tb_0)) rfl rfl (Nat.le_of_ble_eq_true rfl) (rmL4 (by decide) (by decide)) dL_law_649 (fun r1 w1 H locs h1 hP hD hS => ?_)
  refine lv_pop hx hb dL_law_652 rfl ?_
  refine lv_aload_n hx hb dL_law_653 rfl (lv_at hl 2 rfl) ?_
  have hP := e_swapP hP
  have hD := e_swapD hD
  rw [← hgg] at hP
  refine law_cv (As := []) (rest := []) hC2 hP hD hS hA hl.1 (rX11_year hpm) cwL_71 yvX11_year (va_recv (ci := 11) (q0 := 0) hC2.2.2.2.2.2.1 (law_left hP) rfl (wk_at tb_300)) rfl rfl (Nat.le_of_ble_eq_true rfl) (rmL4 (by decide) (by decide)) dL_law_654 (fun r2 w3 H locs h2 hP hD hS => ?_)
  have hP := e_swapP hP
  have hD := e_swapD hD
  rw [hgg] at hP
  refine lv_pop hx hb dL_law_657 rfl ?_
  refine lv_goto (tgt := 2075) hx hb dL_law_658 (by decide) ?_
  exact hend w1 w3 H locs h1 h2 hP hD hS
set_option maxHeartbeats 4000000 in
set_option maxRecDepth 100000 in
theorem case4_undo {p : Program} {l : Launch} {e : Env} {s : State} {m : MethodId} {below : List Frame} {meth : Method} {c : Code} {H : Heap} {locs : List Loc} {Q : State → Prop} {ls : Array Slot} {A : Nat → Prop} {g g2 : Gw} {w w2 : Wd} {b L i : Nat} {xs : Nat → Int32} {JX JM : Wd → Prop} (hLC : LC4 p s m c b L xs A g g2) (hi : i + 6 ≤ L) (hP : va_P g.1 vwCl (wsW tabX g w ++ wsW tabM g2 w2) H) (hD : va_D A (wsW tabX g w ++ wsW tabM g2 w2)) (hS : va_S A s.heap H locs) (hl : lv_has ls 4 (lvL4 b i g g2)) (hpx : pX10_undo (fun _ w1 => JX w1)  w) (hpm : pX11_undo (fun _ w1 => JM w1)  w2) (hend : ∀ (w1 w3 : Wd) (H : Heap) (locs : List Loc), JX w1 → JM w3 → va_P g.1 vwCl (wsW tabX g w1 ++ wsW tabM g2 w3) H → va_D A (wsW tabX g w1 ++ wsW tabM g2 w3) → va_S A s.heap H locs → W p l e room_1 s m #[.ref b] below meth c H locs 134 142488 Q (F0 m 2075 ls [])) : W p l e room_1 s m #[.ref b] below meth c H locs 134 142488 Q (F0 m 661 ls []) := by
  obtain ⟨hC, hC2, hgg, hXs, hbl, hbA, hA, hL⟩ := hLC
  have hx := hC.1
  have hb := hC.2.1
  refine lv_aload_n hx hb dL_law_661 rfl (lv_at hl 1 rfl) ?_
  refine law_cv (As := []) (rest := []) hC hP hD hS hA hl.1 (rX10_undo hpx) cwL_72 yvX10_undo (va_recv (ci := 10) (q0 := 0) hC.2.2.2.2.2.1 (law_left hP) rfl (wk_at tb_0)) rfl rfl (Nat.le_of_ble_eq_true rfl) (rmL4 (by decide) (by decide)) dL_law_662 (fun r1 w1 H locs h1 hP hD hS => ?_)
  refine lv_pop hx hb dL_law_665 rfl ?_
  refine lv_aload_n hx hb dL_law_666 rfl (lv_at hl 2 rfl) ?_
  have hP := e_swapP hP
  have hD := e_swapD hD
  rw [← hgg] at hP
  refine law_cv (As := []) (rest := []) hC2 hP hD hS hA hl.1 (rX11_undo hpm) cwL_76 yvX11_undo (va_recv (ci := 11) (q0 := 0) hC2.2.2.2.2.2.1 (law_left hP) rfl (wk_at tb_300)) rfl rfl (Nat.le_of_ble_eq_true rfl) (rmL4 (by decide) (by decide)) dL_law_667 (fun r2 w3 H locs h2 hP hD hS => ?_)
  have hP := e_swapP hP
  have hD := e_swapD hD
  rw [hgg] at hP
  refine lv_pop hx hb dL_law_670 rfl ?_
  refine lv_goto (tgt := 2075) hx hb dL_law_671 (by decide) ?_
  exact hend w1 w3 H locs h1 h2 hP hD hS
set_option maxHeartbeats 4000000 in
set_option maxRecDepth 100000 in
theorem case4_redo {p : Program} {l : Launch} {e : Env} {s : State} {m : MethodId} {below : List Frame} {meth : Method} {c : Code} {H : Heap} {locs : List Loc} {Q : State → Prop} {ls : Array Slot} {A : Nat → Prop} {g g2 : Gw} {w w2 : Wd} {b L i : Nat} {xs : Nat → Int32} {JX JM : Wd → Prop} (hLC : LC4 p s m c b L xs A g g2) (hi : i + 6 ≤ L) (hP : va_P g.1 vwCl (wsW tabX g w ++ wsW tabM g2 w2) H) (hD : va_D A (wsW tabX g w ++ wsW tabM g2 w2)) (hS : va_S A s.heap H locs) (hl : lv_has ls 4 (lvL4 b i g g2)) (hpx : pX10_redo (fun _ w1 => JX w1)  w) (hpm : pX11_redo (fun _ w1 => JM w1)  w2) (hend : ∀ (w1 w3 : Wd) (H : Heap) (locs : List Loc), JX w1 → JM w3 → va_P g.1 vwCl (wsW tabX g w1 ++ wsW tabM g2 w3) H → va_D A (wsW tabX g w1 ++ wsW tabM g2 w3) → va_S A s.heap H locs → W p l e room_1 s m #[.ref b] below meth c H locs 134 142488 Q (F0 m 2075 ls [])) : W p l e room_1 s m #[.ref b] below meth c H locs 134 142488 Q (F0 m 674 ls []) := by
  obtain ⟨hC, hC2, hgg, hXs, hbl, hbA, hA, hL⟩ := hLC
  have hx := hC.1
  have hb := hC.2.1
  refine lv_aload_n hx hb dL_law_674 rfl (lv_at hl 1 rfl) ?_
  refine law_cv (As := []) (rest := []) hC hP hD hS hA hl.1 (rX10_redo hpx) cwL_77 yvX10_redo (va_recv (ci := 10) (q0 := 0) hC.2.2.2.2.2.1 (law_left hP) rfl (wk_at tb_0)) rfl rfl (Nat.le_of_ble_eq_true rfl) (rmL4 (by decide) (by decide)) dL_law_675 (fun r1 w1 H locs h1 hP hD hS => ?_)
  refine lv_pop hx hb dL_law_678 rfl ?_
  refine lv_aload_n hx hb dL_law_679 rfl (lv_at hl 2 rfl) ?_
  have hP := e_swapP hP
  have hD := e_swapD hD
  rw [← hgg] at hP
  refine law_cv (As := []) (rest := []) hC2 hP hD hS hA hl.1 (rX11_redo hpm) cwL_80 yvX11_redo (va_recv (ci := 11) (q0 := 0) hC2.2.2.2.2.2.1 (law_left hP) rfl (wk_at tb_300)) rfl rfl (Nat.le_of_ble_eq_true rfl) (rmL4 (by decide) (by decide)) dL_law_680 (fun r2 w3 H locs h2 hP hD hS => ?_)
  have hP := e_swapP hP
  have hD := e_swapD hD
  rw [hgg] at hP
  refine lv_pop hx hb dL_law_683 rfl ?_
  refine lv_goto (tgt := 2075) hx hb dL_law_684 (by decide) ?_
  exact hend w1 w3 H locs h1 h2 hP hD hS
set_option maxHeartbeats 4000000 in
set_option maxRecDepth 100000 in
theorem case4_whose {p : Program} {l : Launch} {e : Env} {s : State} {m : MethodId} {below : List Frame} {meth : Method} {c : Code} {H : Heap} {locs : List Loc} {Q : State → Prop} {ls : Array Slot} {A : Nat → Prop} {g g2 : Gw} {w w2 : Wd} {b L i : Nat} {xs : Nat → Int32} {JX JM : Wd → Prop} (hLC : LC4 p s m c b L xs A g g2) (hi : i + 6 ≤ L) (hP : va_P g.1 vwCl (wsW tabX g w ++ wsW tabM g2 w2) H) (hD : va_D A (wsW tabX g w ++ wsW tabM g2 w2)) (hS : va_S A s.heap H locs) (hl : lv_has ls 4 (lvL4 b i g g2)) (hpx : pX10_whose (fun _ w1 => JX w1) (xs (i + 1)) (xs (i + 2)) (xs (i + 3)) w) (hpm : pX11_whose (fun _ w1 => JM w1) (xs (i + 1)) (xs (i + 2)) (xs (i + 3)) w2) (hend : ∀ (w1 w3 : Wd) (H : Heap) (locs : List Loc), JX w1 → JM w3 → va_P g.1 vwCl (wsW tabX g w1 ++ wsW tabM g2 w3) H → va_D A (wsW tabX g w1 ++ wsW tabM g2 w3) → va_S A s.heap H locs → W p l e room_1 s m #[.ref b] below meth c H locs 134 142488 Q (F0 m 2075 ls [])) : W p l e room_1 s m #[.ref b] below meth c H locs 134 142488 Q (F0 m 687 ls []) := by
  obtain ⟨hC, hC2, hgg, hXs, hbl, hbA, hA, hL⟩ := hLC
  have hx := hC.1
  have hb := hC.2.1
  refine lv_aload_n hx hb dL_law_687 rfl (lv_at hl 1 rfl) ?_
  refine law4_arg (k0 := 0) (k3 := 3) (i := i) (j := 1) hx hb hXs hbl hbA hS hL hl rfl rfl (by omega) (by decide) dL_law_688 dL_law_689 dL_law_690 dL_law_691 dL_law_692 ?_
  refine law4_arg (k0 := 0) (k3 := 3) (i := i) (j := 2) hx hb hXs hbl hbA hS hL hl rfl rfl (by omega) (by decide) dL_law_693 dL_law_694 dL_law_695 dL_law_696 dL_law_697 ?_
  refine law4_arg (k0 := 0) (k3 := 3) (i := i) (j := 3) hx hb hXs hbl hbA hS hL hl rfl rfl (by omega) (by decide) dL_law_698 dL_law_699 dL_law_700 dL_law_701 dL_law_702 ?_
  refine law_cv (As := [.int (xs (i + 1)), .int (xs (i + 2)), .int (xs (i + 3))]) (rest := []) hC hP hD hS hA hl.1 (rX10_whose hpx) cwL_81 yvX10_whose (va_recv (ci := 10) (q0 := 0) hC.2.2.2.2.2.1 (law_left hP) rfl (wk_at tb_0)) rfl rfl (Nat.le_of_ble_eq_true rfl) (rmL4 (by decide) (by decide)) dL_law_703 (fun r1 w1 H locs h1 hP hD hS => ?_)
  refine lv_pop hx hb dL_law_706 rfl ?_
  refine lv_aload_n hx hb dL_law_707 rfl (lv_at hl 2 rfl) ?_
  refine law4_arg (k0 := 0) (k3 := 3) (i := i) (j := 1) hx hb hXs hbl hbA hS hL hl rfl rfl (by omega) (by decide) dL_law_708 dL_law_709 dL_law_710 dL_law_711 dL_law_712 ?_
  refine law4_arg (k0 := 0) (k3 := 3) (i := i) (j := 2) hx hb hXs hbl hbA hS hL hl rfl rfl (by omega) (by decide) dL_law_713 dL_law_714 dL_law_715 dL_law_716 dL_law_717 ?_
  refine law4_arg (k0 := 0) (k3 := 3) (i := i) (j := 3) hx hb hXs hbl hbA hS hL hl rfl rfl (by omega) (by decide) dL_law_718 dL_law_719 dL_law_720 dL_law_721 dL_law_722 ?_
  have hP := e_swapP hP
  have hD := e_swapD hD
  rw [← hgg] at hP
  refine law_cv (As := [.int (xs (i + 1)), .int (xs (i + 2)), .int (xs (i + 3))]) (rest := []) hC2 hP hD hS hA hl.1 (rX11_whose hpm) cwL_84 yvX11_whose (va_recv (ci := 11) (q0 := 0) hC2.2.2.2.2.2.1 (law_left hP) rfl (wk_at tb_300)) rfl rfl (Nat.le_of_ble_eq_true rfl) (rmL4 (by decide) (by decide)) dL_law_723 (fun r2 w3 H locs h2 hP hD hS => ?_)
  have hP := e_swapP hP
  have hD := e_swapD hD
  rw [hgg] at hP
  refine lv_pop hx hb dL_law_726 rfl ?_
  refine lv_goto (tgt := 2075) hx hb dL_law_727 (by decide) ?_
  exact hend w1 w3 H locs h1 h2 hP hD hS
set_option maxHeartbeats 4000000 in
set_option maxRecDepth 100000 in
theorem case4_made {p : Program} {l : Launch} {e : Env} {s : State} {m : MethodId} {below : List Frame} {meth : Method} {c : Code} {H : Heap} {locs : List Loc} {Q : State → Prop} {ls : Array Slot} {A : Nat → Prop} {g g2 : Gw} {w w2 : Wd} {b L i : Nat} {xs : Nat → Int32} {JX JM : Wd → Prop} (hLC : LC4 p s m c b L xs A g g2) (hi : i + 6 ≤ L) (hP : va_P g.1 vwCl (wsW tabX g w ++ wsW tabM g2 w2) H) (hD : va_D A (wsW tabX g w ++ wsW tabM g2 w2)) (hS : va_S A s.heap H locs) (hl : lv_has ls 4 (lvL4 b i g g2)) (hpx : pX10_made (fun _ w1 => JX w1) (xs (i + 1)) (xs (i + 2)) w) (hpm : pX11_made (fun _ w1 => JM w1) (xs (i + 1)) (xs (i + 2)) w2) (hend : ∀ (w1 w3 : Wd) (H : Heap) (locs : List Loc), JX w1 → JM w3 → va_P g.1 vwCl (wsW tabX g w1 ++ wsW tabM g2 w3) H → va_D A (wsW tabX g w1 ++ wsW tabM g2 w3) → va_S A s.heap H locs → W p l e room_1 s m #[.ref b] below meth c H locs 134 142488 Q (F0 m 2075 ls [])) : W p l e room_1 s m #[.ref b] below meth c H locs 134 142488 Q (F0 m 730 ls []) := by
  obtain ⟨hC, hC2, hgg, hXs, hbl, hbA, hA, hL⟩ := hLC
  have hx := hC.1
  have hb := hC.2.1
  refine lv_aload_n hx hb dL_law_730 rfl (lv_at hl 1 rfl) ?_
  refine law4_arg (k0 := 0) (k3 := 3) (i := i) (j := 1) hx hb hXs hbl hbA hS hL hl rfl rfl (by omega) (by decide) dL_law_731 dL_law_732 dL_law_733 dL_law_734 dL_law_735 ?_
  refine law4_arg (k0 := 0) (k3 := 3) (i := i) (j := 2) hx hb hXs hbl hbA hS hL hl rfl rfl (by omega) (by decide) dL_law_736 dL_law_737 dL_law_738 dL_law_739 dL_law_740 ?_
  refine law_cv (As := [.int (xs (i + 1)), .int (xs (i + 2))]) (rest := []) hC hP hD hS hA hl.1 (rX10_made hpx) cwL_85 yvX10_made (va_recv (ci := 10) (q0 := 0) hC.2.2.2.2.2.1 (law_left hP) rfl (wk_at tb_0)) rfl rfl (Nat.le_of_ble_eq_true rfl) (rmL4 (by decide) (by decide)) dL_law_741 (fun r1 w1 H locs h1 hP hD hS => ?_)
  refine lv_pop hx hb dL_law_744 rfl ?_
  refine lv_aload_n hx hb dL_law_745 rfl (lv_at hl 2 rfl) ?_
  refine law4_arg (k0 := 0) (k3 := 3) (i := i) (j := 1) hx hb hXs hbl hbA hS hL hl rfl rfl (by omega) (by decide) dL_law_746 dL_law_747 dL_law_748 dL_law_749 dL_law_750 ?_
  refine law4_arg (k0 := 0) (k3 := 3) (i := i) (j := 2) hx hb hXs hbl hbA hS hL hl rfl rfl (by omega) (by decide) dL_law_751 dL_law_752 dL_law_753 dL_law_754 dL_law_755 ?_
  have hP := e_swapP hP
  have hD := e_swapD hD
  rw [← hgg] at hP
  refine law_cv (As := [.int (xs (i + 1)), .int (xs (i + 2))]) (rest := []) hC2 hP hD hS hA hl.1 (rX11_made hpm) cwL_88 yvX11_made (va_recv (ci := 11) (q0 := 0) hC2.2.2.2.2.2.1 (law_left hP) rfl (wk_at tb_300)) rfl rfl (Nat.le_of_ble_eq_true rfl) (rmL4 (by decide) (by decide)) dL_law_756 (fun r2 w3 H locs h2 hP hD hS => ?_)
  have hP := e_swapP hP
  have hD := e_swapD hD
  rw [hgg] at hP
  refine lv_pop hx hb dL_law_759 rfl ?_
  refine lv_goto (tgt := 2075) hx hb dL_law_760 (by decide) ?_
  exact hend w1 w3 H locs h1 h2 hP hD hS
set_option maxHeartbeats 4000000 in
set_option maxRecDepth 100000 in
theorem case4_apart {p : Program} {l : Launch} {e : Env} {s : State} {m : MethodId} {below : List Frame} {meth : Method} {c : Code} {H : Heap} {locs : List Loc} {Q : State → Prop} {ls : Array Slot} {A : Nat → Prop} {g g2 : Gw} {w w2 : Wd} {b L i : Nat} {xs : Nat → Int32} {JX JM : Wd → Prop} (hLC : LC4 p s m c b L xs A g g2) (hi : i + 6 ≤ L) (hP : va_P g.1 vwCl (wsW tabX g w ++ wsW tabM g2 w2) H) (hD : va_D A (wsW tabX g w ++ wsW tabM g2 w2)) (hS : va_S A s.heap H locs) (hl : lv_has ls 4 (lvL4 b i g g2)) (hpx : pX10_apart (fun _ w1 => JX w1) (xs (i + 1)) (xs (i + 2)) (bz (xs (i + 3))) w) (hpm : pX11_apart (fun _ w1 => JM w1) (xs (i + 1)) (xs (i + 2)) (bz (xs (i + 3))) w2) (hend : ∀ (w1 w3 : Wd) (H : Heap) (locs : List Loc), JX w1 → JM w3 → va_P g.1 vwCl (wsW tabX g w1 ++ wsW tabM g2 w3) H → va_D A (wsW tabX g w1 ++ wsW tabM g2 w3) → va_S A s.heap H locs → W p l e room_1 s m #[.ref b] below meth c H locs 134 142488 Q (F0 m 2075 ls [])) : W p l e room_1 s m #[.ref b] below meth c H locs 134 142488 Q (F0 m 763 ls []) := by
  obtain ⟨hC, hC2, hgg, hXs, hbl, hbA, hA, hL⟩ := hLC
  have hx := hC.1
  have hb := hC.2.1
  by_cases hz3 : xs (i + 3) = 0
  · have hb3 : bz (xs (i + 3)) = 0 := if_pos hz3
    rw [hb3] at hpx hpm
    refine lv_aload_n hx hb dL_law_763 rfl (lv_at hl 1 rfl) ?_
    refine law4_arg (k0 := 0) (k3 := 3) (i := i) (j := 1) hx hb hXs hbl hbA hS hL hl rfl rfl (by omega) (by decide) dL_law_764 dL_law_765 dL_law_766 dL_law_767 dL_law_768 ?_
    refine law4_arg (k0 := 0) (k3 := 3) (i := i) (j := 2) hx hb hXs hbl hbA hS hL hl rfl rfl (by omega) (by decide) dL_law_769 dL_law_770 dL_law_771 dL_law_772 dL_law_773 ?_
    refine law4_arg (k0 := 0) (k3 := 3) (i := i) (j := 3) hx hb hXs hbl hbA hS hL hl rfl rfl (by omega) (by decide) dL_law_774 dL_law_775 dL_law_776 dL_law_777 dL_law_778 ?_
    refine lv_if_eq (tgt := 786) hx hb dL_law_779 (by decide) (fun _ => ?_) (fun c_1 => absurd hz3 c_1)
    refine lv_iconst (v := 0) hx hb dL_law_786 (by decide) ?_
    refine law_cv (As := [.int (xs (i + 1)), .int (xs (i + 2)), .int 0]) (rest := []) hC hP hD hS hA hl.1 (rX10_apart hpx) cwL_89 yvX10_apart (va_recv (ci := 10) (q0 := 0) hC.2.2.2.2.2.1 (law_left hP) rfl (wk_at tb_0)) rfl rfl (Nat.le_of_ble_eq_true rfl) (rmL4 (by decide) (by decide)) dL_law_787 (fun r1 w1 H locs h1 hP hD hS => ?_)
    refine lv_pop hx hb dL_law_790 rfl ?_
    refine lv_aload_n hx hb dL_law_791 rfl (lv_at hl 2 rfl) ?_
    refine law4_arg (k0 := 0) (k3 := 3) (i := i) (j := 1) hx hb hXs hbl hbA hS hL hl rfl rfl (by omega) (by decide) dL_law_792 dL_law_793 dL_law_794 dL_law_795 dL_law_796 ?_
    refine law4_arg (k0 := 0) (k3 := 3) (i := i) (j := 2) hx hb hXs hbl hbA hS hL hl rfl rfl (by omega) (by decide) dL_law_797 dL_law_798 dL_law_799 dL_law_800 dL_law_801 ?_
    refine law4_arg (k0 := 0) (k3 := 3) (i := i) (j := 3) hx hb hXs hbl hbA hS hL hl rfl rfl (by omega) (by decide) dL_law_802 dL_law_803 dL_law_804 dL_law_805 dL_law_806 ?_
    refine lv_if_eq (tgt := 814) hx hb dL_law_807 (by decide) (fun _ => ?_) (fun c_1 => absurd hz3 c_1)
    refine lv_iconst (v := 0) hx hb dL_law_814 (by decide) ?_
    have hP := e_swapP hP
    have hD := e_swapD hD
    rw [← hgg] at hP
    refine law_cv (As := [.int (xs (i + 1)), .int (xs (i + 2)), .int 0]) (rest := []) hC2 hP hD hS hA hl.1 (rX11_apart hpm) cwL_93 yvX11_apart (va_recv (ci := 11) (q0 := 0) hC2.2.2.2.2.2.1 (law_left hP) rfl (wk_at tb_300)) rfl rfl (Nat.le_of_ble_eq_true rfl) (rmL4 (by decide) (by decide)) dL_law_815 (fun r2 w3 H locs h2 hP hD hS => ?_)
    have hP := e_swapP hP
    have hD := e_swapD hD
    rw [hgg] at hP
    refine lv_pop hx hb dL_law_818 rfl ?_
    refine lv_goto (tgt := 2075) hx hb dL_law_819 (by decide) ?_
    exact hend w1 w3 H locs h1 h2 hP hD hS
  · have hb3 : bz (xs (i + 3)) = 1 := if_neg hz3
    rw [hb3] at hpx hpm
    refine lv_aload_n hx hb dL_law_763 rfl (lv_at hl 1 rfl) ?_
    refine law4_arg (k0 := 0) (k3 := 3) (i := i) (j := 1) hx hb hXs hbl hbA hS hL hl rfl rfl (by omega) (by decide) dL_law_764 dL_law_765 dL_law_766 dL_law_767 dL_law_768 ?_
    refine law4_arg (k0 := 0) (k3 := 3) (i := i) (j := 2) hx hb hXs hbl hbA hS hL hl rfl rfl (by omega) (by decide) dL_law_769 dL_law_770 dL_law_771 dL_law_772 dL_law_773 ?_
    refine law4_arg (k0 := 0) (k3 := 3) (i := i) (j := 3) hx hb hXs hbl hbA hS hL hl rfl rfl (by omega) (by decide) dL_law_774 dL_law_775 dL_law_776 dL_law_777 dL_law_778 ?_
    refine lv_if_eq (tgt := 786) hx hb dL_law_779 (by decide) (fun c_1 => absurd c_1 hz3) (fun _ => ?_)
    refine lv_iconst (v := 1) hx hb dL_law_782 (by decide) ?_
    refine lv_goto (tgt := 787) hx hb dL_law_783 (by decide) ?_
    refine law_cv (As := [.int (xs (i + 1)), .int (xs (i + 2)), .int 1]) (rest := []) hC hP hD hS hA hl.1 (rX10_apart hpx) cwL_89 yvX10_apart (va_recv (ci := 10) (q0 := 0) hC.2.2.2.2.2.1 (law_left hP) rfl (wk_at tb_0)) rfl rfl (Nat.le_of_ble_eq_true rfl) (rmL4 (by decide) (by decide)) dL_law_787 (fun r1 w1 H locs h1 hP hD hS => ?_)
    refine lv_pop hx hb dL_law_790 rfl ?_
    refine lv_aload_n hx hb dL_law_791 rfl (lv_at hl 2 rfl) ?_
    refine law4_arg (k0 := 0) (k3 := 3) (i := i) (j := 1) hx hb hXs hbl hbA hS hL hl rfl rfl (by omega) (by decide) dL_law_792 dL_law_793 dL_law_794 dL_law_795 dL_law_796 ?_
    refine law4_arg (k0 := 0) (k3 := 3) (i := i) (j := 2) hx hb hXs hbl hbA hS hL hl rfl rfl (by omega) (by decide) dL_law_797 dL_law_798 dL_law_799 dL_law_800 dL_law_801 ?_
    refine law4_arg (k0 := 0) (k3 := 3) (i := i) (j := 3) hx hb hXs hbl hbA hS hL hl rfl rfl (by omega) (by decide) dL_law_802 dL_law_803 dL_law_804 dL_law_805 dL_law_806 ?_
    refine lv_if_eq (tgt := 814) hx hb dL_law_807 (by decide) (fun c_1 => absurd c_1 hz3) (fun _ => ?_)
    refine lv_iconst (v := 1) hx hb dL_law_810 (by decide) ?_
    refine lv_goto (tgt := 815) hx hb dL_law_811 (by decide) ?_
    have hP := e_swapP hP
    have hD := e_swapD hD
    rw [← hgg] at hP
    refine law_cv (As := [.int (xs (i + 1)), .int (xs (i + 2)), .int 1]) (rest := []) hC2 hP hD hS hA hl.1 (rX11_apart hpm) cwL_93 yvX11_apart (va_recv (ci := 11) (q0 := 0) hC2.2.2.2.2.2.1 (law_left hP) rfl (wk_at tb_300)) rfl rfl (Nat.le_of_ble_eq_true rfl) (rmL4 (by decide) (by decide)) dL_law_815 (fun r2 w3 H locs h2 hP hD hS => ?_)
    have hP := e_swapP hP
    have hD := e_swapD hD
    rw [hgg] at hP
    refine lv_pop hx hb dL_law_818 rfl ?_
    refine lv_goto (tgt := 2075) hx hb dL_law_819 (by decide) ?_
    exact hend w1 w3 H locs h1 h2 hP hD hS
set_option maxHeartbeats 4000000 in
set_option maxRecDepth 100000 in
theorem case4_heats {p : Program} {l : Launch} {e : Env} {s : State} {m : MethodId} {below : List Frame} {meth : Method} {c : Code} {H : Heap} {locs : List Loc} {Q : State → Prop} {ls : Array Slot} {A : Nat → Prop} {g g2 : Gw} {w w2 : Wd} {b L i : Nat} {xs : Nat → Int32} {JX JM : Wd → Prop} (hLC : LC4 p s m c b L xs A g g2) (hi : i + 6 ≤ L) (hP : va_P g.1 vwCl (wsW tabX g w ++ wsW tabM g2 w2) H) (hD : va_D A (wsW tabX g w ++ wsW tabM g2 w2)) (hS : va_S A s.heap H locs) (hl : lv_has ls 4 (lvL4 b i g g2)) (hpx : pX10_heats (fun _ w1 => JX w1) (xs (i + 1)) (xs (i + 2)) (xs (i + 3)) w) (hpm : pX11_heats (fun _ w1 => JM w1) (xs (i + 1)) (xs (i + 2)) (xs (i + 3)) w2) (hend : ∀ (w1 w3 : Wd) (H : Heap) (locs : List Loc), JX w1 → JM w3 → va_P g.1 vwCl (wsW tabX g w1 ++ wsW tabM g2 w3) H → va_D A (wsW tabX g w1 ++ wsW tabM g2 w3) → va_S A s.heap H locs → W p l e room_1 s m #[.ref b] below meth c H locs 134 142488 Q (F0 m 2075 ls [])) : W p l e room_1 s m #[.ref b] below meth c H locs 134 142488 Q (F0 m 822 ls []) := by
  obtain ⟨hC, hC2, hgg, hXs, hbl, hbA, hA, hL⟩ := hLC
  have hx := hC.1
  have hb := hC.2.1
  refine lv_aload_n hx hb dL_law_822 rfl (lv_at hl 1 rfl) ?_
  refine law4_arg (k0 := 0) (k3 := 3) (i := i) (j := 1) hx hb hXs hbl hbA hS hL hl rfl rfl (by omega) (by decide) dL_law_823 dL_law_824 dL_law_825 dL_law_826 dL_law_827 ?_
  refine law4_arg (k0 := 0) (k3 := 3) (i := i) (j := 2) hx hb hXs hbl hbA hS hL hl rfl rfl (by omega) (by decide) dL_law_828 dL_law_829 dL_law_830 dL_law_831 dL_law_832 ?_
  refine law4_arg (k0 := 0) (k3 := 3) (i := i) (j := 3) hx hb hXs hbl hbA hS hL hl rfl rfl (by omega) (by decide) dL_law_833 dL_law_834 dL_law_835 dL_law_836 dL_law_837 ?_
  refine law_cv (As := [.int (xs (i + 1)), .int (xs (i + 2)), .int (xs (i + 3))]) (rest := []) hC hP hD hS hA hl.1 (rX10_heats hpx) cwL_94 yvX10_heats (va_recv (ci := 10) (q0 := 0) hC.2.2.2.2.2.1 (law_left hP) rfl (wk_at tb_0)) rfl rfl (Nat.le_of_ble_eq_true rfl) (rmL4 (by decide) (by decide)) dL_law_838 (fun r1 w1 H locs h1 hP hD hS => ?_)
  refine lv_pop hx hb dL_law_841 rfl ?_
  refine lv_aload_n hx hb dL_law_842 rfl (lv_at hl 2 rfl) ?_
  refine law4_arg (k0 := 0) (k3 := 3) (i := i) (j := 1) hx hb hXs hbl hbA hS hL hl rfl rfl (by omega) (by decide) dL_law_843 dL_law_844 dL_law_845 dL_law_846 dL_law_847 ?_
  refine law4_arg (k0 := 0) (k3 := 3) (i := i) (j := 2) hx hb hXs hbl hbA hS hL hl rfl rfl (by omega) (by decide) dL_law_848 dL_law_849 dL_law_850 dL_law_851 dL_law_852 ?_
  refine law4_arg (k0 := 0) (k3 := 3) (i := i) (j := 3) hx hb hXs hbl hbA hS hL hl rfl rfl (by omega) (by decide) dL_law_853 dL_law_854 dL_law_855 dL_law_856 dL_law_857 ?_
  have hP := e_swapP hP
  have hD := e_swapD hD
  rw [← hgg] at hP
  refine law_cv (As := [.int (xs (i + 1)), .int (xs (i + 2)), .int (xs (i + 3))]) (rest := []) hC2 hP hD hS hA hl.1 (rX11_heats hpm) cwL_97 yvX11_heats (va_recv (ci := 11) (q0 := 0) hC2.2.2.2.2.2.1 (law_left hP) rfl (wk_at tb_300)) rfl rfl (Nat.le_of_ble_eq_true rfl) (rmL4 (by decide) (by decide)) dL_law_858 (fun r2 w3 H locs h2 hP hD hS => ?_)
  have hP := e_swapP hP
  have hD := e_swapD hD
  rw [hgg] at hP
  refine lv_pop hx hb dL_law_861 rfl ?_
  refine lv_goto (tgt := 2075) hx hb dL_law_862 (by decide) ?_
  exact hend w1 w3 H locs h1 h2 hP hD hS
set_option maxHeartbeats 4000000 in
set_option maxRecDepth 100000 in
theorem case4_luck {p : Program} {l : Launch} {e : Env} {s : State} {m : MethodId} {below : List Frame} {meth : Method} {c : Code} {H : Heap} {locs : List Loc} {Q : State → Prop} {ls : Array Slot} {A : Nat → Prop} {g g2 : Gw} {w w2 : Wd} {b L i : Nat} {xs : Nat → Int32} {JX JM : Wd → Prop} (hLC : LC4 p s m c b L xs A g g2) (hi : i + 6 ≤ L) (hP : va_P g.1 vwCl (wsW tabX g w ++ wsW tabM g2 w2) H) (hD : va_D A (wsW tabX g w ++ wsW tabM g2 w2)) (hS : va_S A s.heap H locs) (hl : lv_has ls 4 (lvL4 b i g g2)) (hpx : pX10_luck (fun _ w1 => JX w1) (xs (i + 1)) (xs (i + 2)) (xs (i + 3)) (xs (i + 4)) w) (hpm : pX11_luck (fun _ w1 => JM w1) (xs (i + 1)) (xs (i + 2)) (xs (i + 3)) (xs (i + 4)) w2) (hend : ∀ (w1 w3 : Wd) (H : Heap) (locs : List Loc), JX w1 → JM w3 → va_P g.1 vwCl (wsW tabX g w1 ++ wsW tabM g2 w3) H → va_D A (wsW tabX g w1 ++ wsW tabM g2 w3) → va_S A s.heap H locs → W p l e room_1 s m #[.ref b] below meth c H locs 134 142488 Q (F0 m 2075 ls [])) : W p l e room_1 s m #[.ref b] below meth c H locs 134 142488 Q (F0 m 865 ls []) := by
  obtain ⟨hC, hC2, hgg, hXs, hbl, hbA, hA, hL⟩ := hLC
  have hx := hC.1
  have hb := hC.2.1
  refine lv_aload_n hx hb dL_law_865 rfl (lv_at hl 1 rfl) ?_
  refine law4_arg (k0 := 0) (k3 := 3) (i := i) (j := 1) hx hb hXs hbl hbA hS hL hl rfl rfl (by omega) (by decide) dL_law_866 dL_law_867 dL_law_868 dL_law_869 dL_law_870 ?_
  refine law4_arg (k0 := 0) (k3 := 3) (i := i) (j := 2) hx hb hXs hbl hbA hS hL hl rfl rfl (by omega) (by decide) dL_law_871 dL_law_872 dL_law_873 dL_law_874 dL_law_875 ?_
  refine law4_arg (k0 := 0) (k3 := 3) (i := i) (j := 3) hx hb hXs hbl hbA hS hL hl rfl rfl (by omega) (by decide) dL_law_876 dL_law_877 dL_law_878 dL_law_879 dL_law_880 ?_
  refine law4_arg (k0 := 0) (k3 := 3) (i := i) (j := 4) hx hb hXs hbl hbA hS hL hl rfl rfl (by omega) (by decide) dL_law_881 dL_law_882 dL_law_883 dL_law_884 dL_law_885 ?_
  refine law_cv (As := [.int (xs (i + 1)), .int (xs (i + 2)), .int (xs (i + 3)), .int (xs (i + 4))]) (rest := []) hC hP hD hS hA hl.1 (rX10_luck hpx) cwL_98 yvX10_luck (va_recv (ci := 10) (q0 := 0) hC.2.2.2.2.2.1 (law_left hP) rfl (wk_at tb_0)) rfl rfl (Nat.le_of_ble_eq_true rfl) (rmL4 (by decide) (by decide)) dL_law_886 (fun r1 w1 H locs h1 hP hD hS => ?_)
  refine lv_pop hx hb dL_law_889 rfl ?_
  refine lv_aload_n hx hb dL_law_890 rfl (lv_at hl 2 rfl) ?_
  refine law4_arg (k0 := 0) (k3 := 3) (i := i) (j := 1) hx hb hXs hbl hbA hS hL hl rfl rfl (by omega) (by decide) dL_law_891 dL_law_892 dL_law_893 dL_law_894 dL_law_895 ?_
  refine law4_arg (k0 := 0) (k3 := 3) (i := i) (j := 2) hx hb hXs hbl hbA hS hL hl rfl rfl (by omega) (by decide) dL_law_896 dL_law_897 dL_law_898 dL_law_899 dL_law_900 ?_
  refine law4_arg (k0 := 0) (k3 := 3) (i := i) (j := 3) hx hb hXs hbl hbA hS hL hl rfl rfl (by omega) (by decide) dL_law_901 dL_law_902 dL_law_903 dL_law_904 dL_law_905 ?_
  refine law4_arg (k0 := 0) (k3 := 3) (i := i) (j := 4) hx hb hXs hbl hbA hS hL hl rfl rfl (by omega) (by decide) dL_law_906 dL_law_907 dL_law_908 dL_law_909 dL_law_910 ?_
  have hP := e_swapP hP
  have hD := e_swapD hD
  rw [← hgg] at hP
  refine law_cv (As := [.int (xs (i + 1)), .int (xs (i + 2)), .int (xs (i + 3)), .int (xs (i + 4))]) (rest := []) hC2 hP hD hS hA hl.1 (rX11_luck hpm) cwL_101 yvX11_luck (va_recv (ci := 11) (q0 := 0) hC2.2.2.2.2.2.1 (law_left hP) rfl (wk_at tb_300)) rfl rfl (Nat.le_of_ble_eq_true rfl) (rmL4 (by decide) (by decide)) dL_law_911 (fun r2 w3 H locs h2 hP hD hS => ?_)
  have hP := e_swapP hP
  have hD := e_swapD hD
  rw [hgg] at hP
  refine lv_pop hx hb dL_law_914 rfl ?_
  refine lv_goto (tgt := 2075) hx hb dL_law_915 (by decide) ?_
  exact hend w1 w3 H locs h1 h2 hP hD hS
set_option maxHeartbeats 4000000 in
set_option maxRecDepth 100000 in
theorem case4_likely {p : Program} {l : Launch} {e : Env} {s : State} {m : MethodId} {below : List Frame} {meth : Method} {c : Code} {H : Heap} {locs : List Loc} {Q : State → Prop} {ls : Array Slot} {A : Nat → Prop} {g g2 : Gw} {w w2 : Wd} {b L i : Nat} {xs : Nat → Int32} {JX JM : Wd → Prop} (hLC : LC4 p s m c b L xs A g g2) (hi : i + 6 ≤ L) (hP : va_P g.1 vwCl (wsW tabX g w ++ wsW tabM g2 w2) H) (hD : va_D A (wsW tabX g w ++ wsW tabM g2 w2)) (hS : va_S A s.heap H locs) (hl : lv_has ls 4 (lvL4 b i g g2)) (hpx : pX10_likely (fun _ w1 => JX w1) (xs (i + 1)) (xs (i + 2)) (xs (i + 3)) (xs (i + 4)) w) (hpm : pX11_likely (fun _ w1 => JM w1) (xs (i + 1)) (xs (i + 2)) (xs (i + 3)) (xs (i + 4)) w2) (hend : ∀ (w1 w3 : Wd) (H : Heap) (locs : List Loc), JX w1 → JM w3 → va_P g.1 vwCl (wsW tabX g w1 ++ wsW tabM g2 w3) H → va_D A (wsW tabX g w1 ++ wsW tabM g2 w3) → va_S A s.heap H locs → W p l e room_1 s m #[.ref b] below meth c H locs 134 142488 Q (F0 m 2075 ls [])) : W p l e room_1 s m #[.ref b] below meth c H locs 134 142488 Q (F0 m 918 ls []) := by
  obtain ⟨hC, hC2, hgg, hXs, hbl, hbA, hA, hL⟩ := hLC
  have hx := hC.1
  have hb := hC.2.1
  refine lv_aload_n hx hb dL_law_918 rfl (lv_at hl 1 rfl) ?_
  refine law4_arg (k0 := 0) (k3 := 3) (i := i) (j := 1) hx hb hXs hbl hbA hS hL hl rfl rfl (by omega) (by decide) dL_law_919 dL_law_920 dL_law_921 dL_law_922 dL_law_923 ?_
  refine law4_arg (k0 := 0) (k3 := 3) (i := i) (j := 2) hx hb hXs hbl hbA hS hL hl rfl rfl (by omega) (by decide) dL_law_924 dL_law_925 dL_law_926 dL_law_927 dL_law_928 ?_
  refine law4_arg (k0 := 0) (k3 := 3) (i := i) (j := 3) hx hb hXs hbl hbA hS hL hl rfl rfl (by omega) (by decide) dL_law_929 dL_law_930 dL_law_931 dL_law_932 dL_law_933 ?_
  refine law4_arg (k0 := 0) (k3 := 3) (i := i) (j := 4) hx hb hXs hbl hbA hS hL hl rfl rfl (by omega) (by decide) dL_law_934 dL_law_935 dL_law_936 dL_law_937 dL_law_938 ?_
  refine law_cv (As := [.int (xs (i + 1)), .int (xs (i + 2)), .int (xs (i + 3)), .int (xs (i + 4))]) (rest := []) hC hP hD hS hA hl.1 (rX10_likely hpx) cwL_102 yvX10_likely (va_recv (ci := 10) (q0 := 0) hC.2.2.2.2.2.1 (law_left hP) rfl (wk_at tb_0)) rfl rfl (Nat.le_of_ble_eq_true rfl) (rmL4 (by decide) (by decide)) dL_law_939 (fun r1 w1 H locs h1 hP hD hS => ?_)
  refine lv_pop hx hb dL_law_942 rfl ?_
  refine lv_aload_n hx hb dL_law_943 rfl (lv_at hl 2 rfl) ?_
  refine law4_arg (k0 := 0) (k3 := 3) (i := i) (j := 1) hx hb hXs hbl hbA hS hL hl rfl rfl (by omega) (by decide) dL_law_944 dL_law_945 dL_law_946 dL_law_947 dL_law_948 ?_
  refine law4_arg (k0 := 0) (k3 := 3) (i := i) (j := 2) hx hb hXs hbl hbA hS hL hl rfl rfl (by omega) (by decide) dL_law_949 dL_law_950 dL_law_951 dL_law_952 dL_law_953 ?_
  refine law4_arg (k0 := 0) (k3 := 3) (i := i) (j := 3) hx hb hXs hbl hbA hS hL hl rfl rfl (by omega) (by decide) dL_law_954 dL_law_955 dL_law_956 dL_law_957 dL_law_958 ?_
  refine law4_arg (k0 := 0) (k3 := 3) (i := i) (j := 4) hx hb hXs hbl hbA hS hL hl rfl rfl (by omega) (by decide) dL_law_959 dL_law_960 dL_law_961 dL_law_962 dL_law_963 ?_
  have hP := e_swapP hP
  have hD := e_swapD hD
  rw [← hgg] at hP
  refine law_cv (As := [.int (xs (i + 1)), .int (xs (i + 2)), .int (xs (i + 3)), .int (xs (i + 4))]) (rest := []) hC2 hP hD hS hA hl.1 (rX11_likely hpm) cwL_105 yvX11_likely (va_recv (ci := 11) (q0 := 0) hC2.2.2.2.2.2.1 (law_left hP) rfl (wk_at tb_300)) rfl rfl (Nat.le_of_ble_eq_true rfl) (rmL4 (by decide) (by decide)) dL_law_964 (fun r2 w3 H locs h2 hP hD hS => ?_)
  have hP := e_swapP hP
  have hD := e_swapD hD
  rw [hgg] at hP
  refine lv_pop hx hb dL_law_967 rfl ?_
  refine lv_goto (tgt := 2075) hx hb dL_law_968 (by decide) ?_
  exact hend w1 w3 H locs h1 h2 hP hD hS
set_option maxHeartbeats 4000000 in
set_option maxRecDepth 100000 in
theorem case4_fades {p : Program} {l : Launch} {e : Env} {s : State} {m : MethodId} {below : List Frame} {meth : Method} {c : Code} {H : Heap} {locs : List Loc} {Q : State → Prop} {ls : Array Slot} {A : Nat → Prop} {g g2 : Gw} {w w2 : Wd} {b L i : Nat} {xs : Nat → Int32} {JX JM : Wd → Prop} (hLC : LC4 p s m c b L xs A g g2) (hi : i + 6 ≤ L) (hP : va_P g.1 vwCl (wsW tabX g w ++ wsW tabM g2 w2) H) (hD : va_D A (wsW tabX g w ++ wsW tabM g2 w2)) (hS : va_S A s.heap H locs) (hl : lv_has ls 4 (lvL4 b i g g2)) (hpx : pX10_fades (fun _ w1 => JX w1) (xs (i + 1)) (xs (i + 2)) (xs (i + 3)) w) (hpm : pX11_fades (fun _ w1 => JM w1) (xs (i + 1)) (xs (i + 2)) (xs (i + 3)) w2) (hend : ∀ (w1 w3 : Wd) (H : Heap) (locs : List Loc), JX w1 → JM w3 → va_P g.1 vwCl (wsW tabX g w1 ++ wsW tabM g2 w3) H → va_D A (wsW tabX g w1 ++ wsW tabM g2 w3) → va_S A s.heap H locs → W p l e room_1 s m #[.ref b] below meth c H locs 134 142488 Q (F0 m 2075 ls [])) : W p l e room_1 s m #[.ref b] below meth c H locs 134 142488 Q (F0 m 971 ls []) := by
  obtain ⟨hC, hC2, hgg, hXs, hbl, hbA, hA, hL⟩ := hLC
  have hx := hC.1
  have hb := hC.2.1
  refine lv_aload_n hx hb dL_law_971 rfl (lv_at hl 1 rfl) ?_
  refine law4_arg (k0 := 0) (k3 := 3) (i := i) (j := 1) hx hb hXs hbl hbA hS hL hl rfl rfl (by omega) (by decide) dL_law_972 dL_law_973 dL_law_974 dL_law_975 dL_law_976 ?_
  refine law4_arg (k0 := 0) (k3 := 3) (i := i) (j := 2) hx hb hXs hbl hbA hS hL hl rfl rfl (by omega) (by decide) dL_law_977 dL_law_978 dL_law_979 dL_law_980 dL_law_981 ?_
  refine law4_arg (k0 := 0) (k3 := 3) (i := i) (j := 3) hx hb hXs hbl hbA hS hL hl rfl rfl (by omega) (by decide) dL_law_982 dL_law_983 dL_law_984 dL_law_985 dL_law_986 ?_
  refine law_cv (As := [.int (xs (i + 1)), .int (xs (i + 2)), .int (xs (i + 3))]) (rest := []) hC hP hD hS hA hl.1 (rX10_fades hpx) cwL_106 yvX10_fades (va_recv (ci := 10) (q0 := 0) hC.2.2.2.2.2.1 (law_left hP) rfl (wk_at tb_0)) rfl rfl (Nat.le_of_ble_eq_true rfl) (rmL4 (by decide) (by decide)) dL_law_987 (fun r1 w1 H locs h1 hP hD hS => ?_)
  refine lv_pop hx hb dL_law_990 rfl ?_
  refine lv_aload_n hx hb dL_law_991 rfl (lv_at hl 2 rfl) ?_
  refine law4_arg (k0 := 0) (k3 := 3) (i := i) (j := 1) hx hb hXs hbl hbA hS hL hl rfl rfl (by omega) (by decide) dL_law_992 dL_law_993 dL_law_994 dL_law_995 dL_law_996 ?_
  refine law4_arg (k0 := 0) (k3 := 3) (i := i) (j := 2) hx hb hXs hbl hbA hS hL hl rfl rfl (by omega) (by decide) dL_law_997 dL_law_998 dL_law_999 dL_law_1000 dL_law_1001 ?_
  refine law4_arg (k0 := 0) (k3 := 3) (i := i) (j := 3) hx hb hXs hbl hbA hS hL hl rfl rfl (by omega) (by decide) dL_law_1002 dL_law_1003 dL_law_1004 dL_law_1005 dL_law_1006 ?_
  have hP := e_swapP hP
  have hD := e_swapD hD
  rw [← hgg] at hP
  refine law_cv (As := [.int (xs (i + 1)), .int (xs (i + 2)), .int (xs (i + 3))]) (rest := []) hC2 hP hD hS hA hl.1 (rX11_fades hpm) cwL_109 yvX11_fades (va_recv (ci := 11) (q0 := 0) hC2.2.2.2.2.2.1 (law_left hP) rfl (wk_at tb_300)) rfl rfl (Nat.le_of_ble_eq_true rfl) (rmL4 (by decide) (by decide)) dL_law_1007 (fun r2 w3 H locs h2 hP hD hS => ?_)
  have hP := e_swapP hP
  have hD := e_swapD hD
  rw [hgg] at hP
  refine lv_pop hx hb dL_law_1010 rfl ?_
  refine lv_goto (tgt := 2075) hx hb dL_law_1011 (by decide) ?_
  exact hend w1 w3 H locs h1 h2 hP hD hS
set_option maxHeartbeats 4000000 in
set_option maxRecDepth 100000 in
theorem case4_kin {p : Program} {l : Launch} {e : Env} {s : State} {m : MethodId} {below : List Frame} {meth : Method} {c : Code} {H : Heap} {locs : List Loc} {Q : State → Prop} {ls : Array Slot} {A : Nat → Prop} {g g2 : Gw} {w w2 : Wd} {b L i : Nat} {xs : Nat → Int32} {JX JM : Wd → Prop} (hLC : LC4 p s m c b L xs A g g2) (hi : i + 6 ≤ L) (hP : va_P g.1 vwCl (wsW tabX g w ++ wsW tabM g2 w2) H) (hD : va_D A (wsW tabX g w ++ wsW tabM g2 w2)) (hS : va_S A s.heap H locs) (hl : lv_has ls 4 (lvL4 b i g g2)) (hpx : pX10_kin (fun _ w1 => JX w1) (xs (i + 1)) (xs (i + 2)) (xs (i + 3)) w) (hpm : pX11_kin (fun _ w1 => JM w1) (xs (i + 1)) (xs (i + 2)) (xs (i + 3)) w2) (hend : ∀ (w1 w3 : Wd) (H : Heap) (locs : List Loc), JX w1 → JM w3 → va_P g.1 vwCl (wsW tabX g w1 ++ wsW tabM g2 w3) H → va_D A (wsW tabX g w1 ++ wsW tabM g2 w3) → va_S A s.heap H locs → W p l e room_1 s m #[.ref b] below meth c H locs 134 142488 Q (F0 m 2075 ls [])) : W p l e room_1 s m #[.ref b] below meth c H locs 134 142488 Q (F0 m 1014 ls []) := by
  obtain ⟨hC, hC2, hgg, hXs, hbl, hbA, hA, hL⟩ := hLC
  have hx := hC.1
  have hb := hC.2.1
  refine lv_aload_n hx hb dL_law_1014 rfl (lv_at hl 1 rfl) ?_
  refine law4_arg (k0 := 0) (k3 := 3) (i := i) (j := 1) hx hb hXs hbl hbA hS hL hl rfl rfl (by omega) (by decide) dL_law_1015 dL_law_1016 dL_law_1017 dL_law_1018 dL_law_1019 ?_
  refine law4_arg (k0 := 0) (k3 := 3) (i := i) (j := 2) hx hb hXs hbl hbA hS hL hl rfl rfl (by omega) (by decide) dL_law_1020 dL_law_1021 dL_law_1022 dL_law_1023 dL_law_1024 ?_
  refine law4_arg (k0 := 0) (k3 := 3) (i := i) (j := 3) hx hb hXs hbl hbA hS hL hl rfl rfl (by omega) (by decide) dL_law_1025 dL_law_1026 dL_law_1027 dL_law_1028 dL_law_1029 ?_
  refine law_cv (As := [.int (xs (i + 1)), .int (xs (i + 2)), .int (xs (i + 3))]) (rest := []) hC hP hD hS hA hl.1 (rX10_kin hpx) cwL_110 yvX10_kin (va_recv (ci := 10) (q0 := 0) hC.2.2.2.2.2.1 (law_left hP) rfl (wk_at tb_0)) rfl rfl (Nat.le_of_ble_eq_true rfl) (rmL4 (by decide) (by decide)) dL_law_1030 (fun r1 w1 H locs h1 hP hD hS => ?_)
  refine lv_pop hx hb dL_law_1033 rfl ?_
  refine lv_aload_n hx hb dL_law_1034 rfl (lv_at hl 2 rfl) ?_
  refine law4_arg (k0 := 0) (k3 := 3) (i := i) (j := 1) hx hb hXs hbl hbA hS hL hl rfl rfl (by omega) (by decide) dL_law_1035 dL_law_1036 dL_law_1037 dL_law_1038 dL_law_1039 ?_
  refine law4_arg (k0 := 0) (k3 := 3) (i := i) (j := 2) hx hb hXs hbl hbA hS hL hl rfl rfl (by omega) (by decide) dL_law_1040 dL_law_1041 dL_law_1042 dL_law_1043 dL_law_1044 ?_
  refine law4_arg (k0 := 0) (k3 := 3) (i := i) (j := 3) hx hb hXs hbl hbA hS hL hl rfl rfl (by omega) (by decide) dL_law_1045 dL_law_1046 dL_law_1047 dL_law_1048 dL_law_1049 ?_
  have hP := e_swapP hP
  have hD := e_swapD hD
  rw [← hgg] at hP
  refine law_cv (As := [.int (xs (i + 1)), .int (xs (i + 2)), .int (xs (i + 3))]) (rest := []) hC2 hP hD hS hA hl.1 (rX11_kin hpm) cwL_113 yvX11_kin (va_recv (ci := 11) (q0 := 0) hC2.2.2.2.2.2.1 (law_left hP) rfl (wk_at tb_300)) rfl rfl (Nat.le_of_ble_eq_true rfl) (rmL4 (by decide) (by decide)) dL_law_1050 (fun r2 w3 H locs h2 hP hD hS => ?_)
  have hP := e_swapP hP
  have hD := e_swapD hD
  rw [hgg] at hP
  refine lv_pop hx hb dL_law_1053 rfl ?_
  refine lv_goto (tgt := 2075) hx hb dL_law_1054 (by decide) ?_
  exact hend w1 w3 H locs h1 h2 hP hD hS
set_option maxHeartbeats 4000000 in
set_option maxRecDepth 100000 in
theorem case4_thumb {p : Program} {l : Launch} {e : Env} {s : State} {m : MethodId} {below : List Frame} {meth : Method} {c : Code} {H : Heap} {locs : List Loc} {Q : State → Prop} {ls : Array Slot} {A : Nat → Prop} {g g2 : Gw} {w w2 : Wd} {b L i : Nat} {xs : Nat → Int32} {JX JM : Wd → Prop} (hLC : LC4 p s m c b L xs A g g2) (hi : i + 6 ≤ L) (hP : va_P g.1 vwCl (wsW tabX g w ++ wsW tabM g2 w2) H) (hD : va_D A (wsW tabX g w ++ wsW tabM g2 w2)) (hS : va_S A s.heap H locs) (hl : lv_has ls 4 (lvL4 b i g g2)) (hpx : pX10_thumb (fun _ w1 => JX w1) (xs (i + 1)) (xs (i + 2)) w) (hpm : pX11_thumb (fun _ w1 => JM w1) (xs (i + 1)) (xs (i + 2)) w2) (hend : ∀ (w1 w3 : Wd) (H : Heap) (locs : List Loc), JX w1 → JM w3 → va_P g.1 vwCl (wsW tabX g w1 ++ wsW tabM g2 w3) H → va_D A (wsW tabX g w1 ++ wsW tabM g2 w3) → va_S A s.heap H locs → W p l e room_1 s m #[.ref b] below meth c H locs 134 142488 Q (F0 m 2075 ls [])) : W p l e room_1 s m #[.ref b] below meth c H locs 134 142488 Q (F0 m 1057 ls []) := by
  obtain ⟨hC, hC2, hgg, hXs, hbl, hbA, hA, hL⟩ := hLC
  have hx := hC.1
  have hb := hC.2.1
  refine lv_aload_n hx hb dL_law_1057 rfl (lv_at hl 1 rfl) ?_
  refine law4_arg (k0 := 0) (k3 := 3) (i := i) (j := 1) hx hb hXs hbl hbA hS hL hl rfl rfl (by omega) (by decide) dL_law_1058 dL_law_1059 dL_law_1060 dL_law_1061 dL_law_1062 ?_
  refine law4_arg (k0 := 0) (k3 := 3) (i := i) (j := 2) hx hb hXs hbl hbA hS hL hl rfl rfl (by omega) (by decide) dL_law_1063 dL_law_1064 dL_law_1065 dL_law_1066 dL_law_1067 ?_
  refine law_cv (As := [.int (xs (i + 1)), .int (xs (i + 2))]) (rest := []) hC hP hD hS hA hl.1 (rX10_thumb hpx) cwL_114 yvX10_thumb (va_recv (ci := 10) (q0 := 0) hC.2.2.2.2.2.1 (law_left hP) rfl (wk_at tb_0)) rfl rfl (Nat.le_of_ble_eq_true rfl) (rmL4 (by decide) (by decide)) dL_law_1068 (fun r1 w1 H locs h1 hP hD hS => ?_)
  refine lv_pop hx hb dL_law_1071 rfl ?_
  refine lv_aload_n hx hb dL_law_1072 rfl (lv_at hl 2 rfl) ?_
  refine law4_arg (k0 := 0) (k3 := 3) (i := i) (j := 1) hx hb hXs hbl hbA hS hL hl rfl rfl (by omega) (by decide) dL_law_1073 dL_law_1074 dL_law_1075 dL_law_1076 dL_law_1077 ?_
  refine law4_arg (k0 := 0) (k3 := 3) (i := i) (j := 2) hx hb hXs hbl hbA hS hL hl rfl rfl (by omega) (by decide) dL_law_1078 dL_law_1079 dL_law_1080 dL_law_1081 dL_law_1082 ?_
  have hP := e_swapP hP
  have hD := e_swapD hD
  rw [← hgg] at hP
  refine law_cv (As := [.int (xs (i + 1)), .int (xs (i + 2))]) (rest := []) hC2 hP hD hS hA hl.1 (rX11_thumb hpm) cwL_117 yvX11_thumb (va_recv (ci := 11) (q0 := 0) hC2.2.2.2.2.2.1 (law_left hP) rfl (wk_at tb_300)) rfl rfl (Nat.le_of_ble_eq_true rfl) (rmL4 (by decide) (by decide)) dL_law_1083 (fun r2 w3 H locs h2 hP hD hS => ?_)
  have hP := e_swapP hP
  have hD := e_swapD hD
  rw [hgg] at hP
  refine lv_pop hx hb dL_law_1086 rfl ?_
  refine lv_goto (tgt := 2075) hx hb dL_law_1087 (by decide) ?_
  exact hend w1 w3 H locs h1 h2 hP hD hS
set_option maxHeartbeats 4000000 in
set_option maxRecDepth 100000 in
theorem case4_share {p : Program} {l : Launch} {e : Env} {s : State} {m : MethodId} {below : List Frame} {meth : Method} {c : Code} {H : Heap} {locs : List Loc} {Q : State → Prop} {ls : Array Slot} {A : Nat → Prop} {g g2 : Gw} {w w2 : Wd} {b L i : Nat} {xs : Nat → Int32} {JX JM : Wd → Prop} (hLC : LC4 p s m c b L xs A g g2) (hi : i + 6 ≤ L) (hP : va_P g.1 vwCl (wsW tabX g w ++ wsW tabM g2 w2) H) (hD : va_D A (wsW tabX g w ++ wsW tabM g2 w2)) (hS : va_S A s.heap H locs) (hl : lv_has ls 4 (lvL4 b i g g2)) (hpx : pX10_share (fun _ w1 => JX w1) (xs (i + 1)) (xs (i + 2)) (xs (i + 3)) w) (hpm : pX11_share (fun _ w1 => JM w1) (xs (i + 1)) (xs (i + 2)) (xs (i + 3)) w2) (hend : ∀ (w1 w3 : Wd) (H : Heap) (locs : List Loc), JX w1 → JM w3 → va_P g.1 vwCl (wsW tabX g w1 ++ wsW tabM g2 w3) H → va_D A (wsW tabX g w1 ++ wsW tabM g2 w3) → va_S A s.heap H locs → W p l e room_1 s m #[.ref b] below meth c H locs 134 142488 Q (F0 m 2075 ls [])) : W p l e room_1 s m #[.ref b] below meth c H locs 134 142488 Q (F0 m 1090 ls []) := by
  obtain ⟨hC, hC2, hgg, hXs, hbl, hbA, hA, hL⟩ := hLC
  have hx := hC.1
  have hb := hC.2.1
  refine lv_aload_n hx hb dL_law_1090 rfl (lv_at hl 1 rfl) ?_
  refine law4_arg (k0 := 0) (k3 := 3) (i := i) (j := 1) hx hb hXs hbl hbA hS hL hl rfl rfl (by omega) (by decide) dL_law_1091 dL_law_1092 dL_law_1093 dL_law_1094 dL_law_1095 ?_
  refine law4_arg (k0 := 0) (k3 := 3) (i := i) (j := 2) hx hb hXs hbl hbA hS hL hl rfl rfl (by omega) (by decide) dL_law_1096 dL_law_1097 dL_law_1098 dL_law_1099 dL_law_1100 ?_
  refine law4_arg (k0 := 0) (k3 := 3) (i := i) (j := 3) hx hb hXs hbl hbA hS hL hl rfl rfl (by omega) (by decide) dL_law_1101 dL_law_1102 dL_law_1103 dL_law_1104 dL_law_1105 ?_
  refine law_cv (As := [.int (xs (i + 1)), .int (xs (i + 2)), .int (xs (i + 3))]) (rest := []) hC hP hD hS hA hl.1 (rX10_share hpx) cwL_118 yvX10_share (va_recv (ci := 10) (q0 := 0) hC.2.2.2.2.2.1 (law_left hP) rfl (wk_at tb_0)) rfl rfl (Nat.le_of_ble_eq_true rfl) (rmL4 (by decide) (by decide)) dL_law_1106 (fun r1 w1 H locs h1 hP hD hS => ?_)
  refine lv_pop hx hb dL_law_1109 rfl ?_
  refine lv_aload_n hx hb dL_law_1110 rfl (lv_at hl 2 rfl) ?_
  refine law4_arg (k0 := 0) (k3 := 3) (i := i) (j := 1) hx hb hXs hbl hbA hS hL hl rfl rfl (by omega) (by decide) dL_law_1111 dL_law_1112 dL_law_1113 dL_law_1114 dL_law_1115 ?_
  refine law4_arg (k0 := 0) (k3 := 3) (i := i) (j := 2) hx hb hXs hbl hbA hS hL hl rfl rfl (by omega) (by decide) dL_law_1116 dL_law_1117 dL_law_1118 dL_law_1119 dL_law_1120 ?_
  refine law4_arg (k0 := 0) (k3 := 3) (i := i) (j := 3) hx hb hXs hbl hbA hS hL hl rfl rfl (by omega) (by decide) dL_law_1121 dL_law_1122 dL_law_1123 dL_law_1124 dL_law_1125 ?_
  have hP := e_swapP hP
  have hD := e_swapD hD
  rw [← hgg] at hP
  refine law_cv (As := [.int (xs (i + 1)), .int (xs (i + 2)), .int (xs (i + 3))]) (rest := []) hC2 hP hD hS hA hl.1 (rX11_share hpm) cwL_121 yvX11_share (va_recv (ci := 11) (q0 := 0) hC2.2.2.2.2.2.1 (law_left hP) rfl (wk_at tb_300)) rfl rfl (Nat.le_of_ble_eq_true rfl) (rmL4 (by decide) (by decide)) dL_law_1126 (fun r2 w3 H locs h2 hP hD hS => ?_)
  have hP := e_swapP hP
  have hD := e_swapD hD
  rw [hgg] at hP
  refine lv_pop hx hb dL_law_1129 rfl ?_
  refine lv_goto (tgt := 2075) hx hb dL_law_1130 (by decide) ?_
  exact hend w1 w3 H locs h1 h2 hP hD hS
set_option maxHeartbeats 4000000 in
set_option maxRecDepth 100000 in
theorem case4_forge {p : Program} {l : Launch} {e : Env} {s : State} {m : MethodId} {below : List Frame} {meth : Method} {c : Code} {H : Heap} {locs : List Loc} {Q : State → Prop} {ls : Array Slot} {A : Nat → Prop} {g g2 : Gw} {w w2 : Wd} {b L i : Nat} {xs : Nat → Int32} {JX JM : Wd → Prop} (hLC : LC4 p s m c b L xs A g g2) (hi : i + 6 ≤ L) (hP : va_P g.1 vwCl (wsW tabX g w ++ wsW tabM g2 w2) H) (hD : va_D A (wsW tabX g w ++ wsW tabM g2 w2)) (hS : va_S A s.heap H locs) (hl : lv_has ls 4 (lvL4 b i g g2)) (hpx : pX10_forge (fun _ w1 => JX w1) (xs (i + 1)) (xs (i + 2)) (xs (i + 3)) (xs (i + 4)) (xs (i + 5)) w) (hpm : pX11_forge (fun _ w1 => JM w1) (xs (i + 1)) (xs (i + 2)) (xs (i + 3)) (xs (i + 4)) (xs (i + 5)) w2) (hend : ∀ (w1 w3 : Wd) (H : Heap) (locs : List Loc), JX w1 → JM w3 → va_P g.1 vwCl (wsW tabX g w1 ++ wsW tabM g2 w3) H → va_D A (wsW tabX g w1 ++ wsW tabM g2 w3) → va_S A s.heap H locs → W p l e room_1 s m #[.ref b] below meth c H locs 134 142488 Q (F0 m 2075 ls [])) : W p l e room_1 s m #[.ref b] below meth c H locs 134 142488 Q (F0 m 1133 ls []) := by
  obtain ⟨hC, hC2, hgg, hXs, hbl, hbA, hA, hL⟩ := hLC
  have hx := hC.1
  have hb := hC.2.1
  refine lv_aload_n hx hb dL_law_1133 rfl (lv_at hl 1 rfl) ?_
  refine law4_arg (k0 := 0) (k3 := 3) (i := i) (j := 1) hx hb hXs hbl hbA hS hL hl rfl rfl (by omega) (by decide) dL_law_1134 dL_law_1135 dL_law_1136 dL_law_1137 dL_law_1138 ?_
  refine law4_arg (k0 := 0) (k3 := 3) (i := i) (j := 2) hx hb hXs hbl hbA hS hL hl rfl rfl (by omega) (by decide) dL_law_1139 dL_law_1140 dL_law_1141 dL_law_1142 dL_law_1143 ?_
  refine law4_arg (k0 := 0) (k3 := 3) (i := i) (j := 3) hx hb hXs hbl hbA hS hL hl rfl rfl (by omega) (by decide) dL_law_1144 dL_law_1145 dL_law_1146 dL_law_1147 dL_law_1148 ?_
  refine law4_arg (k0 := 0) (k3 := 3) (i := i) (j := 4) hx hb hXs hbl hbA hS hL hl rfl rfl (by omega) (by decide) dL_law_1149 dL_law_1150 dL_law_1151 dL_law_1152 dL_law_1153 ?_
  refine law4_arg (k0 := 0) (k3 := 3) (i := i) (j := 5) hx hb hXs hbl hbA hS hL hl rfl rfl (by omega) (by decide) dL_law_1154 dL_law_1155 dL_law_1156 dL_law_1157 dL_law_1158 ?_
  refine law_cv (As := [.int (xs (i + 1)), .int (xs (i + 2)), .int (xs (i + 3)), .int (xs (i + 4)), .int (xs (i + 5))]) (rest := []) hC hP hD hS hA hl.1 (rX10_forge hpx) cwL_122 yvX10_forge (va_recv (ci := 10) (q0 := 0) hC.2.2.2.2.2.1 (law_left hP) rfl (wk_at tb_0)) rfl rfl (Nat.le_of_ble_eq_true rfl) (rmL4 (by decide) (by decide)) dL_law_1159 (fun r1 w1 H locs h1 hP hD hS => ?_)
  refine lv_pop hx hb dL_law_1162 rfl ?_
  refine lv_aload_n hx hb dL_law_1163 rfl (lv_at hl 2 rfl) ?_
  refine law4_arg (k0 := 0) (k3 := 3) (i := i) (j := 1) hx hb hXs hbl hbA hS hL hl rfl rfl (by omega) (by decide) dL_law_1164 dL_law_1165 dL_law_1166 dL_law_1167 dL_law_1168 ?_
  refine law4_arg (k0 := 0) (k3 := 3) (i := i) (j := 2) hx hb hXs hbl hbA hS hL hl rfl rfl (by omega) (by decide) dL_law_1169 dL_law_1170 dL_law_1171 dL_law_1172 dL_law_1173 ?_
  refine law4_arg (k0 := 0) (k3 := 3) (i := i) (j := 3) hx hb hXs hbl hbA hS hL hl rfl rfl (by omega) (by decide) dL_law_1174 dL_law_1175 dL_law_1176 dL_law_1177 dL_law_1178 ?_
  refine law4_arg (k0 := 0) (k3 := 3) (i := i) (j := 4) hx hb hXs hbl hbA hS hL hl rfl rfl (by omega) (by decide) dL_law_1179 dL_law_1180 dL_law_1181 dL_law_1182 dL_law_1183 ?_
  refine law4_arg (k0 := 0) (k3 := 3) (i := i) (j := 5) hx hb hXs hbl hbA hS hL hl rfl rfl (by omega) (by decide) dL_law_1184 dL_law_1185 dL_law_1186 dL_law_1187 dL_law_1188 ?_
  have hP := e_swapP hP
  have hD := e_swapD hD
  rw [← hgg] at hP
  refine law_cv (As := [.int (xs (i + 1)), .int (xs (i + 2)), .int (xs (i + 3)), .int (xs (i + 4)), .int (xs (i + 5))]) (rest := []) hC2 hP hD hS hA hl.1 (rX11_forge hpm) cwL_125 yvX11_forge (va_recv (ci := 11) (q0 := 0) hC2.2.2.2.2.2.1 (law_left hP) rfl (wk_at tb_300)) rfl rfl (Nat.le_of_ble_eq_true rfl) (rmL4 (by decide) (by decide)) dL_law_1189 (fun r2 w3 H locs h2 hP hD hS => ?_)
  have hP := e_swapP hP
  have hD := e_swapD hD
  rw [hgg] at hP
  refine lv_pop hx hb dL_law_1192 rfl ?_
  refine lv_goto (tgt := 2075) hx hb dL_law_1193 (by decide) ?_
  exact hend w1 w3 H locs h1 h2 hP hD hS
