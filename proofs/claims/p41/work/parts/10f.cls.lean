set_option maxHeartbeats 4000000 in
set_option maxRecDepth 100000 in
theorem sX10_nearest_41 {T D : Int} {k : Nat} {k32 : Int32 → Int32 → Int32 → Int32 → Int32 → Int32 → Wd → Prop} {M32 : Int} {post : Int32 → Wd → Prop} {w : Wd} (hk32 : ∀ (x1 : Int32) (x2 : Int32) (x3 : Int32) (x4 : Int32) (x5 : Int32) (x6 : Int32) (zx1 : Int) (zx2 : Int) (zx3 : Int) (zx4 : Int) (zx5 : Int) (zx6 : Int) (w : Wd), Ti x1 zx1 → Ti x2 zx2 → Ti x3 zx3 → Ti x4 zx4 → Ti x5 zx5 → Ti x6 zx6 → IX k T D w → (0 ≤ zx6 ∧ zx6 ≤ 2) → (3 - zx6) < M32 → k32 x1 x2 x3 x4 x5 x6 w) (hp : ∀ (r : Int32) (zr : Int), Ti r zr → post r w) : ∀ (n : Nat) (x1 : Int32) (x2 : Int32) (x3 : Int32) (x4 : Int32) (x5 : Int32) (x6 : Int32) (x7 : Int32) (zx1 : Int) (zx2 : Int) (zx3 : Int) (zx4 : Int) (zx5 : Int) (zx6 : Int) (zx7 : Int), Ti x1 zx1 → Ti x2 zx2 → Ti x3 zx3 → Ti x4 zx4 → Ti x5 zx5 → Ti x6 zx6 → Ti x7 zx7 → IX k T D w → (0 ≤ zx7 ∧ zx7 ≤ 24) → (0 ≤ zx6 ∧ zx6 ≤ 2) → ((3 - zx6) ≤ M32) → (25 - zx7) < (n : Int) → pX10_nearest_41 k32  post  n x1 x2 x3 x4 x5 x6 x7 w := by
  intro n
  induction n with
  | zero =>
    intro x1 x2 x3 x4 x5 x6 x7 zx1 zx2 zx3 zx4 zx5 zx6 zx7  tx1 tx2 tx3 tx4 tx5 tx6 tx7 hI h0 h1 h2 hm
    exact absurd hm (by omega)
  | succ n ih =>
    intro x1 x2 x3 x4 x5 x6 x7 zx1 zx2 zx3 zx4 zx5 zx6 zx7  tx1 tx2 tx3 tx4 tx5 tx6 tx7 hI h0 h1 h2 hm
    unfold pX10_nearest_41
    have hk := ix_k hI
    obtain ⟨z2472, t2473⟩ := t_any (w.1 160 0)
    have f2474 := ixg_c0 hI t2473
    refine ⟨fun c2475 => ?_, fun c2475 => ?_⟩
    · replace c2475 := c_le t2473 tx7 c2475
      obtain ⟨z2476, t2477, f2478⟩ := t_add tx6 lit_1
      first | replace f2478 := f2478 (by omega) | clear f2478
      intro x6_2v1211 ex6_2v1211
      have tx6_2v1211 : Ti x6_2v1211 z2476 := by rw [ex6_2v1211]; exact t2477
      exact hk32 _ _ _ _ _ _ _ _ _ _ _ _ _ tx1 tx2 tx3 tx4 tx5 tx6_2v1211 hI (by omega) (by omega)
    · replace c2475 := c_nle t2473 tx7 c2475
      refine ⟨fun c2479 => ?_, fun c2479 => ?_⟩
      · replace c2479 := c_neq tx6 lit_0 c2479
        refine ⟨vp_of tx7 (by omega) (by omega), ?_⟩
        unfold pX10_nearest_78
        obtain ⟨z2480, t2481⟩ := t_any (x1 ^^^ (w.2.1 162 x7.toNatClampNeg))
        refine sJ6_bitCount_0f7a4   (hI := hI) (tx0 := t2481)  (hp := fun r_1v1214 zr_1v1214 tr_1v1214 p2482 => ?_)
        refine ⟨fun c2483 => ?_, fun c2483 => ?_⟩
        · replace c2483 := c_le tx3 tr_1v1214 c2483
          unfold pX10_nearest_101
          obtain ⟨z2484, t2485, f2486⟩ := t_add tx7 lit_1
          first | replace f2486 := f2486 (by omega) | clear f2486
          intro x7_1v1216 ex7_1v1216
          have tx7_1v1216 : Ti x7_1v1216 z2484 := by rw [ex7_1v1216]; exact t2485
          exact ih _ _ _ _ _ _ _ _ _ _ _ _ _ _  tx1 tx2 tx3 tx4 tx5 tx6 tx7_1v1216 hI (by omega) (by omega) (by omega) (by omega)
        · replace c2483 := c_nle tx3 tr_1v1214 c2483
          unfold pX10_nearest_101
          obtain ⟨z2487, t2488, f2489⟩ := t_add tx7 lit_1
          first | replace f2489 := f2489 (by omega) | clear f2489
          intro x7_1v1217 ex7_1v1217
          have tx7_1v1217 : Ti x7_1v1217 z2487 := by rw [ex7_1v1217]; exact t2488
          exact ih _ _ _ _ _ _ _ _ _ _ _ _ _ _  tx1 tx2 tr_1v1214 tx7 tx6 tx6 tx7_1v1217 hI (by omega) (by omega) (by omega) (by omega)
      · replace c2479 := c_eq tx6 lit_0 c2479
        refine sX10_printOf   (hI := hI) (tx1 := tx7)  (hp := fun r_4v1212 zr_4v1212 tr_4v1212 => ?_)
        unfold pX10_nearest_78
        obtain ⟨z2490, t2491⟩ := t_any (x1 ^^^ r_4v1212)
        refine sJ6_bitCount_0f7a4   (hI := hI) (tx0 := t2491)  (hp := fun r_1v1218 zr_1v1218 tr_1v1218 p2492 => ?_)
        refine ⟨fun c2493 => ?_, fun c2493 => ?_⟩
        · replace c2493 := c_le tx3 tr_1v1218 c2493
          unfold pX10_nearest_101
          obtain ⟨z2494, t2495, f2496⟩ := t_add tx7 lit_1
          first | replace f2496 := f2496 (by omega) | clear f2496
          intro x7_1v1220 ex7_1v1220
          have tx7_1v1220 : Ti x7_1v1220 z2494 := by rw [ex7_1v1220]; exact t2495
          exact ih _ _ _ _ _ _ _ _ _ _ _ _ _ _  tx1 tx2 tx3 tx4 tx5 tx6 tx7_1v1220 hI (by omega) (by omega) (by omega) (by omega)
        · replace c2493 := c_nle tx3 tr_1v1218 c2493
          unfold pX10_nearest_101
          obtain ⟨z2497, t2498, f2499⟩ := t_add tx7 lit_1
          first | replace f2499 := f2499 (by omega) | clear f2499
          intro x7_1v1221 ex7_1v1221
          have tx7_1v1221 : Ti x7_1v1221 z2497 := by rw [ex7_1v1221]; exact t2498
          exact ih _ _ _ _ _ _ _ _ _ _ _ _ _ _  tx1 tx2 tr_1v1218 tx7 tx6 tx6 tx7_1v1221 hI (by omega) (by omega) (by omega) (by omega)
set_option maxHeartbeats 4000000 in
set_option maxRecDepth 100000 in
theorem sX10_nearest_32 {T D : Int} {k : Nat} {post : Int32 → Wd → Prop} {w : Wd}  (hp : ∀ (r : Int32) (zr : Int), Ti r zr → post r w) : ∀ (n : Nat) (x1 : Int32) (x2 : Int32) (x3 : Int32) (x4 : Int32) (x5 : Int32) (x6 : Int32) (zx1 : Int) (zx2 : Int) (zx3 : Int) (zx4 : Int) (zx5 : Int) (zx6 : Int), Ti x1 zx1 → Ti x2 zx2 → Ti x3 zx3 → Ti x4 zx4 → Ti x5 zx5 → Ti x6 zx6 → IX k T D w → (0 ≤ zx6 ∧ zx6 ≤ 2) → (3 - zx6) < (n : Int) → pX10_nearest_32   post  n x1 x2 x3 x4 x5 x6 w := by
  intro n
  induction n with
  | zero =>
    intro x1 x2 x3 x4 x5 x6 zx1 zx2 zx3 zx4 zx5 zx6  tx1 tx2 tx3 tx4 tx5 tx6 hI h0 hm
    exact absurd hm (by omega)
  | succ n ih =>
    intro x1 x2 x3 x4 x5 x6 zx1 zx2 zx3 zx4 zx5 zx6  tx1 tx2 tx3 tx4 tx5 tx6 hI h0 hm
    unfold pX10_nearest_32
    have hk := ix_k hI
    refine ⟨fun c2500 => ?_, fun c2500 => ?_⟩
    · replace c2500 := c_le lit_2 tx6 c2500
      refine ⟨fun c2501 => ?_, fun c2501 => ?_⟩
      · replace c2501 := c_neq tx2 lit_0 c2501
        refine ⟨fun c2502 => ?_, fun c2502 => ?_⟩
        · replace c2502 := c_neq tx2 lit_1 c2502
          exact hp _ _ tx5 
        · replace c2502 := c_eq tx2 lit_1 c2502
          exact hp _ _ tx4 
      · replace c2501 := c_eq tx2 lit_0 c2501
        exact hp _ _ tx3 
    · replace c2500 := c_nle lit_2 tx6 c2500
      exact ⟨70000, sX10_nearest_41 (M32 := (n : Int)) (hk32 := ih)  (hp := hp) 70000 _ _ _ _ _ _ _ _ _ _ _ _ _ _  tx1 tx2 tx3 tx4 tx5 tx6 lit_0 hI (by omega) (by omega) (by omega) (by omega)⟩
set_option maxHeartbeats 4000000 in
set_option maxRecDepth 100000 in
theorem sX10_nearest {T D : Int} {k : Nat} {post : Int32 → Wd → Prop} {x1 : Int32} {zx1 : Int} {x2 : Int32} {zx2 : Int} {w : Wd}  (tx1 : Ti x1 zx1) (tx2 : Ti x2 zx2) (hI : IX k T D w)  (hp : ∀ (r : Int32) (zr : Int), Ti r zr → post r w) : pX10_nearest   post  x1 x2 w := by
  unfold pX10_nearest
  have hk := ix_k hI
  refine sX10_isRow   (hI := hI) (tx1 := tx1)  (hp := fun r_1v1222 zr_1v1222 tr_1v1222 p2503 => ?_)
  refine ⟨fun c2504 => ?_, fun c2504 => ?_⟩
  · replace c2504 := c_eq tr_1v1222 lit_0 c2504
    exact hp _ _ lit_m1 
  · replace c2504 := c_neq tr_1v1222 lit_0 c2504
    refine ⟨fun c2505 => ?_, fun c2505 => ?_⟩
    · replace c2505 := c_lt tx2 lit_0 c2505
      exact hp _ _ lit_m1 
    · replace c2505 := c_nlt tx2 lit_0 c2505
      refine ⟨fun c2506 => ?_, fun c2506 => ?_⟩
      · replace c2506 := c_le tx2 lit_2 c2506
        exact ⟨70000, sX10_nearest_32   (hp := hp) 70000 _ _ _ _ _ _ _ _ _ _ _ _  tx1 tx2 lit_1000 lit_m1 lit_0 lit_0 hI (by omega) (by omega)⟩
      · replace c2506 := c_nle tx2 lit_2 c2506
        exact hp _ _ lit_m1 
set_option maxHeartbeats 4000000 in
set_option maxRecDepth 100000 in
theorem sX10_marksOfAllPrints_12 {T D : Int} {k : Nat} {post : Int32 → Wd → Prop} {w : Wd}  (hp : ∀ (r : Int32) (zr : Int), Ti r zr → post r w) : ∀ (n : Nat) (x1 : Int32) (x2 : Int32) (zx1 : Int) (zx2 : Int), Ti x1 zx1 → Ti x2 zx2 → IX k T D w → (0 ≤ zx2 ∧ zx2 ≤ 40) → (41 - zx2) < (n : Int) → pX10_marksOfAllPrints_12   post  n x1 x2 w := by
  intro n
  induction n with
  | zero =>
    intro x1 x2 zx1 zx2  tx1 tx2 hI h0 hm
    exact absurd hm (by omega)
  | succ n ih =>
    intro x1 x2 zx1 zx2  tx1 tx2 hI h0 hm
    unfold pX10_marksOfAllPrints_12
    have hk := ix_k hI
    obtain ⟨z2507, t2508⟩ := t_any (w.1 160 6)
    have f2509 := ixg_c6 hI t2508
    refine ⟨fun c2510 => ?_, fun c2510 => ?_⟩
    · replace c2510 := c_le t2508 tx2 c2510
      exact hp _ _ tx1 
    · replace c2510 := c_nle t2508 tx2 c2510
      refine ⟨vp_of tx2 (by omega) (by omega), ?_⟩
      obtain ⟨z2511, t2512⟩ := t_any (x1 &&& (w.2.1 168 x2.toNatClampNeg))
      intro x1_2v1224 ex1_2v1224
      have tx1_2v1224 : Ti x1_2v1224 z2511 := by rw [ex1_2v1224]; exact t2512
      obtain ⟨z2513, t2514, f2515⟩ := t_add tx2 lit_1
      first | replace f2515 := f2515 (by omega) | clear f2515
      intro x2_3v1225 ex2_3v1225
      have tx2_3v1225 : Ti x2_3v1225 z2513 := by rw [ex2_3v1225]; exact t2514
      exact ih _ _ _ _  tx1_2v1224 tx2_3v1225 hI (by omega) (by omega)
set_option maxHeartbeats 4000000 in
set_option maxRecDepth 100000 in
theorem sX10_marksOfAllPrints {T D : Int} {k : Nat} {post : Int32 → Wd → Prop}  {w : Wd}   (hI : IX k T D w)  (hp : ∀ (r : Int32) (zr : Int), Ti r zr → post r w) : pX10_marksOfAllPrints   post   w := by
  unfold pX10_marksOfAllPrints
  have hk := ix_k hI
  refine sX7_rows   (hI := hI)   (hp := fun r_1v1226 zr_1v1226 tr_1v1226 p2516 => ?_)
  obtain ⟨z2517, t2518, f2519⟩ := t_sub tr_1v1226 lit_1
  first | replace f2519 := f2519 (by omega) | clear f2519
  intro x1_3v1229 ex1_3v1229
  have tx1_3v1229 : Ti x1_3v1229 z2517 := by rw [ex1_3v1229]; exact t2518
  exact ⟨70000, sX10_marksOfAllPrints_12   (hp := hp) 70000 _ _ _ _  tx1_3v1229 lit_0 hI (by omega) (by omega)⟩
set_option maxHeartbeats 4000000 in
set_option maxRecDepth 100000 in
theorem sX10_marksOfAllSeals_12 {T D : Int} {k : Nat} {post : Int32 → Wd → Prop} {w : Wd}  (hp : ∀ (r : Int32) (zr : Int), Ti r zr → post r w) : ∀ (n : Nat) (x1 : Int32) (x2 : Int32) (zx1 : Int) (zx2 : Int), Ti x1 zx1 → Ti x2 zx2 → IX k T D w → (0 ≤ zx2 ∧ zx2 ≤ 24) → (25 - zx2) < (n : Int) → pX10_marksOfAllSeals_12   post  n x1 x2 w := by
  intro n
  induction n with
  | zero =>
    intro x1 x2 zx1 zx2  tx1 tx2 hI h0 hm
    exact absurd hm (by omega)
  | succ n ih =>
    intro x1 x2 zx1 zx2  tx1 tx2 hI h0 hm
    unfold pX10_marksOfAllSeals_12
    have hk := ix_k hI
    obtain ⟨z2520, t2521⟩ := t_any (w.1 160 0)
    have f2522 := ixg_c0 hI t2521
    refine ⟨fun c2523 => ?_, fun c2523 => ?_⟩
    · replace c2523 := c_le t2521 tx2 c2523
      exact hp _ _ tx1 
    · replace c2523 := c_nle t2521 tx2 c2523
      refine ⟨vp_of tx2 (by omega) (by omega), ?_⟩
      obtain ⟨z2524, t2525⟩ := t_any (x1 &&& (w.2.1 162 x2.toNatClampNeg))
      intro x1_2v1230 ex1_2v1230
      have tx1_2v1230 : Ti x1_2v1230 z2524 := by rw [ex1_2v1230]; exact t2525
      obtain ⟨z2526, t2527, f2528⟩ := t_add tx2 lit_1
      first | replace f2528 := f2528 (by omega) | clear f2528
      intro x2_3v1231 ex2_3v1231
      have tx2_3v1231 : Ti x2_3v1231 z2526 := by rw [ex2_3v1231]; exact t2527
      exact ih _ _ _ _  tx1_2v1230 tx2_3v1231 hI (by omega) (by omega)
set_option maxHeartbeats 4000000 in
set_option maxRecDepth 100000 in
theorem sX10_marksOfAllSeals {T D : Int} {k : Nat} {post : Int32 → Wd → Prop}  {w : Wd}   (hI : IX k T D w)  (hp : ∀ (r : Int32) (zr : Int), Ti r zr → post r w) : pX10_marksOfAllSeals   post   w := by
  unfold pX10_marksOfAllSeals
  have hk := ix_k hI
  refine sX7_rows   (hI := hI)   (hp := fun r_1v1232 zr_1v1232 tr_1v1232 p2529 => ?_)
  obtain ⟨z2530, t2531, f2532⟩ := t_sub tr_1v1232 lit_1
  first | replace f2532 := f2532 (by omega) | clear f2532
  intro x1_3v1235 ex1_3v1235
  have tx1_3v1235 : Ti x1_3v1235 z2530 := by rw [ex1_3v1235]; exact t2531
  exact ⟨70000, sX10_marksOfAllSeals_12   (hp := hp) 70000 _ _ _ _  tx1_3v1235 lit_0 hI (by omega) (by omega)⟩
set_option maxHeartbeats 4000000 in
set_option maxRecDepth 100000 in
theorem sX10_marksOfSomeSeals_4 {T D : Int} {k : Nat} {post : Int32 → Wd → Prop} {w : Wd}  (hp : ∀ (r : Int32) (zr : Int), Ti r zr → post r w) : ∀ (n : Nat) (x1 : Int32) (x2 : Int32) (zx1 : Int) (zx2 : Int), Ti x1 zx1 → Ti x2 zx2 → IX k T D w → (0 ≤ zx2 ∧ zx2 ≤ 24) → (25 - zx2) < (n : Int) → pX10_marksOfSomeSeals_4   post  n x1 x2 w := by
  intro n
  induction n with
  | zero =>
    intro x1 x2 zx1 zx2  tx1 tx2 hI h0 hm
    exact absurd hm (by omega)
  | succ n ih =>
    intro x1 x2 zx1 zx2  tx1 tx2 hI h0 hm
    unfold pX10_marksOfSomeSeals_4
    have hk := ix_k hI
    obtain ⟨z2533, t2534⟩ := t_any (w.1 160 0)
    have f2535 := ixg_c0 hI t2534
    refine ⟨fun c2536 => ?_, fun c2536 => ?_⟩
    · replace c2536 := c_le t2534 tx2 c2536
      exact hp _ _ tx1 
    · replace c2536 := c_nle t2534 tx2 c2536
      refine ⟨vp_of tx2 (by omega) (by omega), ?_⟩
      obtain ⟨z2537, t2538⟩ := t_any (x1 ||| (w.2.1 162 x2.toNatClampNeg))
      intro x1_2v1236 ex1_2v1236
      have tx1_2v1236 : Ti x1_2v1236 z2537 := by rw [ex1_2v1236]; exact t2538
      obtain ⟨z2539, t2540, f2541⟩ := t_add tx2 lit_1
      first | replace f2541 := f2541 (by omega) | clear f2541
      intro x2_3v1237 ex2_3v1237
      have tx2_3v1237 : Ti x2_3v1237 z2539 := by rw [ex2_3v1237]; exact t2540
      exact ih _ _ _ _  tx1_2v1236 tx2_3v1237 hI (by omega) (by omega)
set_option maxHeartbeats 4000000 in
set_option maxRecDepth 100000 in
theorem sX10_marksOfSomeSeals {T D : Int} {k : Nat} {post : Int32 → Wd → Prop}  {w : Wd}   (hI : IX k T D w)  (hp : ∀ (r : Int32) (zr : Int), Ti r zr → post r w) : pX10_marksOfSomeSeals   post   w := by
  unfold pX10_marksOfSomeSeals
  have hk := ix_k hI
  exact ⟨70000, sX10_marksOfSomeSeals_4   (hp := hp) 70000 _ _ _ _  lit_0 lit_0 hI (by omega) (by omega)⟩
set_option maxHeartbeats 4000000 in
set_option maxRecDepth 100000 in
theorem sX10_common {T D : Int} {k : Nat} {post : Int32 → Wd → Prop} {x1 : Int32} {zx1 : Int} {w : Wd}  (tx1 : Ti x1 zx1) (hI : IX k T D w)  (hp : ∀ (r : Int32) (zr : Int), Ti r zr → post r w) : pX10_common   post  x1 w := by
  unfold pX10_common
  have hk := ix_k hI
  refine ⟨fun c2542 => ?_, fun c2542 => ?_, fun c2542 => ?_, fun c2542 => ?_⟩
  · rw [show x1.toInt = zx1 from tx1] at c2542
    exact hp _ _ lit_m1 
  · rw [show x1.toInt = zx1 from tx1] at c2542
    refine sX10_marksOfAllSeals   (hI := hI)   (hp := fun r_2v1238 zr_2v1238 tr_2v1238 => ?_)
    exact hp _ _ tr_2v1238 
  · rw [show x1.toInt = zx1 from tx1] at c2542
    refine sX10_marksOfSomeSeals   (hI := hI)   (hp := fun r_4v1240 zr_4v1240 tr_4v1240 => ?_)
    exact hp _ _ tr_4v1240 
  · rw [show x1.toInt = zx1 from tx1] at c2542
    refine sX10_marksOfAllPrints   (hI := hI)   (hp := fun r_6v1242 zr_6v1242 tr_6v1242 => ?_)
    exact hp _ _ tr_6v1242 
set_option maxHeartbeats 4000000 in
set_option maxRecDepth 100000 in
theorem sX10_alike_36 {T D : Int} {k : Nat} {post : Int32 → Wd → Prop} {w : Wd}  (hp : ∀ (r : Int32) (zr : Int), Ti r zr → post r w) : ∀ (n : Nat) (x3 : Int32) (x4 : Int32) (x5 : Int32) (zx3 : Int) (zx4 : Int) (zx5 : Int), Ti x3 zx3 → Ti x4 zx4 → Ti x5 zx5 → IX k T D w → (0 ≤ zx5 ∧ zx5 ≤ 24) → (25 - zx5) < (n : Int) → pX10_alike_36   post  n x3 x4 x5 w := by
  intro n
  induction n with
  | zero =>
    intro x3 x4 x5 zx3 zx4 zx5  tx3 tx4 tx5 hI h0 hm
    exact absurd hm (by omega)
  | succ n ih =>
    intro x3 x4 x5 zx3 zx4 zx5  tx3 tx4 tx5 hI h0 hm
    unfold pX10_alike_36
    have hk := ix_k hI
    obtain ⟨z2543, t2544⟩ := t_any (w.1 160 0)
    have f2545 := ixg_c0 hI t2544
    refine ⟨fun c2546 => ?_, fun c2546 => ?_⟩
    · replace c2546 := c_le t2544 tx5 c2546
      exact hp _ _ tx4 
    · replace c2546 := c_nle t2544 tx5 c2546
      refine ⟨vp_of tx5 (by omega) (by omega), ?_⟩
      obtain ⟨z2547, t2548⟩ := t_any (w.2.1 162 x5.toNatClampNeg)
      refine ⟨fun c2549 => ?_, fun c2549 => ?_⟩
      · replace c2549 := c_neq t2548 tx3 c2549
        unfold pX10_alike_71
        obtain ⟨z2550, t2551, f2552⟩ := t_add tx5 lit_1
        first | replace f2552 := f2552 (by omega) | clear f2552
        intro x5_1v1245 ex5_1v1245
        have tx5_1v1245 : Ti x5_1v1245 z2550 := by rw [ex5_1v1245]; exact t2551
        exact ih _ _ _ _ _ _  tx3 tx4 tx5_1v1245 hI (by omega) (by omega)
      · replace c2549 := c_eq t2548 tx3 c2549
        obtain ⟨z2553, t2554⟩ := t_any (x4 ||| ((1 : Int32) <<< (x5 &&& 31)))
        intro x4_3v1244 ex4_3v1244
        have tx4_3v1244 : Ti x4_3v1244 z2553 := by rw [ex4_3v1244]; exact t2554
        unfold pX10_alike_71
        obtain ⟨z2555, t2556, f2557⟩ := t_add tx5 lit_1
        first | replace f2557 := f2557 (by omega) | clear f2557
        intro x5_1v1246 ex5_1v1246
        have tx5_1v1246 : Ti x5_1v1246 z2555 := by rw [ex5_1v1246]; exact t2556
        exact ih _ _ _ _ _ _  tx3 tx4_3v1244 tx5_1v1246 hI (by omega) (by omega)
set_option maxHeartbeats 4000000 in
set_option maxRecDepth 100000 in
theorem sX10_alike {T D : Int} {k : Nat} {post : Int32 → Wd → Prop} {x1 : Int32} {zx1 : Int} {x2 : Int32} {zx2 : Int} {w : Wd}  (tx1 : Ti x1 zx1) (tx2 : Ti x2 zx2) (hI : IX k T D w)  (hp : ∀ (r : Int32) (zr : Int), Ti r zr → post r w) : pX10_alike   post  x1 x2 w := by
  unfold pX10_alike
  have hk := ix_k hI
  refine sX10_isRow   (hI := hI) (tx1 := tx1)  (hp := fun r_1v1247 zr_1v1247 tr_1v1247 p2558 => ?_)
  refine ⟨fun c2559 => ?_, fun c2559 => ?_⟩
  · replace c2559 := c_neq tr_1v1247 lit_0 c2559
    refine ⟨fun c2560 => ?_, fun c2560 => ?_⟩
    · replace c2560 := c_eq tx2 lit_0 c2560
      unfold pX10_alike_29
      exact ⟨70000, sX10_alike_36   (hp := hp) 70000 _ _ _ _ _ _  tx1 lit_0 lit_0 hI (by omega) (by omega)⟩
    · replace c2560 := c_neq tx2 lit_0 c2560
      obtain ⟨z2561, t2562⟩ := t_any (w.1 (rl (w.2.2.2.2 0)) 0)
      have f2563 := ixg_r0 hI t2562
      refine sX10_turn   (hI := hI) (tx0 := tx1) (tx1 := t2562)  (hp := fun r_5v1251 zr_5v1251 tr_5v1251 => ?_)
      unfold pX10_alike_29
      exact ⟨70000, sX10_alike_36   (hp := hp) 70000 _ _ _ _ _ _  tr_5v1251 lit_0 lit_0 hI (by omega) (by omega)⟩
  · replace c2559 := c_eq tr_1v1247 lit_0 c2559
    exact hp _ _ lit_m1 
set_option maxHeartbeats 4000000 in
set_option maxRecDepth 100000 in
theorem sX10_tellsApart_15 {T D : Int} {k : Nat} {k2 : Int32 → Int32 → Wd → Prop} {M2 : Int} {post : Int32 → Wd → Prop} {w : Wd} (hk2 : ∀ (x1 : Int32) (x2 : Int32) (zx1 : Int) (zx2 : Int) (w : Wd), Ti x1 zx1 → Ti x2 zx2 → IX k T D w → (0 ≤ zx2 ∧ zx2 ≤ 24) → (25 - zx2) < M2 → k2 x1 x2 w) (hp : ∀ (r : Int32) (zr : Int), Ti r zr → post r w) : ∀ (n : Nat) (x1 : Int32) (x2 : Int32) (x3 : Int32) (zx1 : Int) (zx2 : Int) (zx3 : Int), Ti x1 zx1 → Ti x2 zx2 → Ti x3 zx3 → IX k T D w → (0 ≤ zx3 ∧ zx3 ≤ 24) → (zx2 ≤ 23) → (0 ≤ zx2 ∧ zx2 ≤ 24) → ((25 - zx2) ≤ M2) → (25 - zx3) < (n : Int) → pX10_tellsApart_15 k2  post  n x1 x2 x3 w := by
  intro n
  induction n with
  | zero =>
    intro x1 x2 x3 zx1 zx2 zx3  tx1 tx2 tx3 hI h0 h1 h2 h3 hm
    exact absurd hm (by omega)
  | succ n ih =>
    intro x1 x2 x3 zx1 zx2 zx3  tx1 tx2 tx3 hI h0 h1 h2 h3 hm
    unfold pX10_tellsApart_15
    have hk := ix_k hI
    refine ⟨fun c2564 => ?_, fun c2564 => ?_⟩
    · replace c2564 := c_le tx2 tx3 c2564
      obtain ⟨z2565, t2566, f2567⟩ := t_add tx2 lit_1
      first | replace f2567 := f2567 (by omega) | clear f2567
      intro x2_2v1253 ex2_2v1253
      have tx2_2v1253 : Ti x2_2v1253 z2565 := by rw [ex2_2v1253]; exact t2566
      exact hk2 _ _ _ _ _ tx1 tx2_2v1253 hI (by omega) (by omega)
    · replace c2564 := c_nle tx2 tx3 c2564
      refine ⟨vp_of tx2 (by omega) (by omega), ?_⟩
      refine ⟨vp_of tx3 (by omega) (by omega), ?_⟩
      obtain ⟨z2568, t2569⟩ := t_any ((w.2.1 162 x2.toNatClampNeg) ^^^ (w.2.1 162 x3.toNatClampNeg))
      intro x4_3v1254 ex4_3v1254
      have tx4_3v1254 : Ti x4_3v1254 z2568 := by rw [ex4_3v1254]; exact t2569
      refine ⟨fun c2570 => ?_, fun c2570 => ?_⟩
      · replace c2570 := c_eq tx4_3v1254 lit_0 c2570
        unfold pX10_tellsApart_55
        obtain ⟨z2571, t2572, f2573⟩ := t_add tx3 lit_1
        first | replace f2573 := f2573 (by omega) | clear f2573
        intro x3_1v1255 ex3_1v1255
        have tx3_1v1255 : Ti x3_1v1255 z2571 := by rw [ex3_1v1255]; exact t2572
        exact ih _ _ _ _ _ _  tx1 tx2 tx3_1v1255 hI (by omega) (by omega) (by omega) (by omega) (by omega)
      · replace c2570 := c_neq tx4_3v1254 lit_0 c2570
        obtain ⟨z2574, t2575⟩ := t_any (x4_3v1254 &&& x1)
        refine ⟨fun c2576 => ?_, fun c2576 => ?_⟩
        · replace c2576 := c_neq t2575 lit_0 c2576
          unfold pX10_tellsApart_55
          obtain ⟨z2577, t2578, f2579⟩ := t_add tx3 lit_1
          first | replace f2579 := f2579 (by omega) | clear f2579
          intro x3_1v1256 ex3_1v1256
          have tx3_1v1256 : Ti x3_1v1256 z2577 := by rw [ex3_1v1256]; exact t2578
          exact ih _ _ _ _ _ _  tx1 tx2 tx3_1v1256 hI (by omega) (by omega) (by omega) (by omega) (by omega)
        · replace c2576 := c_eq t2575 lit_0 c2576
          exact hp _ _ lit_0 
set_option maxHeartbeats 4000000 in
set_option maxRecDepth 100000 in
theorem sX10_tellsApart_2 {T D : Int} {k : Nat} {post : Int32 → Wd → Prop} {w : Wd}  (hp : ∀ (r : Int32) (zr : Int), Ti r zr → post r w) : ∀ (n : Nat) (x1 : Int32) (x2 : Int32) (zx1 : Int) (zx2 : Int), Ti x1 zx1 → Ti x2 zx2 → IX k T D w → (0 ≤ zx2 ∧ zx2 ≤ 24) → (25 - zx2) < (n : Int) → pX10_tellsApart_2   post  n x1 x2 w := by
  intro n
  induction n with
  | zero =>
    intro x1 x2 zx1 zx2  tx1 tx2 hI h0 hm
    exact absurd hm (by omega)
  | succ n ih =>
    intro x1 x2 zx1 zx2  tx1 tx2 hI h0 hm
    unfold pX10_tellsApart_2
    have hk := ix_k hI
    obtain ⟨z2580, t2581⟩ := t_any (w.1 160 0)
    have f2582 := ixg_c0 hI t2581
    refine ⟨fun c2583 => ?_, fun c2583 => ?_⟩
    · replace c2583 := c_le t2581 tx2 c2583
      exact hp _ _ lit_1 
    · replace c2583 := c_nle t2581 tx2 c2583
      exact ⟨70000, sX10_tellsApart_15 (M2 := (n : Int)) (hk2 := ih)  (hp := hp) 70000 _ _ _ _ _ _  tx1 tx2 lit_0 hI (by omega) (by omega) (by omega) (by omega) (by omega)⟩
set_option maxHeartbeats 4000000 in
set_option maxRecDepth 100000 in
theorem sX10_tellsApart {T D : Int} {k : Nat} {post : Int32 → Wd → Prop} {x1 : Int32} {zx1 : Int} {w : Wd}  (tx1 : Ti x1 zx1) (hI : IX k T D w)  (hp : ∀ (r : Int32) (zr : Int), Ti r zr → post r w) : pX10_tellsApart   post  x1 w := by
  unfold pX10_tellsApart
  have hk := ix_k hI
  exact ⟨70000, sX10_tellsApart_2   (hp := hp) 70000 _ _ _ _  tx1 lit_1 hI (by omega) (by omega)⟩
set_option maxHeartbeats 4000000 in
set_option maxRecDepth 100000 in
theorem sX4_lay {T D : Int} {k : Nat} {post : Wd → Prop} {x1 : Int32} {zx1 : Int} {w : Wd}  (tx1 : Ti x1 zx1) (hI : IX k T D w)  (hp : ∀ (w9 : Wd), IX k T D w9 → post w9) : pX4_lay   post  x1 w := by
  unfold pX4_lay
  have hk := ix_k hI
  obtain ⟨z2584, t2585⟩ := t_any (w.1 110 1)
  have f2586 := ixg_110_1 hI t2585
  refine ⟨fun c2587 => ?_, fun c2587 => ?_⟩
  · replace c2587 := c_lt t2585 lit_0 c2587
    exact hp  _   hI 
  · replace c2587 := c_nlt t2585 lit_0 c2587
    refine ⟨fun c2588 => ?_, fun c2588 => ?_⟩
    · replace c2588 := c_le lit_16 t2585 c2588
      exact hp  _   hI 
    · replace c2588 := c_nle lit_16 t2585 c2588
      refine ⟨vp_of t2585 (by omega) (by omega), ?_⟩
      intro w_3v1257 ew_3v1257
      have hIw_3v1257 := ixs_A hI ew_3v1257 (by decide)
      intro w_4v1258 ew_4v1258
      have t2589 : Ti (w_3v1257.1 110 1) z2584 := by rw [e1_A ew_3v1257]; exact t2585
      obtain ⟨z2590, t2591, f2592⟩ := t_add t2589 lit_1
      first | replace f2592 := f2592 (by omega) | clear f2592
      have hIw_4v1258 := ixs_110_1 hIw_3v1257 ew_4v1258 t2591 (by omega) (by omega)
      exact hp  _   hIw_4v1258 
set_option maxHeartbeats 4000000 in
set_option maxRecDepth 100000 in
theorem sX10_tell_64 {T D : Int} {k : Nat} {post : Int32 → Wd → Prop}   (hp : ∀ (r : Int32) (zr : Int) (w9 : Wd), Ti r zr → IX k T D w9 → post r w9) : ∀ (n : Nat) (x1 : Int32) (x2 : Int32) (x3 : Int32) (zx1 : Int) (zx2 : Int) (zx3 : Int) (w : Wd), Ti x1 zx1 → Ti x2 zx2 → Ti x3 zx3 → IX k T D w → (0 ≤ zx3 ∧ zx3 ≤ 12) → (13 - zx3) < (n : Int) → pX10_tell_64   post  n x1 x2 x3 w := by
  intro n
  induction n with
  | zero =>
    intro x1 x2 x3 zx1 zx2 zx3 w tx1 tx2 tx3 hI h0 hm
    exact absurd hm (by omega)
  | succ n ih =>
    intro x1 x2 x3 zx1 zx2 zx3 w tx1 tx2 tx3 hI h0 hm
    unfold pX10_tell_64
    have hk := ix_k hI
    obtain ⟨z2593, t2594⟩ := t_any (w.1 (rl (w.2.2.2.2 0)) 0)
    have f2595 := ixg_r0 hI t2594
    refine ⟨fun c2596 => ?_, fun c2596 => ?_⟩
    · replace c2596 := c_le t2594 tx3 c2596
      exact hp _ _ _  tx1 hI 
    · replace c2596 := c_nle t2594 tx3 c2596
      obtain ⟨z2597, t2598, f2599⟩ := t_and (x := (x2 >>> (x3 &&& 31))) lit_1 (by decide)
      refine ⟨fun c2600 => ?_, fun c2600 => ?_⟩
      · replace c2600 := c_eq t2598 lit_0 c2600
        unfold pX10_tell_91
        obtain ⟨z2601, t2602, f2603⟩ := t_add tx3 lit_1
        first | replace f2603 := f2603 (by omega) | clear f2603
        intro x3_1v1260 ex3_1v1260
        have tx3_1v1260 : Ti x3_1v1260 z2601 := by rw [ex3_1v1260]; exact t2602
        exact ih _ _ _ _ _ _ _ tx1 tx2 tx3_1v1260 hI (by omega) (by omega)
      · replace c2600 := c_neq t2598 lit_0 c2600
        refine sX4_lay   (hI := hI) (tx1 := tx3)  (hp := fun  w_3v1259   hIw_3v1259  => ?_)
        unfold pX10_tell_91
        obtain ⟨z2604, t2605, f2606⟩ := t_add tx3 lit_1
        first | replace f2606 := f2606 (by omega) | clear f2606
        intro x3_1v1261 ex3_1v1261
        have tx3_1v1261 : Ti x3_1v1261 z2604 := by rw [ex3_1v1261]; exact t2605
        exact ih _ _ _ _ _ _ _ tx1 tx2 tx3_1v1261 hIw_3v1259 (by omega) (by omega)
set_option maxHeartbeats 4000000 in
set_option maxRecDepth 100000 in
theorem sX10_tell_14 {T D : Int} {k : Nat} {post : Int32 → Wd → Prop}   (hp : ∀ (r : Int32) (zr : Int) (w9 : Wd), Ti r zr → IX k T D w9 → post r w9) : ∀ (n : Nat) (x1 : Int32) (x2 : Int32) (x3 : Int32) (zx1 : Int) (zx2 : Int) (zx3 : Int) (w : Wd), Ti x1 zx1 → Ti x2 zx2 → Ti x3 zx3 → IX k T D w → (0 ≤ zx3 ∧ zx3 ≤ 4096) → (4097 - zx3) < (n : Int) → pX10_tell_14   post  n x1 x2 x3 w := by
  intro n
  induction n with
  | zero =>
    intro x1 x2 x3 zx1 zx2 zx3 w tx1 tx2 tx3 hI h0 hm
    exact absurd hm (by omega)
  | succ n ih =>
    intro x1 x2 x3 zx1 zx2 zx3 w tx1 tx2 tx3 hI h0 hm
    unfold pX10_tell_14
    have hk := ix_k hI
    refine sX7_rows   (hI := hI)   (hp := fun r_1v1262 zr_1v1262 tr_1v1262 p2607 => ?_)
    refine ⟨fun c2608 => ?_, fun c2608 => ?_⟩
    · replace c2608 := c_le tr_1v1262 tx3 c2608
      intro w_4v1271 ew_4v1271
      have hIw_4v1271 := ixs_110_1 hI ew_4v1271 lit_0 (by omega) (by omega)
      exact ⟨70000, sX10_tell_64   (hp := hp) 70000 _ _ _ _ _ _ _ tx1 tx2 lit_0 hIw_4v1271 (by omega) (by omega)⟩
    · replace c2608 := c_nle tr_1v1262 tx3 c2608
      refine sJ6_bitCount_0f7a4   (hI := hI) (tx0 := tx3)  (hp := fun r_5v1272 zr_5v1272 tr_5v1272 p2609 => ?_)
      refine ⟨fun c2610 => ?_, fun c2610 => ?_⟩
      · replace c2610 := c_le tx1 tr_5v1272 c2610
        unfold pX10_tell_48
        obtain ⟨z2611, t2612, f2613⟩ := t_add tx3 lit_1
        first | replace f2613 := f2613 (by omega) | clear f2613
        intro x3_1v1282 ex3_1v1282
        have tx3_1v1282 : Ti x3_1v1282 z2611 := by rw [ex3_1v1282]; exact t2612
        exact ih _ _ _ _ _ _ _ tx1 tx2 tx3_1v1282 hI (by omega) (by omega)
      · replace c2610 := c_nle tx1 tr_5v1272 c2610
        refine sX10_tellsApart   (hI := hI) (tx1 := tx3)  (hp := fun r_8v1278 zr_8v1278 tr_8v1278 => ?_)
        refine ⟨fun c2614 => ?_, fun c2614 => ?_⟩
        · replace c2614 := c_eq tr_8v1278 lit_0 c2614
          unfold pX10_tell_48
          obtain ⟨z2615, t2616, f2617⟩ := t_add tx3 lit_1
          first | replace f2617 := f2617 (by omega) | clear f2617
          intro x3_1v1285 ex3_1v1285
          have tx3_1v1285 : Ti x3_1v1285 z2615 := by rw [ex3_1v1285]; exact t2616
          exact ih _ _ _ _ _ _ _ tx1 tx2 tx3_1v1285 hI (by omega) (by omega)
        · replace c2614 := c_neq tr_8v1278 lit_0 c2614
          refine sJ6_bitCount_0f7a4   (hI := hI) (tx0 := tx3)  (hp := fun r_11v1283 zr_11v1283 tr_11v1283 p2618 => ?_)
          unfold pX10_tell_48
          obtain ⟨z2619, t2620, f2621⟩ := t_add tx3 lit_1
          first | replace f2621 := f2621 (by omega) | clear f2621
          intro x3_1v1286 ex3_1v1286
          have tx3_1v1286 : Ti x3_1v1286 z2619 := by rw [ex3_1v1286]; exact t2620
          exact ih _ _ _ _ _ _ _ tr_11v1283 tx3 tx3_1v1286 hI (by omega) (by omega)
set_option maxHeartbeats 4000000 in
set_option maxRecDepth 100000 in
theorem sX10_tell {T D : Int} {k : Nat} {post : Int32 → Wd → Prop}  {w : Wd}   (hI : IX k T D w)  (hp : ∀ (r : Int32) (zr : Int) (w9 : Wd), Ti r zr → IX k T D w9 → post r w9) : pX10_tell   post   w := by
  unfold pX10_tell
  have hk := ix_k hI
  obtain ⟨z2622, t2623⟩ := t_any (w.1 (rl (w.2.2.2.2 0)) 0)
  have f2624 := ixg_r0 hI t2623
  obtain ⟨z2625, t2626, f2627⟩ := t_add t2623 lit_1
  first | replace f2627 := f2627 (by omega) | clear f2627
  intro x1_1v1287 ex1_1v1287
  have tx1_1v1287 : Ti x1_1v1287 z2625 := by rw [ex1_1v1287]; exact t2626
  exact ⟨70000, sX10_tell_14   (hp := hp) 70000 _ _ _ _ _ _ _ tx1_1v1287 lit_0 lit_0 hI (by omega) (by omega)⟩
set_option maxHeartbeats 4000000 in
set_option maxRecDepth 100000 in
theorem sX10_round_46 {T D : Int} {k : Nat} {post : Int32 → Wd → Prop}   (hp : ∀ (r : Int32) (zr : Int) (w9 : Wd), Ti r zr → IX k T D w9 → post r w9) : ∀ (n : Nat) (x4 : Int32) (x5 : Int32) (x6 : Int32) (x7 : Int32) (zx4 : Int) (zx5 : Int) (zx6 : Int) (zx7 : Int) (w : Wd), Ti x4 zx4 → Ti x5 zx5 → Ti x6 zx6 → Ti x7 zx7 → IX k T D w → (0 ≤ zx7 ∧ zx7 ≤ 4096) → (4097 - zx7) < (n : Int) → pX10_round_46   post  n x4 x5 x6 x7 w := by
  intro n
  induction n with
  | zero =>
    intro x4 x5 x6 x7 zx4 zx5 zx6 zx7 w tx4 tx5 tx6 tx7 hI h0 hm
    exact absurd hm (by omega)
  | succ n ih =>
    intro x4 x5 x6 x7 zx4 zx5 zx6 zx7 w tx4 tx5 tx6 tx7 hI h0 hm
    unfold pX10_round_46
    have hk := ix_k hI
    refine sX7_rows   (hI := hI)   (hp := fun r_1v1288 zr_1v1288 tr_1v1288 p2628 => ?_)
    refine ⟨fun c2629 => ?_, fun c2629 => ?_⟩
    · replace c2629 := c_le tr_1v1288 tx7 c2629
      refine ⟨fun c2630 => ?_, fun c2630 => ?_⟩
      · replace c2630 := c_eq tx4 lit_0 c2630
        exact hp _ _ _  tx6 hI 
      · replace c2630 := c_neq tx4 lit_0 c2630
        refine sX10_isRow   (hI := hI) (tx1 := tx5)  (hp := fun r_5v1294 zr_5v1294 tr_5v1294 p2631 => ?_)
        refine ⟨fun c2632 => ?_, fun c2632 => ?_⟩
        · replace c2632 := c_neq tr_5v1294 lit_0 c2632
          refine ⟨vp_of tx5 (by omega) (by omega), ?_⟩
          obtain ⟨z2633, t2634⟩ := t_any (w.2.1 13 x5.toNatClampNeg)
          obtain ⟨z2635, t2636, f2637⟩ := t_sub t2634 lit_1
          first | replace f2637 := f2637 (by omega) | clear f2637
          obtain ⟨z2638, t2639, f2640⟩ := t_sub tx6 t2636
          first | replace f2640 := f2640 (by omega) | clear f2640
          exact hp _ _ _  t2639 hI 
        · replace c2632 := c_eq tr_5v1294 lit_0 c2632
          exact hp _ _ _  tx6 hI 
    · replace c2629 := c_nle tr_1v1288 tx7 c2629
      refine ⟨vp_of tx7 (by omega) (by omega), ?_⟩
      obtain ⟨z2641, t2642⟩ := t_any (w.2.1 13 x7.toNatClampNeg)
      obtain ⟨z2643, t2644, f2645⟩ := t_ite tx6 t2642 t2642 tx6
      intro x6_8v1296 ex6_8v1296
      have tx6_8v1296 : Ti x6_8v1296 z2643 := by rw [ex6_8v1296]; exact t2644
      obtain ⟨z2646, t2647, f2648⟩ := t_add tx7 lit_1
      first | replace f2648 := f2648 (by omega) | clear f2648
      intro x7_9v1297 ex7_9v1297
      have tx7_9v1297 : Ti x7_9v1297 z2646 := by rw [ex7_9v1297]; exact t2647
      exact ih _ _ _ _ _ _ _ _ _ tx4 tx5 tx6_8v1296 tx7_9v1297 hI (by omega) (by omega)
set_option maxHeartbeats 4000000 in
set_option maxRecDepth 100000 in
theorem sX10_round {T D : Int} {k : Nat} {post : Int32 → Wd → Prop} {x1 : Int32} {zx1 : Int} {x2 : Int32} {zx2 : Int} {x3 : Int32} {zx3 : Int} {x4 : Int32} {zx4 : Int} {w : Wd}  (tx1 : Ti x1 zx1) (tx2 : Ti x2 zx2) (tx3 : Ti x3 zx3) (tx4 : Ti x4 zx4) (hI : IX k T D w)  (hp : ∀ (r : Int32) (zr : Int) (w9 : Wd), Ti r zr → IX k T D w9 → post r w9) : pX10_round   post  x1 x2 x3 x4 w := by
  unfold pX10_round
  have hk := ix_k hI
  refine sX10_canCast   (hI := hI) (tx1 := tx1) (tx2 := tx2) (tx3 := tx3)  (hp := fun r_1v1298 zr_1v1298 tr_1v1298 p2649 => ?_)
  refine ⟨fun c2650 => ?_, fun c2650 => ?_⟩
  · replace c2650 := c_eq tr_1v1298 lit_0 c2650
    exact hp _ _ _  lit_m1 hI 
  · replace c2650 := c_neq tr_1v1298 lit_0 c2650
    refine ⟨fun c2651 => ?_, fun c2651 => ?_⟩
    · replace c2651 := c_lt tx4 lit_0 c2651
      exact hp _ _ _  lit_m1 hI 
    · replace c2651 := c_nlt tx4 lit_0 c2651
      refine ⟨fun c2652 => ?_, fun c2652 => ?_⟩
      · replace c2652 := c_le tx4 lit_1 c2652
        refine ⟨vp_of tx1 (by omega) (by omega), ?_⟩
        obtain ⟨z2653, t2654⟩ := t_any (w.2.1 162 x1.toNatClampNeg)
        refine sX10_goRound   (hI := hI) (tx1 := t2654) (tx2 := tx2) (tx3 := tx3)  (hp := fun r_6v1302 zr_6v1302 w_7v1303  tr_6v1302 hIw_7v1303  => ?_)
        exact ⟨70000, sX10_round_46   (hp := hp) 70000 _ _ _ _ _ _ _ _ _ tx4 tr_6v1302 lit_0 lit_0 hIw_7v1303 (by omega) (by omega)⟩
      · replace c2652 := c_nle tx4 lit_1 c2652
        exact hp _ _ _  lit_m1 hI 
set_option maxHeartbeats 4000000 in
set_option maxRecDepth 100000 in
theorem sX10_steady_78 {T D : Int} {k : Nat} {post : Int32 → Wd → Prop}   (hp : ∀ (r : Int32) (zr : Int) (w9 : Wd), Ti r zr → IX k T D w9 → post r w9) : ∀ (n : Nat) (x3 : Int32) (x4 : Int32) (x5 : Int32) (x6 : Int32) (x7 : Int32) (zx3 : Int) (zx4 : Int) (zx5 : Int) (zx6 : Int) (zx7 : Int) (w : Wd), Ti x3 zx3 → Ti x4 zx4 → Ti x5 zx5 → Ti x6 zx6 → Ti x7 zx7 → IX k T D w → (0 ≤ zx7 ∧ zx7 ≤ 4096) → (4097 - zx7) < (n : Int) → pX10_steady_78   post  n x3 x4 x5 x6 x7 w := by
  intro n
  induction n with
  | zero =>
    intro x3 x4 x5 x6 x7 zx3 zx4 zx5 zx6 zx7 w tx3 tx4 tx5 tx6 tx7 hI h0 hm
    exact absurd hm (by omega)
  | succ n ih =>
    intro x3 x4 x5 x6 x7 zx3 zx4 zx5 zx6 zx7 w tx3 tx4 tx5 tx6 tx7 hI h0 hm
    unfold pX10_steady_78
    have hk := ix_k hI
    refine sX7_rows   (hI := hI)   (hp := fun r_1v1304 zr_1v1304 tr_1v1304 p2655 => ?_)
    refine ⟨fun c2656 => ?_, fun c2656 => ?_⟩
    · replace c2656 := c_le tr_1v1304 tx7 c2656
      refine ⟨fun c2657 => ?_, fun c2657 => ?_⟩
      · replace c2657 := c_neq tx3 lit_0 c2657
        exact hp _ _ _  tx6 hI 
      · replace c2657 := c_eq tx3 lit_0 c2657
        exact hp _ _ _  tx4 hI 
    · replace c2656 := c_nle tr_1v1304 tx7 c2656
      refine ⟨vp_of tx7 (by omega) (by omega), ?_⟩
      obtain ⟨z2658, t2659⟩ := t_any (w.2.1 13 x7.toNatClampNeg)
      refine sX10_isRow   (hI := hI) (tx1 := t2659)  (hp := fun r_5v1313 zr_5v1313 tr_5v1313 p2660 => ?_)
      refine ⟨fun c2661 => ?_, fun c2661 => ?_⟩
      · replace c2661 := c_eq tr_5v1313 lit_0 c2661
        unfold pX10_steady_145
        obtain ⟨z2662, t2663, f2664⟩ := t_add tx7 lit_1
        first | replace f2664 := f2664 (by omega) | clear f2664
        intro x7_1v1325 ex7_1v1325
        have tx7_1v1325 : Ti x7_1v1325 z2662 := by rw [ex7_1v1325]; exact t2663
        exact ih _ _ _ _ _ _ _ _ _ _ _ tx3 tx4 tx5 tx6 tx7_1v1325 hI (by omega) (by omega)
      · replace c2661 := c_neq tr_5v1313 lit_0 c2661
        refine ⟨vp_of tx7 (by omega) (by omega), ?_⟩
        refine ⟨vp_of t2659 (by omega) (by omega), ?_⟩
        obtain ⟨z2665, t2666⟩ := t_any (w.2.1 13 (w.2.1 13 x7.toNatClampNeg).toNatClampNeg)
        refine ⟨fun c2667 => ?_, fun c2667 => ?_⟩
        · replace c2667 := c_neq t2666 tx7 c2667
          unfold pX10_steady_145
          obtain ⟨z2668, t2669, f2670⟩ := t_add tx7 lit_1
          first | replace f2670 := f2670 (by omega) | clear f2670
          intro x7_1v1326 ex7_1v1326
          have tx7_1v1326 : Ti x7_1v1326 z2668 := by rw [ex7_1v1326]; exact t2669
          exact ih _ _ _ _ _ _ _ _ _ _ _ tx3 tx4 tx5 tx6 tx7_1v1326 hI (by omega) (by omega)
        · replace c2667 := c_eq t2666 tx7 c2667
          obtain ⟨z2671, t2672, f2673⟩ := t_add tx4 lit_1
          first | replace f2673 := f2673 (by omega) | clear f2673
          intro x4_9v1320 ex4_9v1320
          have tx4_9v1320 : Ti x4_9v1320 z2671 := by rw [ex4_9v1320]; exact t2672
          refine sJ6_bitCount_0f7a4   (hI := hI) (tx0 := tx7)  (hp := fun r_10v1321 zr_10v1321 tr_10v1321 p2674 => ?_)
          refine ⟨fun c2675 => ?_, fun c2675 => ?_⟩
          · replace c2675 := c_le tr_10v1321 tx5 c2675
            unfold pX10_steady_145
            obtain ⟨z2676, t2677, f2678⟩ := t_add tx7 lit_1
            first | replace f2678 := f2678 (by omega) | clear f2678
            intro x7_1v1329 ex7_1v1329
            have tx7_1v1329 : Ti x7_1v1329 z2676 := by rw [ex7_1v1329]; exact t2677
            exact ih _ _ _ _ _ _ _ _ _ _ _ tx3 tx4_9v1320 tx5 tx6 tx7_1v1329 hI (by omega) (by omega)
          · replace c2675 := c_nle tr_10v1321 tx5 c2675
            refine sJ6_bitCount_0f7a4   (hI := hI) (tx0 := tx7)  (hp := fun r_13v1327 zr_13v1327 tr_13v1327 p2679 => ?_)
            unfold pX10_steady_145
            obtain ⟨z2680, t2681, f2682⟩ := t_add tx7 lit_1
            first | replace f2682 := f2682 (by omega) | clear f2682
            intro x7_1v1330 ex7_1v1330
            have tx7_1v1330 : Ti x7_1v1330 z2680 := by rw [ex7_1v1330]; exact t2681
            exact ih _ _ _ _ _ _ _ _ _ _ _ tx3 tx4_9v1320 tr_13v1327 tx7 tx7_1v1330 hI (by omega) (by omega)
set_option maxHeartbeats 4000000 in
set_option maxRecDepth 100000 in
theorem sX10_steady_29 {T D : Int} {k : Nat} {post : Int32 → Wd → Prop}   (hp : ∀ (r : Int32) (zr : Int) (w9 : Wd), Ti r zr → IX k T D w9 → post r w9) : ∀ (n : Nat) (x1 : Int32) (x2 : Int32) (x3 : Int32) (x4 : Int32) (zx1 : Int) (zx2 : Int) (zx3 : Int) (zx4 : Int) (w : Wd), Ti x1 zx1 → Ti x2 zx2 → Ti x3 zx3 → Ti x4 zx4 → IX k T D w → (0 ≤ zx4 ∧ zx4 ≤ 4096) → (4097 - zx4) < (n : Int) → pX10_steady_29   post  n x1 x2 x3 x4 w := by
  intro n
  induction n with
  | zero =>
    intro x1 x2 x3 x4 zx1 zx2 zx3 zx4 w tx1 tx2 tx3 tx4 hI h0 hm
    exact absurd hm (by omega)
  | succ n ih =>
    intro x1 x2 x3 x4 zx1 zx2 zx3 zx4 w tx1 tx2 tx3 tx4 hI h0 hm
    unfold pX10_steady_29
    have hk := ix_k hI
    refine sX7_rows   (hI := hI)   (hp := fun r_1v1331 zr_1v1331 tr_1v1331 p2683 => ?_)
    refine ⟨fun c2684 => ?_, fun c2684 => ?_⟩
    · replace c2684 := c_le tr_1v1331 tx4 c2684
      exact ⟨70000, sX10_steady_78   (hp := hp) 70000 _ _ _ _ _ _ _ _ _ _ _ tx3 lit_0 lit_m1 lit_m1 lit_0 hI (by omega) (by omega)⟩
    · replace c2684 := c_nle tr_1v1331 tx4 c2684
      refine sX1_rowAfter   (hI := hI) (tx1 := tx4) (tx2 := tx1) (tx3 := tx2) (tx4 := lit_0)  (hp := fun r_4v1337 zr_4v1337 w_5v1338  tr_4v1337 hIw_5v1338  => ?_)
      refine ⟨vp_of tx4 (by omega) (by omega), ?_⟩
      intro w_6v1339 ew_6v1339
      have hIw_6v1339 := ixs_A hIw_5v1338 ew_6v1339 (by decide)
      obtain ⟨z2685, t2686, f2687⟩ := t_add tx4 lit_1
      first | replace f2687 := f2687 (by omega) | clear f2687
      intro x4_7v1340 ex4_7v1340
      have tx4_7v1340 : Ti x4_7v1340 z2685 := by rw [ex4_7v1340]; exact t2686
      exact ih _ _ _ _ _ _ _ _ _ tx1 tx2 tx3 tx4_7v1340 hIw_6v1339 (by omega) (by omega)
set_option maxHeartbeats 4000000 in
set_option maxRecDepth 100000 in
theorem sX10_steady {T D : Int} {k : Nat} {post : Int32 → Wd → Prop} {x1 : Int32} {zx1 : Int} {x2 : Int32} {zx2 : Int} {x3 : Int32} {zx3 : Int} {w : Wd}  (tx1 : Ti x1 zx1) (tx2 : Ti x2 zx2) (tx3 : Ti x3 zx3) (hI : IX k T D w)  (hp : ∀ (r : Int32) (zr : Int) (w9 : Wd), Ti r zr → IX k T D w9 → post r w9) : pX10_steady   post  x1 x2 x3 w := by
  unfold pX10_steady
  have hk := ix_k hI
  refine sX10_isHand   (hI := hI) (tx1 := tx1)  (hp := fun r_1v1341 zr_1v1341 tr_1v1341 p2688 => ?_)
  refine ⟨fun c2689 => ?_, fun c2689 => ?_⟩
  · replace c2689 := c_eq tr_1v1341 lit_0 c2689
    exact hp _ _ _  lit_m1 hI 
  · replace c2689 := c_neq tr_1v1341 lit_0 c2689
    refine sX10_isHeat   (hI := hI) (tx0 := tx2)  (hp := fun r_4v1345 zr_4v1345 tr_4v1345 p2690 => ?_)
    refine ⟨fun c2691 => ?_, fun c2691 => ?_⟩
    · replace c2691 := c_eq tr_4v1345 lit_0 c2691
      exact hp _ _ _  lit_m1 hI 
    · replace c2691 := c_neq tr_4v1345 lit_0 c2691
      refine ⟨fun c2692 => ?_, fun c2692 => ?_⟩
      · replace c2692 := c_lt tx3 lit_0 c2692
        exact hp _ _ _  lit_m1 hI 
      · replace c2692 := c_nlt tx3 lit_0 c2692
        refine ⟨fun c2693 => ?_, fun c2693 => ?_⟩
        · replace c2693 := c_le tx3 lit_1 c2693
          exact ⟨70000, sX10_steady_29   (hp := hp) 70000 _ _ _ _ _ _ _ _ _ tx1 tx2 tx3 lit_0 hI (by omega) (by omega)⟩
        · replace c2693 := c_nle tx3 lit_1 c2693
          exact hp _ _ _  lit_m1 hI 
set_option maxHeartbeats 4000000 in
set_option maxRecDepth 100000 in
theorem sX10_against_31 {T D : Int} {k : Nat} {post : Int32 → Wd → Prop}   (hp : ∀ (r : Int32) (zr : Int) (w9 : Wd), Ti r zr → IX k T D w9 → post r w9) : ∀ (n : Nat) (x1 : Int32) (x2 : Int32) (x3 : Int32) (x4 : Int32) (x5 : Int32) (zx1 : Int) (zx2 : Int) (zx3 : Int) (zx4 : Int) (zx5 : Int) (w : Wd), Ti x1 zx1 → Ti x2 zx2 → Ti x3 zx3 → Ti x4 zx4 → Ti x5 zx5 → IX k T D w → (0 ≤ zx5 ∧ zx5 ≤ 4096) → (4097 - zx5) < (n : Int) → pX10_against_31   post  n x1 x2 x3 x4 x5 w := by
  intro n
  induction n with
  | zero =>
    intro x1 x2 x3 x4 x5 zx1 zx2 zx3 zx4 zx5 w tx1 tx2 tx3 tx4 tx5 hI h0 hm
    exact absurd hm (by omega)
  | succ n ih =>
    intro x1 x2 x3 x4 x5 zx1 zx2 zx3 zx4 zx5 w tx1 tx2 tx3 tx4 tx5 hI h0 hm
    unfold pX10_against_31
    have hk := ix_k hI
    refine sX7_rows   (hI := hI)   (hp := fun r_1v1347 zr_1v1347 tr_1v1347 p2694 => ?_)
    refine ⟨fun c2695 => ?_, fun c2695 => ?_⟩
    · replace c2695 := c_le tr_1v1347 tx5 c2695
      exact hp _ _ _  tx4 hI 
    · replace c2695 := c_nle tr_1v1347 tx5 c2695
      refine sX1_rowAfter   (hI := hI) (tx1 := tx5) (tx2 := tx1) (tx3 := tx3) (tx4 := lit_0)  (hp := fun r_4v1354 zr_4v1354 w_5v1355  tr_4v1354 hIw_5v1355  => ?_)
      refine sX1_rowAfter   (hI := hIw_5v1355) (tx1 := tx5) (tx2 := tx2) (tx3 := tx3) (tx4 := lit_0)  (hp := fun r_6v1356 zr_6v1356 w_7v1357  tr_6v1356 hIw_7v1357  => ?_)
      refine ⟨fun c2696 => ?_, fun c2696 => ?_⟩
      · replace c2696 := c_eq tr_4v1354 tr_6v1356 c2696
        unfold pX10_against_73
        obtain ⟨z2697, t2698, f2699⟩ := t_add tx5 lit_1
        first | replace f2699 := f2699 (by omega) | clear f2699
        intro x5_1v1359 ex5_1v1359
        have tx5_1v1359 : Ti x5_1v1359 z2697 := by rw [ex5_1v1359]; exact t2698
        exact ih _ _ _ _ _ _ _ _ _ _ _ tx1 tx2 tx3 tx4 tx5_1v1359 hIw_7v1357 (by omega) (by omega)
      · replace c2696 := c_neq tr_4v1354 tr_6v1356 c2696
        obtain ⟨z2700, t2701, f2702⟩ := t_add tx4 lit_1
        first | replace f2702 := f2702 (by omega) | clear f2702
        intro x4_9v1358 ex4_9v1358
        have tx4_9v1358 : Ti x4_9v1358 z2700 := by rw [ex4_9v1358]; exact t2701
        unfold pX10_against_73
        obtain ⟨z2703, t2704, f2705⟩ := t_add tx5 lit_1
        first | replace f2705 := f2705 (by omega) | clear f2705
        intro x5_1v1360 ex5_1v1360
        have tx5_1v1360 : Ti x5_1v1360 z2703 := by rw [ex5_1v1360]; exact t2704
        exact ih _ _ _ _ _ _ _ _ _ _ _ tx1 tx2 tx3 tx4_9v1358 tx5_1v1360 hIw_7v1357 (by omega) (by omega)
set_option maxHeartbeats 4000000 in
set_option maxRecDepth 100000 in
theorem sX10_against {T D : Int} {k : Nat} {post : Int32 → Wd → Prop} {x1 : Int32} {zx1 : Int} {x2 : Int32} {zx2 : Int} {x3 : Int32} {zx3 : Int} {w : Wd}  (tx1 : Ti x1 zx1) (tx2 : Ti x2 zx2) (tx3 : Ti x3 zx3) (hI : IX k T D w)  (hp : ∀ (r : Int32) (zr : Int) (w9 : Wd), Ti r zr → IX k T D w9 → post r w9) : pX10_against   post  x1 x2 x3 w := by
  unfold pX10_against
  have hk := ix_k hI
  refine sX10_isHand   (hI := hI) (tx1 := tx1)  (hp := fun r_1v1361 zr_1v1361 tr_1v1361 p2706 => ?_)
  refine ⟨fun c2707 => ?_, fun c2707 => ?_⟩
  · replace c2707 := c_eq tr_1v1361 lit_0 c2707
    exact hp _ _ _  lit_m1 hI 
  · replace c2707 := c_neq tr_1v1361 lit_0 c2707
    refine sX10_isHand   (hI := hI) (tx1 := tx2)  (hp := fun r_4v1367 zr_4v1367 tr_4v1367 p2708 => ?_)
    refine ⟨fun c2709 => ?_, fun c2709 => ?_⟩
    · replace c2709 := c_eq tr_4v1367 lit_0 c2709
      exact hp _ _ _  lit_m1 hI 
    · replace c2709 := c_neq tr_4v1367 lit_0 c2709
      refine sX10_isHeat   (hI := hI) (tx0 := tx3)  (hp := fun r_7v1371 zr_7v1371 tr_7v1371 p2710 => ?_)
      refine ⟨fun c2711 => ?_, fun c2711 => ?_⟩
      · replace c2711 := c_neq tr_7v1371 lit_0 c2711
        exact ⟨70000, sX10_against_31   (hp := hp) 70000 _ _ _ _ _ _ _ _ _ _ _ tx1 tx2 tx3 lit_0 lit_0 hI (by omega) (by omega)⟩
      · replace c2711 := c_eq tr_7v1371 lit_0 c2711
        exact hp _ _ _  lit_m1 hI 
set_option maxHeartbeats 4000000 in
set_option maxRecDepth 100000 in
theorem sX1_handCount {T D : Int} {k : Nat} {post : Int32 → Wd → Prop}  {w : Wd}   (hI : IX k T D w)  (hp : ∀ (r : Int32) (zr : Int), Ti r zr → (0 ≤ zr ∧ zr ≤ 4) → post r w) : pX1_handCount   post   w := by
  unfold pX1_handCount
  have hk := ix_k hI
  obtain ⟨z2712, t2713⟩ := t_any (w.1 (rl (w.2.2.2.2 3)) 2)
  have f2714 := ixg_r2 hI t2713
  exact hp _ _ t2713 (by omega)
set_option maxHeartbeats 4000000 in
set_option maxRecDepth 100000 in
theorem sX1_isHeatUsed {T D : Int} {k : Nat} {post : Int32 → Wd → Prop} {x1 : Int32} {zx1 : Int} {w : Wd}  (tx1 : Ti x1 zx1) (hI : IX k T D w)  (hp : ∀ (r : Int32) (zr : Int), Ti r zr → ((zr = 0 ∨ zr = 1)) → post r w) : pX1_isHeatUsed   post  x1 w := by
  unfold pX1_isHeatUsed
  have hk := ix_k hI
  refine sX7_isUsed   (hI := hI) (tx1 := tx1) (tx2 := lit_6)  (hp := fun r_1v1373 zr_1v1373 tr_1v1373 p2715 => ?_)
  refine ⟨nar_ok tr_1v1373 (by omega), ?_⟩
  exact hp _ _ tr_1v1373 (by omega)
set_option maxHeartbeats 4000000 in
set_option maxRecDepth 100000 in
theorem sX9_heatsOf {T D : Int} {k : Nat} {post : Int32 → Wd → Prop} {x1 : Int32} {zx1 : Int} {w : Wd}  (tx1 : Ti x1 zx1) (hI : IX k T D w)  (hp : ∀ (r : Int32) (zr : Int), Ti r zr → (0 ≤ zr ∧ zr ≤ 4) → post r w) : pX9_heatsOf   post  x1 w := by
  unfold pX9_heatsOf
  have hk := ix_k hI
  refine sX1_isHeatUsed   (hI := hI) (tx1 := tx1)  (hp := fun r_1v1375 zr_1v1375 tr_1v1375 p2716 => ?_)
  refine ⟨fun c2717 => ?_, fun c2717 => ?_⟩
  · replace c2717 := c_eq tr_1v1375 lit_0 c2717
    exact hp _ _ lit_1 (by omega)
  · replace c2717 := c_neq tr_1v1375 lit_0 c2717
    exact hp _ _ lit_4 (by omega)
set_option maxHeartbeats 4000000 in
set_option maxRecDepth 100000 in
theorem sX9_waxFrom_112 {T D : Int} {k : Nat} {k97 : Int32 → Int32 → Int32 → Int32 → Int32 → Int32 → Wd → Prop} {M97 : Int} {qX9_waxFrom : (Int32 → Wd → Prop) → Int32 → Int32 → Wd → Prop} {Mq : Int} {post : Int32 → Wd → Prop}  (hk97 : ∀ (x1 : Int32) (x2 : Int32) (x3 : Int32) (x4 : Int32) (x5 : Int32) (x6 : Int32) (zx1 : Int) (zx2 : Int) (zx3 : Int) (zx4 : Int) (zx5 : Int) (zx6 : Int) (w : Wd), Ti x1 zx1 → Ti x2 zx2 → Ti x3 zx3 → Ti x4 zx4 → Ti x5 zx5 → Ti x6 zx6 → IX k T D w → (0 ≤ zx6 ∧ zx6 ≤ 4) → ((zx4 = 0 ∨ (0 ≤ zx3 ∧ zx3 < 12288))) → (1 ≤ zx2 ∧ zx2 ≤ 4) → (5 - zx6) < M97 → k97 x1 x2 x3 x4 x5 x6 w) (hqX9_waxFrom : ∀ (post : Int32 → Wd → Prop) (x1 : Int32) (x2 : Int32) (zx1 : Int) (zx2 : Int) (w : Wd), Ti x1 zx1 → Ti x2 zx2 → IX k T D w → (-1 ≤ zx2 ∧ zx2 ≤ 4) → (zx2 + 1) < Mq → (∀ (r : Int32) (zr : Int) (w9 : Wd), Ti r zr → IX k T D w9 → post r w9) → qX9_waxFrom post x1 x2 w) (hp : ∀ (r : Int32) (zr : Int) (w9 : Wd), Ti r zr → IX k T D w9 → post r w9) : ∀ (n : Nat) (x1 : Int32) (x2 : Int32) (x3 : Int32) (x4 : Int32) (x5 : Int32) (x6 : Int32) (x7 : Int32) (zx1 : Int) (zx2 : Int) (zx3 : Int) (zx4 : Int) (zx5 : Int) (zx6 : Int) (zx7 : Int) (w : Wd), Ti x1 zx1 → Ti x2 zx2 → Ti x3 zx3 → Ti x4 zx4 → Ti x5 zx5 → Ti x6 zx6 → Ti x7 zx7 → IX k T D w → (0 ≤ zx7 ∧ zx7 ≤ 4) → (0 ≤ zx6 ∧ zx6 ≤ 4) → ((zx4 = 0 ∨ (0 ≤ zx3 ∧ zx3 < 12288))) → (1 ≤ zx2 ∧ zx2 ≤ 4) → ((5 - zx6) ≤ M97) → (zx2 + 1 ≤ Mq) → (5 - zx7) < (n : Int) → pX9_waxFrom_112 k97 qX9_waxFrom post  n x1 x2 x3 x4 x5 x6 x7 w := by
  intro n
  induction n with
  | zero =>
    intro x1 x2 x3 x4 x5 x6 x7 zx1 zx2 zx3 zx4 zx5 zx6 zx7 w tx1 tx2 tx3 tx4 tx5 tx6 tx7 hI h0 h1 h2 h3 h4 h5 hm
    exact absurd hm (by omega)
  | succ n ih =>
    intro x1 x2 x3 x4 x5 x6 x7 zx1 zx2 zx3 zx4 zx5 zx6 zx7 w tx1 tx2 tx3 tx4 tx5 tx6 tx7 hI h0 h1 h2 h3 h4 h5 hm
    unfold pX9_waxFrom_112
    have hk := ix_k hI
    refine sX9_heatsOf   (hI := hI) (tx1 := tx6)  (hp := fun r_1v1377 zr_1v1377 tr_1v1377 p2718 => ?_)
    refine ⟨fun c2719 => ?_, fun c2719 => ?_⟩
    · replace c2719 := c_le tr_1v1377 tx7 c2719
      unfold pX9_waxFrom_174
      obtain ⟨z2720, t2721, f2722⟩ := t_add tx6 lit_1
      first | replace f2722 := f2722 (by omega) | clear f2722
      intro x6_1v1391 ex6_1v1391
      have tx6_1v1391 : Ti x6_1v1391 z2720 := by rw [ex6_1v1391]; exact t2721
      exact hk97 _ _ _ _ _ _ _ _ _ _ _ _ _ tx1 tx2 tx3 tx4 tx5 tx6_1v1391 hI (by omega) (by omega) (by omega) (by omega)
    · replace c2719 := c_nle tr_1v1377 tx7 c2719
      obtain ⟨z2723, t2724, f2725⟩ := t_add lit_1 tx7
      first | replace f2725 := f2725 (by omega) | clear f2725
      refine ⟨fun c2726 => ?_, fun c2726 => ?_⟩
      · replace c2726 := c_le tx5 t2724 c2726
        unfold pX9_waxFrom_174
        obtain ⟨z2727, t2728, f2729⟩ := t_add tx6 lit_1
        first | replace f2729 := f2729 (by omega) | clear f2729
        intro x6_1v1392 ex6_1v1392
        have tx6_1v1392 : Ti x6_1v1392 z2727 := by rw [ex6_1v1392]; exact t2728
        exact hk97 _ _ _ _ _ _ _ _ _ _ _ _ _ tx1 tx2 tx3 tx4 tx5 tx6_1v1392 hI (by omega) (by omega) (by omega) (by omega)
      · replace c2726 := c_nle tx5 t2724 c2726
        refine sX1_rowAfter   (hI := hI) (tx1 := tx1) (tx2 := tx6) (tx3 := tx7) (tx4 := lit_0)  (hp := fun r_5v1385 zr_5v1385 w_6v1386  tr_5v1385 hIw_6v1386  => ?_)
        obtain ⟨z2730, t2731, f2732⟩ := t_sub tx2 lit_1
        first | replace f2732 := f2732 (by omega) | clear f2732
        refine hqX9_waxFrom _ _ _ _ _ _ tr_5v1385 t2731 hIw_6v1386 (by omega) (by omega) (fun r_7v1387 zr_7v1387 w_8v1388  tr_7v1387 hIw_8v1388  => ?_)
        obtain ⟨z2733, t2734, f2735⟩ := t_add t2724 tr_7v1387
        first | replace f2735 := f2735 (by omega) | clear f2735
        obtain ⟨z2736, t2737, f2738⟩ := t_ite t2734 tx5 t2734 tx5
        intro x5_9v1389 ex5_9v1389
        have tx5_9v1389 : Ti x5_9v1389 z2736 := by rw [ex5_9v1389]; exact t2737
        obtain ⟨z2739, t2740, f2741⟩ := t_add tx7 lit_1
        first | replace f2741 := f2741 (by omega) | clear f2741
        intro x7_10v1390 ex7_10v1390
        have tx7_10v1390 : Ti x7_10v1390 z2739 := by rw [ex7_10v1390]; exact t2740
        exact ih _ _ _ _ _ _ _ _ _ _ _ _ _ _ _ tx1 tx2 tx3 tx4 tx5_9v1389 tx6 tx7_10v1390 hIw_8v1388 (by omega) (by omega) (by omega) (by omega) (by omega) (by omega) (by omega)
set_option maxHeartbeats 4000000 in
set_option maxRecDepth 100000 in
theorem sX9_waxFrom_97 {T D : Int} {k : Nat} {qX9_waxFrom : (Int32 → Wd → Prop) → Int32 → Int32 → Wd → Prop} {Mq : Int} {post : Int32 → Wd → Prop}  (hqX9_waxFrom : ∀ (post : Int32 → Wd → Prop) (x1 : Int32) (x2 : Int32) (zx1 : Int) (zx2 : Int) (w : Wd), Ti x1 zx1 → Ti x2 zx2 → IX k T D w → (-1 ≤ zx2 ∧ zx2 ≤ 4) → (zx2 + 1) < Mq → (∀ (r : Int32) (zr : Int) (w9 : Wd), Ti r zr → IX k T D w9 → post r w9) → qX9_waxFrom post x1 x2 w) (hp : ∀ (r : Int32) (zr : Int) (w9 : Wd), Ti r zr → IX k T D w9 → post r w9) : ∀ (n : Nat) (x1 : Int32) (x2 : Int32) (x3 : Int32) (x4 : Int32) (x5 : Int32) (x6 : Int32) (zx1 : Int) (zx2 : Int) (zx3 : Int) (zx4 : Int) (zx5 : Int) (zx6 : Int) (w : Wd), Ti x1 zx1 → Ti x2 zx2 → Ti x3 zx3 → Ti x4 zx4 → Ti x5 zx5 → Ti x6 zx6 → IX k T D w → (0 ≤ zx6 ∧ zx6 ≤ 4) → ((zx4 = 0 ∨ (0 ≤ zx3 ∧ zx3 < 12288))) → (1 ≤ zx2 ∧ zx2 ≤ 4) → (zx2 + 1 ≤ Mq) → (5 - zx6) < (n : Int) → pX9_waxFrom_97  qX9_waxFrom post  n x1 x2 x3 x4 x5 x6 w := by
  intro n
  induction n with
  | zero =>
    intro x1 x2 x3 x4 x5 x6 zx1 zx2 zx3 zx4 zx5 zx6 w tx1 tx2 tx3 tx4 tx5 tx6 hI h0 h1 h2 h3 hm
    exact absurd hm (by omega)
  | succ n ih =>
    intro x1 x2 x3 x4 x5 x6 zx1 zx2 zx3 zx4 zx5 zx6 w tx1 tx2 tx3 tx4 tx5 tx6 hI h0 h1 h2 h3 hm
    unfold pX9_waxFrom_97
    have hk := ix_k hI
    refine sX1_handCount   (hI := hI)   (hp := fun r_1v1393 zr_1v1393 tr_1v1393 p2742 => ?_)
    refine ⟨fun c2743 => ?_, fun c2743 => ?_⟩
    · replace c2743 := c_le tr_1v1393 tx6 c2743
      refine ⟨fun c2744 => ?_, fun c2744 => ?_⟩
      · replace c2744 := c_eq tx4 lit_0 c2744
        exact hp _ _ _  tx5 hI 
      · replace c2744 := c_neq tx4 lit_0 c2744
        refine ⟨vp_of tx3 (by omega) (by omega), ?_⟩
        intro w_5v1396 ew_5v1396
        have hIw_5v1396 := ixs_A hI ew_5v1396 (by decide)
        exact hp _ _ _  tx5 hIw_5v1396 
    · replace c2743 := c_nle tr_1v1393 tx6 c2743
      exact ⟨70000, sX9_waxFrom_112 (M97 := (n : Int)) (hk97 := ih) (hqX9_waxFrom := hqX9_waxFrom) (hp := hp) 70000 _ _ _ _ _ _ _ _ _ _ _ _ _ _ _ tx1 tx2 tx3 tx4 tx5 tx6 lit_0 hI (by omega) (by omega) (by omega) (by omega) (by omega) (by omega) (by omega)⟩
set_option maxHeartbeats 4000000 in
set_option maxRecDepth 100000 in
theorem sX9_waxFrom {T D : Int} {k : Nat} {qX9_waxFrom : (Int32 → Wd → Prop) → Int32 → Int32 → Wd → Prop} {Mq : Int} {post : Int32 → Wd → Prop} {x1 : Int32} {zx1 : Int} {x2 : Int32} {zx2 : Int} {w : Wd} (hqX9_waxFrom : ∀ (post : Int32 → Wd → Prop) (x1 : Int32) (x2 : Int32) (zx1 : Int) (zx2 : Int) (w : Wd), Ti x1 zx1 → Ti x2 zx2 → IX k T D w → (-1 ≤ zx2 ∧ zx2 ≤ 4) → (zx2 + 1) < Mq → (∀ (r : Int32) (zr : Int) (w9 : Wd), Ti r zr → IX k T D w9 → post r w9) → qX9_waxFrom post x1 x2 w) (tx1 : Ti x1 zx1) (tx2 : Ti x2 zx2) (hI : IX k T D w) (h0 : -1 ≤ zx2 ∧ zx2 ≤ 4) (h1 : (zx2 + 1) ≤ Mq) (hp : ∀ (r : Int32) (zr : Int) (w9 : Wd), Ti r zr → IX k T D w9 → post r w9) : pX9_waxFrom  qX9_waxFrom post  x1 x2 w := by
  unfold pX9_waxFrom
  have hk := ix_k hI
  obtain ⟨z2745, t2746⟩ := t_any (w.1 60 3)
  refine ⟨fun c2747 => ?_, fun c2747 => ?_⟩
  · replace c2747 := c_neq tx1 t2746 c2747
    refine ⟨fun c2748 => ?_, fun c2748 => ?_⟩
    · replace c2748 := c_le tx2 lit_0 c2748
      exact hp _ _ _  lit_1000 hI 
    · replace c2748 := c_nle tx2 lit_0 c2748
      refine ⟨fun c2749 => ?_, fun c2749 => ?_⟩
      · replace c2749 := c_lt lit_4 tx2 c2749
        exact hp _ _ _  lit_1000 hI 
      · replace c2749 := c_nlt lit_4 tx2 c2749
        refine ⟨fun c2750 => ?_, fun c2750 => ?_⟩
        · replace c2750 := c_lt tx1 lit_0 c2750
          exact hp _ _ _  lit_1000 hI 
        · replace c2750 := c_nlt tx1 lit_0 c2750
          obtain ⟨z2751, t2752⟩ := t_any (w.1 60 4)
          have f2753 := ixg_60_4 hI t2752
          refine ⟨fun c2754 => ?_, fun c2754 => ?_⟩
          · replace c2754 := c_lt tx1 t2752 c2754
            obtain ⟨z2755, t2756, f2757⟩ := t_sub tx2 lit_1
            first | replace f2757 := f2757 (by omega) | clear f2757
            obtain ⟨z2758, t2759, f2760⟩ := t_mulv t2756 t2752
            first | replace f2760 := f2760 (by omega) | clear f2760
            obtain ⟨z2761, t2762, f2763⟩ := t_add t2759 tx1
            first | replace f2763 := f2763 (by omega) | clear f2763
            intro x3_6v1397 ex3_6v1397
            have tx3_6v1397 : Ti x3_6v1397 z2761 := by rw [ex3_6v1397]; exact t2762
            refine ⟨fun c2764 => ?_, fun c2764 => ?_⟩
            · replace c2764 := c_le lit_4 tx2 c2764
              unfold pX9_waxFrom_64
              unfold pX9_waxFrom_65
              refine ⟨fun c2765 => ?_, fun c2765 => ?_⟩
              · replace c2765 := c_eq lit_0 lit_0 c2765
                unfold pX9_waxFrom_89
                exact ⟨70000, sX9_waxFrom_97  (hqX9_waxFrom := hqX9_waxFrom) (hp := hp) 70000 _ _ _ _ _ _ _ _ _ _ _ _ _ tx1 tx2 tx3_6v1397 lit_0 lit_1000 lit_0 hI (by omega) (by omega) (by omega) (by omega) (by omega)⟩
              · replace c2765 := c_neq lit_0 lit_0 c2765
                refine ⟨vp_of tx3_6v1397 (by omega) (by omega), ?_⟩
                obtain ⟨z2766, t2767⟩ := t_any (w.2.1 63 x3_6v1397.toNatClampNeg)
                refine ⟨fun c2768 => ?_, fun c2768 => ?_⟩
                · replace c2768 := c_eq t2767 lit_m1 c2768
                  unfold pX9_waxFrom_89
                  exact ⟨70000, sX9_waxFrom_97  (hqX9_waxFrom := hqX9_waxFrom) (hp := hp) 70000 _ _ _ _ _ _ _ _ _ _ _ _ _ tx1 tx2 tx3_6v1397 lit_0 lit_1000 lit_0 hI (by omega) (by omega) (by omega) (by omega) (by omega)⟩
                · replace c2768 := c_neq t2767 lit_m1 c2768
                  refine ⟨vp_of tx3_6v1397 (by omega) (by omega), ?_⟩
                  exact hp _ _ _  t2767 hI 
            · replace c2764 := c_nle lit_4 tx2 c2764
              refine ⟨fun c2769 => ?_, fun c2769 => ?_⟩
              · replace c2769 := c_le lit_12288 tx3_6v1397 c2769
                unfold pX9_waxFrom_64
                unfold pX9_waxFrom_65
                refine ⟨fun c2770 => ?_, fun c2770 => ?_⟩
                · replace c2770 := c_eq lit_0 lit_0 c2770
                  unfold pX9_waxFrom_89
                  exact ⟨70000, sX9_waxFrom_97  (hqX9_waxFrom := hqX9_waxFrom) (hp := hp) 70000 _ _ _ _ _ _ _ _ _ _ _ _ _ tx1 tx2 tx3_6v1397 lit_0 lit_1000 lit_0 hI (by omega) (by omega) (by omega) (by omega) (by omega)⟩
                · replace c2770 := c_neq lit_0 lit_0 c2770
                  refine ⟨vp_of tx3_6v1397 (by omega) (by omega), ?_⟩
                  obtain ⟨z2771, t2772⟩ := t_any (w.2.1 63 x3_6v1397.toNatClampNeg)
                  refine ⟨fun c2773 => ?_, fun c2773 => ?_⟩
                  · replace c2773 := c_eq t2772 lit_m1 c2773
                    unfold pX9_waxFrom_89
                    exact ⟨70000, sX9_waxFrom_97  (hqX9_waxFrom := hqX9_waxFrom) (hp := hp) 70000 _ _ _ _ _ _ _ _ _ _ _ _ _ tx1 tx2 tx3_6v1397 lit_0 lit_1000 lit_0 hI (by omega) (by omega) (by omega) (by omega) (by omega)⟩
                  · replace c2773 := c_neq t2772 lit_m1 c2773
                    refine ⟨vp_of tx3_6v1397 (by omega) (by omega), ?_⟩
                    exact hp _ _ _  t2772 hI 
              · replace c2769 := c_nle lit_12288 tx3_6v1397 c2769
                unfold pX9_waxFrom_65
                refine ⟨fun c2774 => ?_, fun c2774 => ?_⟩
                · replace c2774 := c_eq lit_1 lit_0 c2774
                  unfold pX9_waxFrom_89
                  exact ⟨70000, sX9_waxFrom_97  (hqX9_waxFrom := hqX9_waxFrom) (hp := hp) 70000 _ _ _ _ _ _ _ _ _ _ _ _ _ tx1 tx2 tx3_6v1397 lit_1 lit_1000 lit_0 hI (by omega) (by omega) (by omega) (by omega) (by omega)⟩
                · replace c2774 := c_neq lit_1 lit_0 c2774
                  refine ⟨vp_of tx3_6v1397 (by omega) (by omega), ?_⟩
                  obtain ⟨z2775, t2776⟩ := t_any (w.2.1 63 x3_6v1397.toNatClampNeg)
                  refine ⟨fun c2777 => ?_, fun c2777 => ?_⟩
                  · replace c2777 := c_eq t2776 lit_m1 c2777
                    unfold pX9_waxFrom_89
                    exact ⟨70000, sX9_waxFrom_97  (hqX9_waxFrom := hqX9_waxFrom) (hp := hp) 70000 _ _ _ _ _ _ _ _ _ _ _ _ _ tx1 tx2 tx3_6v1397 lit_1 lit_1000 lit_0 hI (by omega) (by omega) (by omega) (by omega) (by omega)⟩
                  · replace c2777 := c_neq t2776 lit_m1 c2777
                    refine ⟨vp_of tx3_6v1397 (by omega) (by omega), ?_⟩
                    exact hp _ _ _  t2776 hI 
          · replace c2754 := c_nlt tx1 t2752 c2754
            exact hp _ _ _  lit_1000 hI 
  · replace c2747 := c_eq tx1 t2746 c2747
    exact hp _ _ _  lit_0 hI 
theorem sd9X9_waxFrom {T D : Int} {k : Nat} : ∀ (d : Nat) (post : Int32 → Wd → Prop) (x1 : Int32) (x2 : Int32) (zx1 : Int) (zx2 : Int) (w : Wd), Ti x1 zx1 → Ti x2 zx2 → IX k T D w → (-1 ≤ zx2 ∧ zx2 ≤ 4) → (zx2 + 1) < (d : Int) → (∀ (r : Int32) (zr : Int) (w9 : Wd), Ti r zr → IX k T D w9 → post r w9) → d9X9_waxFrom d post x1 x2 w := by
  intro d
  induction d with
  | zero =>
    intro post x1 x2 zx1 zx2 w tx1 tx2 hI h0 hm hp
    exact absurd hm (by omega)
  | succ d ih =>
    intro post x1 x2 zx1 zx2 w tx1 tx2 hI h0 hm hp
    show pX9_waxFrom (d9X9_waxFrom d) post x1 x2 w
    exact sX9_waxFrom (Mq := (d : Int)) (hqX9_waxFrom := ih) (hI := hI) (tx1 := tx1) (tx2 := tx2) (h0 := h0) (h1 := (by omega)) (hp := hp)
theorem sdX9_waxFrom {T D : Int} {k : Nat} {d : Nat} {post : Int32 → Wd → Prop} {x1 : Int32} {zx1 : Int} {x2 : Int32} {zx2 : Int} {w : Wd} (tx1 : Ti x1 zx1) (tx2 : Ti x2 zx2) (hI : IX k T D w) (h0 : -1 ≤ zx2 ∧ zx2 ≤ 4) (hm : (zx2 + 1) < (d : Int)) (hp : ∀ (r : Int32) (zr : Int) (w9 : Wd), Ti r zr → IX k T D w9 → post r w9) : dX9_waxFrom d post x1 x2 w := sd9X9_waxFrom d post x1 x2 zx1 zx2 w tx1 tx2 hI h0 hm hp
set_option maxHeartbeats 4000000 in
set_option maxRecDepth 100000 in
theorem sX9_firstStep_18 {T D : Int} {k : Nat} {k3 : Int32 → Int32 → Int32 → Int32 → Wd → Prop} {M3 : Int} {post : Int32 → Wd → Prop}  (hk3 : ∀ (x1 : Int32) (x2 : Int32) (x3 : Int32) (x4 : Int32) (zx1 : Int) (zx2 : Int) (zx3 : Int) (zx4 : Int) (w : Wd), Ti x1 zx1 → Ti x2 zx2 → Ti x3 zx3 → Ti x4 zx4 → IX k T D w → (0 ≤ zx4 ∧ zx4 ≤ 4) → (zx2 ≤ 5 ∧ 0 ≤ zx2) → (5 - zx4) < M3 → k3 x1 x2 x3 x4 w) (hp : ∀ (r : Int32) (zr : Int) (w9 : Wd), Ti r zr → IX k T D w9 → post r w9) : ∀ (n : Nat) (x1 : Int32) (x2 : Int32) (x3 : Int32) (x4 : Int32) (x5 : Int32) (zx1 : Int) (zx2 : Int) (zx3 : Int) (zx4 : Int) (zx5 : Int) (w : Wd), Ti x1 zx1 → Ti x2 zx2 → Ti x3 zx3 → Ti x4 zx4 → Ti x5 zx5 → IX k T D w → (0 ≤ zx5 ∧ zx5 ≤ 4) → (zx2 ≤ 5 ∧ 0 ≤ zx2) → (0 ≤ zx4 ∧ zx4 ≤ 4) → (zx2 ≤ 5 ∧ 0 ≤ zx2) → ((5 - zx4) ≤ M3) → (5 - zx5) < (n : Int) → pX9_firstStep_18 k3  post  n x1 x2 x3 x4 x5 w := by
  intro n
  induction n with
  | zero =>
    intro x1 x2 x3 x4 x5 zx1 zx2 zx3 zx4 zx5 w tx1 tx2 tx3 tx4 tx5 hI h0 h1 h2 h3 h4 hm
    exact absurd hm (by omega)
  | succ n ih =>
    intro x1 x2 x3 x4 x5 zx1 zx2 zx3 zx4 zx5 w tx1 tx2 tx3 tx4 tx5 hI h0 h1 h2 h3 h4 hm
    unfold pX9_firstStep_18
    have hk := ix_k hI
    refine sX9_heatsOf   (hI := hI) (tx1 := tx4)  (hp := fun r_1v1398 zr_1v1398 tr_1v1398 p2778 => ?_)
    refine ⟨fun c2779 => ?_, fun c2779 => ?_⟩
    · replace c2779 := c_le tr_1v1398 tx5 c2779
      obtain ⟨z2780, t2781, f2782⟩ := t_add tx4 lit_1
      first | replace f2782 := f2782 (by omega) | clear f2782
      intro x4_4v1406 ex4_4v1406
      have tx4_4v1406 : Ti x4_4v1406 z2780 := by rw [ex4_4v1406]; exact t2781
      exact hk3 _ _ _ _ _ _ _ _ _ tx1 tx2 tx3 tx4_4v1406 hI (by omega) (by omega) (by omega)
    · replace c2779 := c_nle tr_1v1398 tx5 c2779
      refine sX1_rowAfter   (hI := hI) (tx1 := tx1) (tx2 := tx4) (tx3 := tx5) (tx4 := lit_0)  (hp := fun r_5v1407 zr_5v1407 w_6v1408  tr_5v1407 hIw_6v1408  => ?_)
      obtain ⟨z2783, t2784, f2785⟩ := t_sub tx2 lit_1
      first | replace f2785 := f2785 (by omega) | clear f2785
      refine sdX9_waxFrom tr_5v1407 t2784 hIw_6v1408 (by omega) (by omega) (fun r_7v1409 zr_7v1409 w_8v1410  tr_7v1409 hIw_8v1410  => ?_)
      obtain ⟨z2786, t2787, f2788⟩ := t_add lit_1 tx5
      first | replace f2788 := f2788 (by omega) | clear f2788
      obtain ⟨z2789, t2790, f2791⟩ := t_add t2787 tr_7v1409
      first | replace f2791 := f2791 (by omega) | clear f2791
      refine ⟨fun c2792 => ?_, fun c2792 => ?_⟩
      · replace c2792 := c_neq t2790 tx3 c2792
        obtain ⟨z2793, t2794, f2795⟩ := t_add tx5 lit_1
        first | replace f2795 := f2795 (by omega) | clear f2795
        intro x5_10v1411 ex5_10v1411
        have tx5_10v1411 : Ti x5_10v1411 z2793 := by rw [ex5_10v1411]; exact t2794
        exact ih _ _ _ _ _ _ _ _ _ _ _ tx1 tx2 tx3 tx4 tx5_10v1411 hIw_8v1410 (by omega) (by omega) (by omega) (by omega) (by omega) (by omega)
      · replace c2792 := c_eq t2790 tx3 c2792
        obtain ⟨z2796, t2797, f2798⟩ := t_mul tx4 lit_10
        first | replace f2798 := f2798 (by omega) | clear f2798
        obtain ⟨z2799, t2800, f2801⟩ := t_add t2797 tx5
        first | replace f2801 := f2801 (by omega) | clear f2801
        exact hp _ _ _  t2800 hIw_8v1410 
set_option maxHeartbeats 4000000 in
set_option maxRecDepth 100000 in
theorem sX9_firstStep_3 {T D : Int} {k : Nat} {post : Int32 → Wd → Prop}   (hp : ∀ (r : Int32) (zr : Int) (w9 : Wd), Ti r zr → IX k T D w9 → post r w9) : ∀ (n : Nat) (x1 : Int32) (x2 : Int32) (x3 : Int32) (x4 : Int32) (zx1 : Int) (zx2 : Int) (zx3 : Int) (zx4 : Int) (w : Wd), Ti x1 zx1 → Ti x2 zx2 → Ti x3 zx3 → Ti x4 zx4 → IX k T D w → (0 ≤ zx4 ∧ zx4 ≤ 4) → (zx2 ≤ 5 ∧ 0 ≤ zx2) → (5 - zx4) < (n : Int) → pX9_firstStep_3   post  n x1 x2 x3 x4 w := by
  intro n
  induction n with
  | zero =>
    intro x1 x2 x3 x4 zx1 zx2 zx3 zx4 w tx1 tx2 tx3 tx4 hI h0 h1 hm
    exact absurd hm (by omega)
  | succ n ih =>
    intro x1 x2 x3 x4 zx1 zx2 zx3 zx4 w tx1 tx2 tx3 tx4 hI h0 h1 hm
    unfold pX9_firstStep_3
    have hk := ix_k hI
    refine sX1_handCount   (hI := hI)   (hp := fun r_1v1412 zr_1v1412 tr_1v1412 p2802 => ?_)
    refine ⟨fun c2803 => ?_, fun c2803 => ?_⟩
    · replace c2803 := c_le tr_1v1412 tx4 c2803
      exact hp _ _ _  lit_m1 hI 
    · replace c2803 := c_nle tr_1v1412 tx4 c2803
      exact ⟨70000, sX9_firstStep_18 (M3 := (n : Int)) (hk3 := ih)  (hp := hp) 70000 _ _ _ _ _ _ _ _ _ _ _ tx1 tx2 tx3 tx4 lit_0 hI (by omega) (by omega) (by omega) (by omega) (by omega) (by omega)⟩
set_option maxHeartbeats 4000000 in
set_option maxRecDepth 100000 in
theorem sX9_firstStep {T D : Int} {k : Nat} {post : Int32 → Wd → Prop} {x1 : Int32} {zx1 : Int} {x2 : Int32} {zx2 : Int} {x3 : Int32} {zx3 : Int} {w : Wd}  (tx1 : Ti x1 zx1) (tx2 : Ti x2 zx2) (tx3 : Ti x3 zx3) (hI : IX k T D w) (h0 : zx2 ≤ 5 ∧ 0 ≤ zx2) (hp : ∀ (r : Int32) (zr : Int) (w9 : Wd), Ti r zr → IX k T D w9 → post r w9) : pX9_firstStep   post  x1 x2 x3 w := by
  unfold pX9_firstStep
  have hk := ix_k hI
  exact ⟨70000, sX9_firstStep_3   (hp := hp) 70000 _ _ _ _ _ _ _ _ _ tx1 tx2 tx3 lit_0 hI (by omega) (by omega) (by omega)⟩
set_option maxHeartbeats 4000000 in
set_option maxRecDepth 100000 in
theorem sX9_layWay_11 {T D : Int} {k : Nat} {post : Wd → Prop}   (hp : ∀ (w9 : Wd), IX k T D w9 → post w9) : ∀ (n : Nat) (x3 : Int32) (x4 : Int32) (x5 : Int32) (zx3 : Int) (zx4 : Int) (zx5 : Int) (w : Wd), Ti x3 zx3 → Ti x4 zx4 → Ti x5 zx5 → IX k T D w → (0 ≤ zx5 ∧ zx5 ≤ 4) → (zx5 + 1) < (n : Int) → pX9_layWay_11   post  n x3 x4 x5 w := by
  intro n
  induction n with
  | zero =>
    intro x3 x4 x5 zx3 zx4 zx5 w tx3 tx4 tx5 hI h0 hm
    exact absurd hm (by omega)
  | succ n ih =>
    intro x3 x4 x5 zx3 zx4 zx5 w tx3 tx4 tx5 hI h0 hm
    unfold pX9_layWay_11
    have hk := ix_k hI
    refine ⟨fun c2804 => ?_, fun c2804 => ?_⟩
    · replace c2804 := c_le tx5 lit_0 c2804
      exact hp  _   hI 
    · replace c2804 := c_nle tx5 lit_0 c2804
      obtain ⟨z2805, t2806⟩ := t_any (w.1 60 3)
      refine ⟨fun c2807 => ?_, fun c2807 => ?_⟩
      · replace c2807 := c_eq tx3 t2806 c2807
        exact hp  _   hI 
      · replace c2807 := c_neq tx3 t2806 c2807
        refine sX9_firstStep   (hI := hI) (tx1 := tx3) (tx2 := tx5) (tx3 := tx4) (h0 := (by omega)) (hp := fun r_3v1414 zr_3v1414 w_4v1415  tr_3v1414 hIw_4v1415  => ?_)
        refine ⟨fun c2808 => ?_, fun c2808 => ?_⟩
        · replace c2808 := c_neq tr_3v1414 lit_m1 c2808
          refine sX4_lay   (hI := hIw_4v1415) (tx1 := tr_3v1414)  (hp := fun  w_6v1416   hIw_6v1416  => ?_)
          obtain ⟨z2809, t2810, f2811⟩ := t_div tr_3v1414 lit_10
          first | replace f2811 := f2811 (by omega) | clear f2811
          obtain ⟨z2812, t2813, f2814⟩ := t_rem tr_3v1414 lit_10
          first | replace f2814 := f2814 (by omega) | clear f2814
          refine sX1_rowAfter   (hI := hIw_6v1416) (tx1 := tx3) (tx2 := t2810) (tx3 := t2813) (tx4 := lit_0)  (hp := fun r_7v1417 zr_7v1417 w_8v1418  tr_7v1417 hIw_8v1418  => ?_)
          obtain ⟨z2815, t2816, f2817⟩ := t_add lit_1 t2813
          first | replace f2817 := f2817 (by omega) | clear f2817
          obtain ⟨z2818, t2819, f2820⟩ := t_sub tx4 t2816
          first | replace f2820 := f2820 (by omega) | clear f2820
          intro x4_9v1419 ex4_9v1419
          have tx4_9v1419 : Ti x4_9v1419 z2818 := by rw [ex4_9v1419]; exact t2819
          obtain ⟨z2821, t2822, f2823⟩ := t_add tx5 lit_m1
          first | replace f2823 := f2823 (by omega) | clear f2823
          intro x5_10v1420 ex5_10v1420
          have tx5_10v1420 : Ti x5_10v1420 z2821 := by rw [ex5_10v1420]; exact t2822
          exact ih _ _ _ _ _ _ _ tr_7v1417 tx4_9v1419 tx5_10v1420 hIw_8v1418 (by omega) (by omega)
        · replace c2808 := c_eq tr_3v1414 lit_m1 c2808
          exact hp  _   hIw_4v1415 
set_option maxHeartbeats 4000000 in
set_option maxRecDepth 100000 in
theorem sX9_layWay {T D : Int} {k : Nat} {post : Wd → Prop} {x1 : Int32} {zx1 : Int} {w : Wd}  (tx1 : Ti x1 zx1) (hI : IX k T D w)  (hp : ∀ (w9 : Wd), IX k T D w9 → post w9) : pX9_layWay   post  x1 w := by
  unfold pX9_layWay
  have hk := ix_k hI
  obtain ⟨z2824, t2825⟩ := t_any (w.1 60 5)
  intro x4_1v1421 ex4_1v1421
  have tx4_1v1421 : Ti x4_1v1421 z2824 := by rw [ex4_1v1421]; exact t2825
  exact ⟨70000, sX9_layWay_11   (hp := hp) 70000 _ _ _ _ _ _ _ tx1 tx4_1v1421 lit_4 hI (by omega) (by omega)⟩
set_option maxHeartbeats 4000000 in
set_option maxRecDepth 100000 in
theorem sX9_seek_53 {T D : Int} {k : Nat} {post : Int32 → Wd → Prop}   (hp : ∀ (r : Int32) (zr : Int) (w9 : Wd), Ti r zr → IX k T D w9 → post r w9) : ∀ (n : Nat) (x3 : Int32) (x4 : Int32) (zx3 : Int) (zx4 : Int) (w : Wd), Ti x3 zx3 → Ti x4 zx4 → IX k T D w → (0 ≤ zx4 ∧ zx4 ≤ 24) → (25 - zx4) < (n : Int) → pX9_seek_53   post  n x3 x4 w := by
  intro n
  induction n with
  | zero =>
    intro x3 x4 zx3 zx4 w tx3 tx4 hI h0 hm
    exact absurd hm (by omega)
  | succ n ih =>
    intro x3 x4 zx3 zx4 w tx3 tx4 hI h0 hm
    unfold pX9_seek_53
    have hk := ix_k hI
    obtain ⟨z2826, t2827⟩ := t_any (w.1 160 0)
    have f2828 := ixg_c0 hI t2827
    refine ⟨fun c2829 => ?_, fun c2829 => ?_⟩
    · replace c2829 := c_le t2827 tx4 c2829
      exact hp _ _ _  tx3 hI 
    · replace c2829 := c_nle t2827 tx4 c2829
      refine ⟨vp_of tx4 (by omega) (by omega), ?_⟩
      obtain ⟨z2830, t2831⟩ := t_any (w.2.1 162 x4.toNatClampNeg)
      refine sdX9_waxFrom t2831 lit_4 hI (by omega) (by omega) (fun r_2v1422 zr_2v1422 w_3v1423  tr_2v1422 hIw_3v1423  => ?_)
      obtain ⟨z2832, t2833⟩ := t_any (w_3v1423.1 60 5)
      refine ⟨fun c2834 => ?_, fun c2834 => ?_⟩
      · replace c2834 := c_le t2833 tr_2v1422 c2834
        unfold pX9_seek_100
        obtain ⟨z2835, t2836, f2837⟩ := t_add tx4 lit_1
        first | replace f2837 := f2837 (by omega) | clear f2837
        intro x4_1v1425 ex4_1v1425
        have tx4_1v1425 : Ti x4_1v1425 z2835 := by rw [ex4_1v1425]; exact t2836
        exact ih _ _ _ _ _ tx3 tx4_1v1425 hIw_3v1423 (by omega) (by omega)
      · replace c2834 := c_nle t2833 tr_2v1422 c2834
        intro w_5v1424 ew_5v1424
        have hIw_5v1424 := ixs_n hIw_3v1423 ew_5v1424 (by unfold nX; omega)
        unfold pX9_seek_100
        obtain ⟨z2838, t2839, f2840⟩ := t_add tx4 lit_1
        first | replace f2840 := f2840 (by omega) | clear f2840
        intro x4_1v1426 ex4_1v1426
        have tx4_1v1426 : Ti x4_1v1426 z2838 := by rw [ex4_1v1426]; exact t2839
        exact ih _ _ _ _ _ tx4 tx4_1v1426 hIw_5v1424 (by omega) (by omega)
set_option maxHeartbeats 4000000 in
set_option maxRecDepth 100000 in
theorem sX9_seek_18 {T D : Int} {k : Nat} {post : Int32 → Wd → Prop}   (hp : ∀ (r : Int32) (zr : Int) (w9 : Wd), Ti r zr → IX k T D w9 → post r w9) : ∀ (n : Nat) (x3 : Int32) (zx3 : Int) (w : Wd), Ti x3 zx3 → IX k T D w → (0 ≤ zx3 ∧ zx3 ≤ 12288) → (12289 - zx3) < (n : Int) → pX9_seek_18   post  n x3 w := by
  intro n
  induction n with
  | zero =>
    intro x3 zx3 w tx3 hI h0 hm
    exact absurd hm (by omega)
  | succ n ih =>
    intro x3 zx3 w tx3 hI h0 hm
    unfold pX9_seek_18
    have hk := ix_k hI
    obtain ⟨z2841, t2842⟩ := t_any (w.1 60 4)
    have f2843 := ixg_60_4 hI t2842
    obtain ⟨z2844, t2845, f2846⟩ := t_mul lit_3 t2842
    first | replace f2846 := f2846 (by omega) | clear f2846
    refine ⟨fun c2847 => ?_, fun c2847 => ?_⟩
    · replace c2847 := c_le t2845 tx3 c2847
      intro w_2v1427 ew_2v1427
      have hIw_2v1427 := ixs_n hI ew_2v1427 (by unfold nX; omega)
      exact ⟨70000, sX9_seek_53   (hp := hp) 70000 _ _ _ _ _ lit_m1 lit_0 hIw_2v1427 (by omega) (by omega)⟩
    · replace c2847 := c_nle t2845 tx3 c2847
      refine ⟨vp_of tx3 (by omega) (by omega), ?_⟩
      intro w_3v1428 ew_3v1428
      have hIw_3v1428 := ixs_A hI ew_3v1428 (by decide)
      obtain ⟨z2848, t2849, f2850⟩ := t_add tx3 lit_1
      first | replace f2850 := f2850 (by omega) | clear f2850
      intro x3_4v1429 ex3_4v1429
      have tx3_4v1429 : Ti x3_4v1429 z2848 := by rw [ex3_4v1429]; exact t2849
      exact ih _ _ _ tx3_4v1429 hIw_3v1428 (by omega) (by omega)
