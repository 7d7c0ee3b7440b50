set_option maxHeartbeats 4000000 in
set_option maxRecDepth 100000 in
theorem sX10_nearest_41 {T D : Int} {k : Nat} {k32 : Int32 → Int32 → Int32 → Int32 → Int32 → Int32 → Wd → Prop} {M32 : Int} {post : Int32 → Wd → Prop} {w : Wd} (hk32 : ∀ (x1 : Int32) (x2 : Int32) (x3 : Int32) (x4 : Int32) (x5 : Int32) (x6 : Int32) (zx1 : Int) (zx2 : Int) (zx3 : Int) (zx4 : Int) (zx5 : Int) (zx6 : Int), Ti x1 zx1 → Ti x2 zx2 → Ti x3 zx3 → Ti x4 zx4 → Ti x5 zx5 → Ti x6 zx6 → IX k T D w → (0 ≤ zx6 ∧ zx6 ≤ 2) → (3 - zx6) < M32 → k32 x1 x2 x3 x4 x5 x6 w) (hp : ∀ (r : Int32) (zr : Int), Ti r zr → post r w) : ∀ (n : Nat) (x1 : Int32) (x2 : Int32) (x3 : Int32) (x4 : Int32) (x5 : Int32) (x6 : Int32) (x7 : Int32) (zx1 : Int) (zx2 : Int) (zx3 : Int) (zx4 : Int) (zx5 : Int) (zx6 : Int) (zx7 : Int), Ti x1 zx1 → Ti x2 zx2 → Ti x3 zx3 → Ti x4 zx4 → Ti x5 zx5 → Ti x6 zx6 → Ti x7 zx7 → IX k T D w → (0 ≤ zx7 ∧ zx7 ≤ 24) → (zx6 ≤ 1) → (0 ≤ zx6 ∧ zx6 ≤ 2) → ((3 - zx6) ≤ M32) → (25 - zx7) < (n : Int) → pX10_nearest_41 k32  post  n x1 x2 x3 x4 x5 x6 x7 w := by
  intro n
  induction n with
  | zero =>
    intro x1 x2 x3 x4 x5 x6 x7 zx1 zx2 zx3 zx4 zx5 zx6 zx7  tx1 tx2 tx3 tx4 tx5 tx6 tx7 hI h0 h1 h2 h3 hm
    exact absurd hm (by omega)
  | succ n ih =>
    intro x1 x2 x3 x4 x5 x6 x7 zx1 zx2 zx3 zx4 zx5 zx6 zx7  tx1 tx2 tx3 tx4 tx5 tx6 tx7 hI h0 h1 h2 h3 hm
    unfold pX10_nearest_41
    have hk := ix_k hI
    obtain ⟨z2492, t2493⟩ := t_any (w.1 160 0)
    have f2494 := ixg_c0 hI t2493
    refine ⟨fun c2495 => ?_, fun c2495 => ?_⟩
    · replace c2495 := c_le t2493 tx7 c2495
      obtain ⟨z2496, t2497, f2498⟩ := t_add tx6 lit_1
      first | replace f2498 := f2498 (by omega) | clear f2498
      intro x6_2v1211 ex6_2v1211
      have tx6_2v1211 : Ti x6_2v1211 z2496 := by rw [ex6_2v1211]; exact t2497
      exact hk32 _ _ _ _ _ _ _ _ _ _ _ _  tx1 tx2 tx3 tx4 tx5 tx6_2v1211 hI (by omega) (by omega)
    · replace c2495 := c_nle t2493 tx7 c2495
      refine ⟨fun c2499 => ?_, fun c2499 => ?_⟩
      · replace c2499 := c_neq tx6 lit_0 c2499
        refine ⟨vp_of tx7 (by omega) (by omega), ?_⟩
        unfold pX10_nearest_78
        obtain ⟨z2500, t2501⟩ := t_any (x1 ^^^ (w.2.1 162 x7.toNatClampNeg))
        refine sJ6_bitCount_0f7a4   (hI := hI) (tx0 := t2501)  (hp := fun r_1v1214 zr_1v1214 tr_1v1214 p2502 => ?_)
        refine ⟨fun c2503 => ?_, fun c2503 => ?_⟩
        · replace c2503 := c_le tx3 tr_1v1214 c2503
          unfold pX10_nearest_101
          obtain ⟨z2504, t2505, f2506⟩ := t_add tx7 lit_1
          first | replace f2506 := f2506 (by omega) | clear f2506
          intro x7_1v1216 ex7_1v1216
          have tx7_1v1216 : Ti x7_1v1216 z2504 := by rw [ex7_1v1216]; exact t2505
          exact ih _ _ _ _ _ _ _ _ _ _ _ _ _ _  tx1 tx2 tx3 tx4 tx5 tx6 tx7_1v1216 hI (by omega) (by omega) (by omega) (by omega) (by omega)
        · replace c2503 := c_nle tx3 tr_1v1214 c2503
          unfold pX10_nearest_101
          obtain ⟨z2507, t2508, f2509⟩ := t_add tx7 lit_1
          first | replace f2509 := f2509 (by omega) | clear f2509
          intro x7_1v1217 ex7_1v1217
          have tx7_1v1217 : Ti x7_1v1217 z2507 := by rw [ex7_1v1217]; exact t2508
          exact ih _ _ _ _ _ _ _ _ _ _ _ _ _ _  tx1 tx2 tr_1v1214 tx7 tx6 tx6 tx7_1v1217 hI (by omega) (by omega) (by omega) (by omega) (by omega)
      · replace c2499 := c_eq tx6 lit_0 c2499
        refine sX10_printOf   (hI := hI) (tx1 := tx7)  (hp := fun r_4v1212 zr_4v1212 tr_4v1212 => ?_)
        unfold pX10_nearest_78
        obtain ⟨z2510, t2511⟩ := t_any (x1 ^^^ r_4v1212)
        refine sJ6_bitCount_0f7a4   (hI := hI) (tx0 := t2511)  (hp := fun r_1v1218 zr_1v1218 tr_1v1218 p2512 => ?_)
        refine ⟨fun c2513 => ?_, fun c2513 => ?_⟩
        · replace c2513 := c_le tx3 tr_1v1218 c2513
          unfold pX10_nearest_101
          obtain ⟨z2514, t2515, f2516⟩ := t_add tx7 lit_1
          first | replace f2516 := f2516 (by omega) | clear f2516
          intro x7_1v1220 ex7_1v1220
          have tx7_1v1220 : Ti x7_1v1220 z2514 := by rw [ex7_1v1220]; exact t2515
          exact ih _ _ _ _ _ _ _ _ _ _ _ _ _ _  tx1 tx2 tx3 tx4 tx5 tx6 tx7_1v1220 hI (by omega) (by omega) (by omega) (by omega) (by omega)
        · replace c2513 := c_nle tx3 tr_1v1218 c2513
          unfold pX10_nearest_101
          obtain ⟨z2517, t2518, f2519⟩ := t_add tx7 lit_1
          first | replace f2519 := f2519 (by omega) | clear f2519
          intro x7_1v1221 ex7_1v1221
          have tx7_1v1221 : Ti x7_1v1221 z2517 := by rw [ex7_1v1221]; exact t2518
          exact ih _ _ _ _ _ _ _ _ _ _ _ _ _ _  tx1 tx2 tr_1v1218 tx7 tx6 tx6 tx7_1v1221 hI (by omega) (by omega) (by omega) (by omega) (by omega)
set_option maxHeartbeats 4000000 in
set_option maxRecDepth 100000 in
theorem sX10_nearest_32 {T D : Int} {k : Nat} {post : Int32 → Wd → Prop} {w : Wd}  (hp : ∀ (r : Int32) (zr : Int), Ti r zr → post r w) : ∀ (n : Nat) (x1 : Int32) (x2 : Int32) (x3 : Int32) (x4 : Int32) (x5 : Int32) (x6 : Int32) (zx1 : Int) (zx2 : Int) (zx3 : Int) (zx4 : Int) (zx5 : Int) (zx6 : Int), Ti x1 zx1 → Ti x2 zx2 → Ti x3 zx3 → Ti x4 zx4 → Ti x5 zx5 → Ti x6 zx6 → IX k T D w → (0 ≤ zx6 ∧ zx6 ≤ 2) → (3 - zx6) < (n : Int) → pX10_nearest_32   post  n x1 x2 x3 x4 x5 x6 w := by
  intro n
  induction n with
  | zero =>
    intro x1 x2 x3 x4 x5 x6 zx1 zx2 zx3 zx4 zx5 zx6  tx1 tx2 tx3 tx4 tx5 tx6 hI h0 hm
    exact absurd hm (by omega)
  | succ n ih =>
    intro x1 x2 x3 x4 x5 x6 zx1 zx2 zx3 zx4 zx5 zx6  tx1 tx2 tx3 tx4 tx5 tx6 hI h0 hm
    unfold pX10_nearest_32
    have hk := ix_k hI
    refine ⟨fun c2520 => ?_, fun c2520 => ?_⟩
    · replace c2520 := c_le lit_2 tx6 c2520
      refine ⟨fun c2521 => ?_, fun c2521 => ?_⟩
      · replace c2521 := c_neq tx2 lit_0 c2521
        refine ⟨fun c2522 => ?_, fun c2522 => ?_⟩
        · replace c2522 := c_neq tx2 lit_1 c2522
          exact hp _ _ tx5 
        · replace c2522 := c_eq tx2 lit_1 c2522
          exact hp _ _ tx4 
      · replace c2521 := c_eq tx2 lit_0 c2521
        exact hp _ _ tx3 
    · replace c2520 := c_nle lit_2 tx6 c2520
      exact ⟨70000, sX10_nearest_41  (M32 := (n : Int)) (hk32 := ih)  (hp := hp) 70000 _ _ _ _ _ _ _ _ _ _ _ _ _ _  tx1 tx2 tx3 tx4 tx5 tx6 lit_0 hI (by omega) (by omega) (by omega) (by omega) (by omega)⟩
set_option maxHeartbeats 4000000 in
set_option maxRecDepth 100000 in
theorem sX10_nearest {T D : Int} {k : Nat} {post : Int32 → Wd → Prop} {x1 : Int32} {zx1 : Int} {x2 : Int32} {zx2 : Int} {w : Wd}  (tx1 : Ti x1 zx1) (tx2 : Ti x2 zx2) (hI : IX k T D w)  (hp : ∀ (r : Int32) (zr : Int), Ti r zr → post r w) : pX10_nearest   post  x1 x2 w := by
  unfold pX10_nearest
  have hk := ix_k hI
  refine sX10_isRow   (hI := hI) (tx1 := tx1)  (hp := fun r_1v1222 zr_1v1222 tr_1v1222 p2523 => ?_)
  refine ⟨fun c2524 => ?_, fun c2524 => ?_⟩
  · replace c2524 := c_eq tr_1v1222 lit_0 c2524
    exact hp _ _ lit_m1 
  · replace c2524 := c_neq tr_1v1222 lit_0 c2524
    refine ⟨fun c2525 => ?_, fun c2525 => ?_⟩
    · replace c2525 := c_lt tx2 lit_0 c2525
      exact hp _ _ lit_m1 
    · replace c2525 := c_nlt tx2 lit_0 c2525
      refine ⟨fun c2526 => ?_, fun c2526 => ?_⟩
      · replace c2526 := c_le tx2 lit_2 c2526
        exact ⟨70000, sX10_nearest_32    (hp := hp) 70000 _ _ _ _ _ _ _ _ _ _ _ _  tx1 tx2 lit_1000 lit_m1 lit_0 lit_0 hI (by omega) (by omega)⟩
      · replace c2526 := c_nle tx2 lit_2 c2526
        exact hp _ _ lit_m1 
set_option maxHeartbeats 4000000 in
set_option maxRecDepth 100000 in
theorem sX10_marksOfAllPrints_12 {T D : Int} {k : Nat} {post : Int32 → Wd → Prop} {w : Wd}  (hp : ∀ (r : Int32) (zr : Int), Ti r zr → post r w) : ∀ (n : Nat) (x1 : Int32) (x2 : Int32) (zx1 : Int) (zx2 : Int), Ti x1 zx1 → Ti x2 zx2 → IX k T D w → (0 ≤ zx2 ∧ zx2 ≤ 40) → (41 - zx2) < (n : Int) → pX10_marksOfAllPrints_12   post  n x1 x2 w := by
  intro n
  induction n with
  | zero =>
    intro x1 x2 zx1 zx2  tx1 tx2 hI h0 hm
    exact absurd hm (by omega)
  | succ n ih =>
    intro x1 x2 zx1 zx2  tx1 tx2 hI h0 hm
    unfold pX10_marksOfAllPrints_12
    have hk := ix_k hI
    obtain ⟨z2527, t2528⟩ := t_any (w.1 160 6)
    have f2529 := ixg_c6 hI t2528
    refine ⟨fun c2530 => ?_, fun c2530 => ?_⟩
    · replace c2530 := c_le t2528 tx2 c2530
      exact hp _ _ tx1 
    · replace c2530 := c_nle t2528 tx2 c2530
      refine ⟨vp_of tx2 (by omega) (by omega), ?_⟩
      obtain ⟨z2531, t2532⟩ := t_any (x1 &&& (w.2.1 168 x2.toNatClampNeg))
      intro x1_2v1224 ex1_2v1224
      have tx1_2v1224 : Ti x1_2v1224 z2531 := by rw [ex1_2v1224]; exact t2532
      obtain ⟨z2533, t2534, f2535⟩ := t_add tx2 lit_1
      first | replace f2535 := f2535 (by omega) | clear f2535
      intro x2_3v1225 ex2_3v1225
      have tx2_3v1225 : Ti x2_3v1225 z2533 := by rw [ex2_3v1225]; exact t2534
      exact ih _ _ _ _  tx1_2v1224 tx2_3v1225 hI (by omega) (by omega)
set_option maxHeartbeats 4000000 in
set_option maxRecDepth 100000 in
theorem sX10_marksOfAllPrints {T D : Int} {k : Nat} {post : Int32 → Wd → Prop}  {w : Wd}   (hI : IX k T D w)  (hp : ∀ (r : Int32) (zr : Int), Ti r zr → post r w) : pX10_marksOfAllPrints   post   w := by
  unfold pX10_marksOfAllPrints
  have hk := ix_k hI
  refine sX7_rows   (hI := hI)   (hp := fun r_1v1226 zr_1v1226 tr_1v1226 p2536 => ?_)
  obtain ⟨z2537, t2538, f2539⟩ := t_sub tr_1v1226 lit_1
  first | replace f2539 := f2539 (by omega) | clear f2539
  intro x1_3v1229 ex1_3v1229
  have tx1_3v1229 : Ti x1_3v1229 z2537 := by rw [ex1_3v1229]; exact t2538
  exact ⟨70000, sX10_marksOfAllPrints_12    (hp := hp) 70000 _ _ _ _  tx1_3v1229 lit_0 hI (by omega) (by omega)⟩
set_option maxHeartbeats 4000000 in
set_option maxRecDepth 100000 in
theorem sX10_marksOfAllSeals_12 {T D : Int} {k : Nat} {post : Int32 → Wd → Prop} {w : Wd}  (hp : ∀ (r : Int32) (zr : Int), Ti r zr → post r w) : ∀ (n : Nat) (x1 : Int32) (x2 : Int32) (zx1 : Int) (zx2 : Int), Ti x1 zx1 → Ti x2 zx2 → IX k T D w → (0 ≤ zx2 ∧ zx2 ≤ 24) → (25 - zx2) < (n : Int) → pX10_marksOfAllSeals_12   post  n x1 x2 w := by
  intro n
  induction n with
  | zero =>
    intro x1 x2 zx1 zx2  tx1 tx2 hI h0 hm
    exact absurd hm (by omega)
  | succ n ih =>
    intro x1 x2 zx1 zx2  tx1 tx2 hI h0 hm
    unfold pX10_marksOfAllSeals_12
    have hk := ix_k hI
    obtain ⟨z2540, t2541⟩ := t_any (w.1 160 0)
    have f2542 := ixg_c0 hI t2541
    refine ⟨fun c2543 => ?_, fun c2543 => ?_⟩
    · replace c2543 := c_le t2541 tx2 c2543
      exact hp _ _ tx1 
    · replace c2543 := c_nle t2541 tx2 c2543
      refine ⟨vp_of tx2 (by omega) (by omega), ?_⟩
      obtain ⟨z2544, t2545⟩ := t_any (x1 &&& (w.2.1 162 x2.toNatClampNeg))
      intro x1_2v1230 ex1_2v1230
      have tx1_2v1230 : Ti x1_2v1230 z2544 := by rw [ex1_2v1230]; exact t2545
      obtain ⟨z2546, t2547, f2548⟩ := t_add tx2 lit_1
      first | replace f2548 := f2548 (by omega) | clear f2548
      intro x2_3v1231 ex2_3v1231
      have tx2_3v1231 : Ti x2_3v1231 z2546 := by rw [ex2_3v1231]; exact t2547
      exact ih _ _ _ _  tx1_2v1230 tx2_3v1231 hI (by omega) (by omega)
set_option maxHeartbeats 4000000 in
set_option maxRecDepth 100000 in
theorem sX10_marksOfAllSeals {T D : Int} {k : Nat} {post : Int32 → Wd → Prop}  {w : Wd}   (hI : IX k T D w)  (hp : ∀ (r : Int32) (zr : Int), Ti r zr → post r w) : pX10_marksOfAllSeals   post   w := by
  unfold pX10_marksOfAllSeals
  have hk := ix_k hI
  refine sX7_rows   (hI := hI)   (hp := fun r_1v1232 zr_1v1232 tr_1v1232 p2549 => ?_)
  obtain ⟨z2550, t2551, f2552⟩ := t_sub tr_1v1232 lit_1
  first | replace f2552 := f2552 (by omega) | clear f2552
  intro x1_3v1235 ex1_3v1235
  have tx1_3v1235 : Ti x1_3v1235 z2550 := by rw [ex1_3v1235]; exact t2551
  exact ⟨70000, sX10_marksOfAllSeals_12    (hp := hp) 70000 _ _ _ _  tx1_3v1235 lit_0 hI (by omega) (by omega)⟩
set_option maxHeartbeats 4000000 in
set_option maxRecDepth 100000 in
theorem sX10_marksOfSomeSeals_4 {T D : Int} {k : Nat} {post : Int32 → Wd → Prop} {w : Wd}  (hp : ∀ (r : Int32) (zr : Int), Ti r zr → post r w) : ∀ (n : Nat) (x1 : Int32) (x2 : Int32) (zx1 : Int) (zx2 : Int), Ti x1 zx1 → Ti x2 zx2 → IX k T D w → (0 ≤ zx2 ∧ zx2 ≤ 24) → (25 - zx2) < (n : Int) → pX10_marksOfSomeSeals_4   post  n x1 x2 w := by
  intro n
  induction n with
  | zero =>
    intro x1 x2 zx1 zx2  tx1 tx2 hI h0 hm
    exact absurd hm (by omega)
  | succ n ih =>
    intro x1 x2 zx1 zx2  tx1 tx2 hI h0 hm
    unfold pX10_marksOfSomeSeals_4
    have hk := ix_k hI
    obtain ⟨z2553, t2554⟩ := t_any (w.1 160 0)
    have f2555 := ixg_c0 hI t2554
    refine ⟨fun c2556 => ?_, fun c2556 => ?_⟩
    · replace c2556 := c_le t2554 tx2 c2556
      exact hp _ _ tx1 
    · replace c2556 := c_nle t2554 tx2 c2556
      refine ⟨vp_of tx2 (by omega) (by omega), ?_⟩
      obtain ⟨z2557, t2558⟩ := t_any (x1 ||| (w.2.1 162 x2.toNatClampNeg))
      intro x1_2v1236 ex1_2v1236
      have tx1_2v1236 : Ti x1_2v1236 z2557 := by rw [ex1_2v1236]; exact t2558
      obtain ⟨z2559, t2560, f2561⟩ := t_add tx2 lit_1
      first | replace f2561 := f2561 (by omega) | clear f2561
      intro x2_3v1237 ex2_3v1237
      have tx2_3v1237 : Ti x2_3v1237 z2559 := by rw [ex2_3v1237]; exact t2560
      exact ih _ _ _ _  tx1_2v1236 tx2_3v1237 hI (by omega) (by omega)
set_option maxHeartbeats 4000000 in
set_option maxRecDepth 100000 in
theorem sX10_marksOfSomeSeals {T D : Int} {k : Nat} {post : Int32 → Wd → Prop}  {w : Wd}   (hI : IX k T D w)  (hp : ∀ (r : Int32) (zr : Int), Ti r zr → post r w) : pX10_marksOfSomeSeals   post   w := by
  unfold pX10_marksOfSomeSeals
  have hk := ix_k hI
  exact ⟨70000, sX10_marksOfSomeSeals_4    (hp := hp) 70000 _ _ _ _  lit_0 lit_0 hI (by omega) (by omega)⟩
set_option maxHeartbeats 4000000 in
set_option maxRecDepth 100000 in
theorem sX10_common {T D : Int} {k : Nat} {post : Int32 → Wd → Prop} {x1 : Int32} {zx1 : Int} {w : Wd}  (tx1 : Ti x1 zx1) (hI : IX k T D w)  (hp : ∀ (r : Int32) (zr : Int), Ti r zr → post r w) : pX10_common   post  x1 w := by
  unfold pX10_common
  have hk := ix_k hI
  refine ⟨fun c2562 => ?_, fun c2562 => ?_, fun c2562 => ?_, fun c2562 => ?_⟩
  · rw [show x1.toInt = zx1 from tx1] at c2562
    exact hp _ _ lit_m1 
  · rw [show x1.toInt = zx1 from tx1] at c2562
    refine sX10_marksOfAllSeals   (hI := hI)   (hp := fun r_2v1238 zr_2v1238 tr_2v1238 => ?_)
    exact hp _ _ tr_2v1238 
  · rw [show x1.toInt = zx1 from tx1] at c2562
    refine sX10_marksOfSomeSeals   (hI := hI)   (hp := fun r_4v1240 zr_4v1240 tr_4v1240 => ?_)
    exact hp _ _ tr_4v1240 
  · rw [show x1.toInt = zx1 from tx1] at c2562
    refine sX10_marksOfAllPrints   (hI := hI)   (hp := fun r_6v1242 zr_6v1242 tr_6v1242 => ?_)
    exact hp _ _ tr_6v1242 
set_option maxHeartbeats 4000000 in
set_option maxRecDepth 100000 in
theorem sX10_alike_36 {T D : Int} {k : Nat} {post : Int32 → Wd → Prop} {w : Wd}  (hp : ∀ (r : Int32) (zr : Int), Ti r zr → post r w) : ∀ (n : Nat) (x3 : Int32) (x4 : Int32) (x5 : Int32) (zx3 : Int) (zx4 : Int) (zx5 : Int), Ti x3 zx3 → Ti x4 zx4 → Ti x5 zx5 → IX k T D w → (0 ≤ zx5 ∧ zx5 ≤ 24) → (25 - zx5) < (n : Int) → pX10_alike_36   post  n x3 x4 x5 w := by
  intro n
  induction n with
  | zero =>
    intro x3 x4 x5 zx3 zx4 zx5  tx3 tx4 tx5 hI h0 hm
    exact absurd hm (by omega)
  | succ n ih =>
    intro x3 x4 x5 zx3 zx4 zx5  tx3 tx4 tx5 hI h0 hm
    unfold pX10_alike_36
    have hk := ix_k hI
    obtain ⟨z2563, t2564⟩ := t_any (w.1 160 0)
    have f2565 := ixg_c0 hI t2564
    refine ⟨fun c2566 => ?_, fun c2566 => ?_⟩
    · replace c2566 := c_le t2564 tx5 c2566
      exact hp _ _ tx4 
    · replace c2566 := c_nle t2564 tx5 c2566
      refine ⟨vp_of tx5 (by omega) (by omega), ?_⟩
      obtain ⟨z2567, t2568⟩ := t_any (w.2.1 162 x5.toNatClampNeg)
      refine ⟨fun c2569 => ?_, fun c2569 => ?_⟩
      · replace c2569 := c_neq t2568 tx3 c2569
        unfold pX10_alike_71
        obtain ⟨z2570, t2571, f2572⟩ := t_add tx5 lit_1
        first | replace f2572 := f2572 (by omega) | clear f2572
        intro x5_1v1245 ex5_1v1245
        have tx5_1v1245 : Ti x5_1v1245 z2570 := by rw [ex5_1v1245]; exact t2571
        exact ih _ _ _ _ _ _  tx3 tx4 tx5_1v1245 hI (by omega) (by omega)
      · replace c2569 := c_eq t2568 tx3 c2569
        obtain ⟨z2573, t2574⟩ := t_any (x4 ||| ((1 : Int32) <<< (x5 &&& 31)))
        intro x4_3v1244 ex4_3v1244
        have tx4_3v1244 : Ti x4_3v1244 z2573 := by rw [ex4_3v1244]; exact t2574
        unfold pX10_alike_71
        obtain ⟨z2575, t2576, f2577⟩ := t_add tx5 lit_1
        first | replace f2577 := f2577 (by omega) | clear f2577
        intro x5_1v1246 ex5_1v1246
        have tx5_1v1246 : Ti x5_1v1246 z2575 := by rw [ex5_1v1246]; exact t2576
        exact ih _ _ _ _ _ _  tx3 tx4_3v1244 tx5_1v1246 hI (by omega) (by omega)
set_option maxHeartbeats 4000000 in
set_option maxRecDepth 100000 in
theorem sX10_alike {T D : Int} {k : Nat} {post : Int32 → Wd → Prop} {x1 : Int32} {zx1 : Int} {x2 : Int32} {zx2 : Int} {w : Wd}  (tx1 : Ti x1 zx1) (tx2 : Ti x2 zx2) (hI : IX k T D w)  (hp : ∀ (r : Int32) (zr : Int), Ti r zr → post r w) : pX10_alike   post  x1 x2 w := by
  unfold pX10_alike
  have hk := ix_k hI
  refine sX10_isRow   (hI := hI) (tx1 := tx1)  (hp := fun r_1v1247 zr_1v1247 tr_1v1247 p2578 => ?_)
  refine ⟨fun c2579 => ?_, fun c2579 => ?_⟩
  · replace c2579 := c_neq tr_1v1247 lit_0 c2579
    refine ⟨fun c2580 => ?_, fun c2580 => ?_⟩
    · replace c2580 := c_eq tx2 lit_0 c2580
      unfold pX10_alike_29
      exact ⟨70000, sX10_alike_36    (hp := hp) 70000 _ _ _ _ _ _  tx1 lit_0 lit_0 hI (by omega) (by omega)⟩
    · replace c2580 := c_neq tx2 lit_0 c2580
      obtain ⟨z2581, t2582⟩ := t_any (w.1 (rl (w.2.2.2.2 0)) 0)
      have f2583 := ixg_r0 hI t2582
      refine sX10_turn   (hI := hI) (tx0 := tx1) (tx1 := t2582)  (hp := fun r_5v1251 zr_5v1251 tr_5v1251 => ?_)
      unfold pX10_alike_29
      exact ⟨70000, sX10_alike_36    (hp := hp) 70000 _ _ _ _ _ _  tr_5v1251 lit_0 lit_0 hI (by omega) (by omega)⟩
  · replace c2579 := c_eq tr_1v1247 lit_0 c2579
    exact hp _ _ lit_m1 
set_option maxHeartbeats 4000000 in
set_option maxRecDepth 100000 in
theorem sX10_tellsApart_15 {T D : Int} {k : Nat} {k2 : Int32 → Int32 → Wd → Prop} {M2 : Int} {post : Int32 → Wd → Prop} {w : Wd} (hk2 : ∀ (x1 : Int32) (x2 : Int32) (zx1 : Int) (zx2 : Int), Ti x1 zx1 → Ti x2 zx2 → IX k T D w → (0 ≤ zx2 ∧ zx2 ≤ 24) → (25 - zx2) < M2 → k2 x1 x2 w) (hp : ∀ (r : Int32) (zr : Int), Ti r zr → post r w) : ∀ (n : Nat) (x1 : Int32) (x2 : Int32) (x3 : Int32) (zx1 : Int) (zx2 : Int) (zx3 : Int), Ti x1 zx1 → Ti x2 zx2 → Ti x3 zx3 → IX k T D w → (0 ≤ zx3 ∧ zx3 ≤ 24) → (zx2 ≤ 23) → (0 ≤ zx2 ∧ zx2 ≤ 24) → ((25 - zx2) ≤ M2) → (25 - zx3) < (n : Int) → pX10_tellsApart_15 k2  post  n x1 x2 x3 w := by
  intro n
  induction n with
  | zero =>
    intro x1 x2 x3 zx1 zx2 zx3  tx1 tx2 tx3 hI h0 h1 h2 h3 hm
    exact absurd hm (by omega)
  | succ n ih =>
    intro x1 x2 x3 zx1 zx2 zx3  tx1 tx2 tx3 hI h0 h1 h2 h3 hm
    unfold pX10_tellsApart_15
    have hk := ix_k hI
    refine ⟨fun c2584 => ?_, fun c2584 => ?_⟩
    · replace c2584 := c_le tx2 tx3 c2584
      obtain ⟨z2585, t2586, f2587⟩ := t_add tx2 lit_1
      first | replace f2587 := f2587 (by omega) | clear f2587
      intro x2_2v1253 ex2_2v1253
      have tx2_2v1253 : Ti x2_2v1253 z2585 := by rw [ex2_2v1253]; exact t2586
      exact hk2 _ _ _ _  tx1 tx2_2v1253 hI (by omega) (by omega)
    · replace c2584 := c_nle tx2 tx3 c2584
      refine ⟨vp_of tx2 (by omega) (by omega), ?_⟩
      refine ⟨vp_of tx3 (by omega) (by omega), ?_⟩
      obtain ⟨z2588, t2589⟩ := t_any ((w.2.1 162 x2.toNatClampNeg) ^^^ (w.2.1 162 x3.toNatClampNeg))
      intro x4_3v1254 ex4_3v1254
      have tx4_3v1254 : Ti x4_3v1254 z2588 := by rw [ex4_3v1254]; exact t2589
      refine ⟨fun c2590 => ?_, fun c2590 => ?_⟩
      · replace c2590 := c_eq tx4_3v1254 lit_0 c2590
        unfold pX10_tellsApart_55
        obtain ⟨z2591, t2592, f2593⟩ := t_add tx3 lit_1
        first | replace f2593 := f2593 (by omega) | clear f2593
        intro x3_1v1255 ex3_1v1255
        have tx3_1v1255 : Ti x3_1v1255 z2591 := by rw [ex3_1v1255]; exact t2592
        exact ih _ _ _ _ _ _  tx1 tx2 tx3_1v1255 hI (by omega) (by omega) (by omega) (by omega) (by omega)
      · replace c2590 := c_neq tx4_3v1254 lit_0 c2590
        obtain ⟨z2594, t2595⟩ := t_any (x4_3v1254 &&& x1)
        refine ⟨fun c2596 => ?_, fun c2596 => ?_⟩
        · replace c2596 := c_neq t2595 lit_0 c2596
          unfold pX10_tellsApart_55
          obtain ⟨z2597, t2598, f2599⟩ := t_add tx3 lit_1
          first | replace f2599 := f2599 (by omega) | clear f2599
          intro x3_1v1256 ex3_1v1256
          have tx3_1v1256 : Ti x3_1v1256 z2597 := by rw [ex3_1v1256]; exact t2598
          exact ih _ _ _ _ _ _  tx1 tx2 tx3_1v1256 hI (by omega) (by omega) (by omega) (by omega) (by omega)
        · replace c2596 := c_eq t2595 lit_0 c2596
          exact hp _ _ lit_0 
set_option maxHeartbeats 4000000 in
set_option maxRecDepth 100000 in
theorem sX10_tellsApart_2 {T D : Int} {k : Nat} {post : Int32 → Wd → Prop} {w : Wd}  (hp : ∀ (r : Int32) (zr : Int), Ti r zr → post r w) : ∀ (n : Nat) (x1 : Int32) (x2 : Int32) (zx1 : Int) (zx2 : Int), Ti x1 zx1 → Ti x2 zx2 → IX k T D w → (0 ≤ zx2 ∧ zx2 ≤ 24) → (25 - zx2) < (n : Int) → pX10_tellsApart_2   post  n x1 x2 w := by
  intro n
  induction n with
  | zero =>
    intro x1 x2 zx1 zx2  tx1 tx2 hI h0 hm
    exact absurd hm (by omega)
  | succ n ih =>
    intro x1 x2 zx1 zx2  tx1 tx2 hI h0 hm
    unfold pX10_tellsApart_2
    have hk := ix_k hI
    obtain ⟨z2600, t2601⟩ := t_any (w.1 160 0)
    have f2602 := ixg_c0 hI t2601
    refine ⟨fun c2603 => ?_, fun c2603 => ?_⟩
    · replace c2603 := c_le t2601 tx2 c2603
      exact hp _ _ lit_1 
    · replace c2603 := c_nle t2601 tx2 c2603
      exact ⟨70000, sX10_tellsApart_15  (M2 := (n : Int)) (hk2 := ih)  (hp := hp) 70000 _ _ _ _ _ _  tx1 tx2 lit_0 hI (by omega) (by omega) (by omega) (by omega) (by omega)⟩
set_option maxHeartbeats 4000000 in
set_option maxRecDepth 100000 in
theorem sX10_tellsApart {T D : Int} {k : Nat} {post : Int32 → Wd → Prop} {x1 : Int32} {zx1 : Int} {w : Wd}  (tx1 : Ti x1 zx1) (hI : IX k T D w)  (hp : ∀ (r : Int32) (zr : Int), Ti r zr → post r w) : pX10_tellsApart   post  x1 w := by
  unfold pX10_tellsApart
  have hk := ix_k hI
  exact ⟨70000, sX10_tellsApart_2    (hp := hp) 70000 _ _ _ _  tx1 lit_1 hI (by omega) (by omega)⟩
set_option maxHeartbeats 4000000 in
set_option maxRecDepth 100000 in
theorem sX4_lay {T D : Int} {k : Nat} {post : Wd → Prop} {x1 : Int32} {zx1 : Int} {w : Wd}  (tx1 : Ti x1 zx1) (hI : IX k T D w)  (hp : ∀ (w9 : Wd), IX k T D w9 → post w9) : pX4_lay   post  x1 w := by
  unfold pX4_lay
  have hk := ix_k hI
  obtain ⟨z2604, t2605⟩ := t_any (w.1 110 1)
  have f2606 := ixg_110_1 hI t2605
  refine ⟨fun c2607 => ?_, fun c2607 => ?_⟩
  · replace c2607 := c_lt t2605 lit_0 c2607
    exact hp  _   hI 
  · replace c2607 := c_nlt t2605 lit_0 c2607
    refine ⟨fun c2608 => ?_, fun c2608 => ?_⟩
    · replace c2608 := c_le lit_16 t2605 c2608
      exact hp  _   hI 
    · replace c2608 := c_nle lit_16 t2605 c2608
      refine ⟨vp_of t2605 (by omega) (by omega), ?_⟩
      intro w_3v1257 ew_3v1257
      have hIw_3v1257 := ixs_A hI ew_3v1257 (by decide)
      intro w_4v1258 ew_4v1258
      have t2609 : Ti (w_3v1257.1 110 1) z2604 := by rw [e1_A ew_3v1257]; exact t2605
      obtain ⟨z2610, t2611, f2612⟩ := t_add t2609 lit_1
      first | replace f2612 := f2612 (by omega) | clear f2612
      have hIw_4v1258 := ixs_110_1 hIw_3v1257 ew_4v1258 t2611 (by omega) (by omega)
      exact hp  _   hIw_4v1258 
set_option maxHeartbeats 4000000 in
set_option maxRecDepth 100000 in
theorem sX10_tell_64 {T D : Int} {k : Nat} {post : Int32 → Wd → Prop}   (hp : ∀ (r : Int32) (zr : Int) (w9 : Wd), Ti r zr → IX k T D w9 → post r w9) : ∀ (n : Nat) (x1 : Int32) (x2 : Int32) (x3 : Int32) (zx1 : Int) (zx2 : Int) (zx3 : Int) (w : Wd), Ti x1 zx1 → Ti x2 zx2 → Ti x3 zx3 → IX k T D w → (0 ≤ zx3 ∧ zx3 ≤ 12) → (13 - zx3) < (n : Int) → pX10_tell_64   post  n x1 x2 x3 w := by
  intro n
  induction n with
  | zero =>
    intro x1 x2 x3 zx1 zx2 zx3 w tx1 tx2 tx3 hI h0 hm
    exact absurd hm (by omega)
  | succ n ih =>
    intro x1 x2 x3 zx1 zx2 zx3 w tx1 tx2 tx3 hI h0 hm
    unfold pX10_tell_64
    have hk := ix_k hI
    obtain ⟨z2613, t2614⟩ := t_any (w.1 (rl (w.2.2.2.2 0)) 0)
    have f2615 := ixg_r0 hI t2614
    refine ⟨fun c2616 => ?_, fun c2616 => ?_⟩
    · replace c2616 := c_le t2614 tx3 c2616
      exact hp _ _ _  tx1 hI 
    · replace c2616 := c_nle t2614 tx3 c2616
      obtain ⟨z2617, t2618, f2619⟩ := t_and (x := (x2 >>> (x3 &&& 31))) lit_1 (by decide)
      refine ⟨fun c2620 => ?_, fun c2620 => ?_⟩
      · replace c2620 := c_eq t2618 lit_0 c2620
        unfold pX10_tell_91
        obtain ⟨z2621, t2622, f2623⟩ := t_add tx3 lit_1
        first | replace f2623 := f2623 (by omega) | clear f2623
        intro x3_1v1260 ex3_1v1260
        have tx3_1v1260 : Ti x3_1v1260 z2621 := by rw [ex3_1v1260]; exact t2622
        exact ih _ _ _ _ _ _ _ tx1 tx2 tx3_1v1260 hI (by omega) (by omega)
      · replace c2620 := c_neq t2618 lit_0 c2620
        refine sX4_lay   (hI := hI) (tx1 := tx3)  (hp := fun  w_3v1259   hIw_3v1259  => ?_)
        unfold pX10_tell_91
        obtain ⟨z2624, t2625, f2626⟩ := t_add tx3 lit_1
        first | replace f2626 := f2626 (by omega) | clear f2626
        intro x3_1v1261 ex3_1v1261
        have tx3_1v1261 : Ti x3_1v1261 z2624 := by rw [ex3_1v1261]; exact t2625
        exact ih _ _ _ _ _ _ _ tx1 tx2 tx3_1v1261 hIw_3v1259 (by omega) (by omega)
set_option maxHeartbeats 4000000 in
set_option maxRecDepth 100000 in
theorem sX10_tell_14 {T D : Int} {k : Nat} {post : Int32 → Wd → Prop}   (hp : ∀ (r : Int32) (zr : Int) (w9 : Wd), Ti r zr → IX k T D w9 → post r w9) : ∀ (n : Nat) (x1 : Int32) (x2 : Int32) (x3 : Int32) (zx1 : Int) (zx2 : Int) (zx3 : Int) (w : Wd), Ti x1 zx1 → Ti x2 zx2 → Ti x3 zx3 → IX k T D w → (0 ≤ zx3 ∧ zx3 ≤ 4096) → (4097 - zx3) < (n : Int) → pX10_tell_14   post  n x1 x2 x3 w := by
  intro n
  induction n with
  | zero =>
    intro x1 x2 x3 zx1 zx2 zx3 w tx1 tx2 tx3 hI h0 hm
    exact absurd hm (by omega)
  | succ n ih =>
    intro x1 x2 x3 zx1 zx2 zx3 w tx1 tx2 tx3 hI h0 hm
    unfold pX10_tell_14
    have hk := ix_k hI
    refine sX7_rows   (hI := hI)   (hp := fun r_1v1262 zr_1v1262 tr_1v1262 p2627 => ?_)
    refine ⟨fun c2628 => ?_, fun c2628 => ?_⟩
    · replace c2628 := c_le tr_1v1262 tx3 c2628
      intro w_4v1271 ew_4v1271
      have hIw_4v1271 := ixs_110_1 hI ew_4v1271 lit_0 (by omega) (by omega)
      exact ⟨70000, sX10_tell_64    (hp := hp) 70000 _ _ _ _ _ _ _ tx1 tx2 lit_0 hIw_4v1271 (by omega) (by omega)⟩
    · replace c2628 := c_nle tr_1v1262 tx3 c2628
      refine sJ6_bitCount_0f7a4   (hI := hI) (tx0 := tx3)  (hp := fun r_5v1272 zr_5v1272 tr_5v1272 p2629 => ?_)
      refine ⟨fun c2630 => ?_, fun c2630 => ?_⟩
      · replace c2630 := c_le tx1 tr_5v1272 c2630
        unfold pX10_tell_48
        obtain ⟨z2631, t2632, f2633⟩ := t_add tx3 lit_1
        first | replace f2633 := f2633 (by omega) | clear f2633
        intro x3_1v1282 ex3_1v1282
        have tx3_1v1282 : Ti x3_1v1282 z2631 := by rw [ex3_1v1282]; exact t2632
        exact ih _ _ _ _ _ _ _ tx1 tx2 tx3_1v1282 hI (by omega) (by omega)
      · replace c2630 := c_nle tx1 tr_5v1272 c2630
        refine sX10_tellsApart   (hI := hI) (tx1 := tx3)  (hp := fun r_8v1278 zr_8v1278 tr_8v1278 => ?_)
        refine ⟨fun c2634 => ?_, fun c2634 => ?_⟩
        · replace c2634 := c_eq tr_8v1278 lit_0 c2634
          unfold pX10_tell_48
          obtain ⟨z2635, t2636, f2637⟩ := t_add tx3 lit_1
          first | replace f2637 := f2637 (by omega) | clear f2637
          intro x3_1v1285 ex3_1v1285
          have tx3_1v1285 : Ti x3_1v1285 z2635 := by rw [ex3_1v1285]; exact t2636
          exact ih _ _ _ _ _ _ _ tx1 tx2 tx3_1v1285 hI (by omega) (by omega)
        · replace c2634 := c_neq tr_8v1278 lit_0 c2634
          refine sJ6_bitCount_0f7a4   (hI := hI) (tx0 := tx3)  (hp := fun r_11v1283 zr_11v1283 tr_11v1283 p2638 => ?_)
          unfold pX10_tell_48
          obtain ⟨z2639, t2640, f2641⟩ := t_add tx3 lit_1
          first | replace f2641 := f2641 (by omega) | clear f2641
          intro x3_1v1286 ex3_1v1286
          have tx3_1v1286 : Ti x3_1v1286 z2639 := by rw [ex3_1v1286]; exact t2640
          exact ih _ _ _ _ _ _ _ tr_11v1283 tx3 tx3_1v1286 hI (by omega) (by omega)
set_option maxHeartbeats 4000000 in
set_option maxRecDepth 100000 in
theorem sX10_tell {T D : Int} {k : Nat} {post : Int32 → Wd → Prop}  {w : Wd}   (hI : IX k T D w)  (hp : ∀ (r : Int32) (zr : Int) (w9 : Wd), Ti r zr → IX k T D w9 → post r w9) : pX10_tell   post   w := by
  unfold pX10_tell
  have hk := ix_k hI
  obtain ⟨z2642, t2643⟩ := t_any (w.1 (rl (w.2.2.2.2 0)) 0)
  have f2644 := ixg_r0 hI t2643
  obtain ⟨z2645, t2646, f2647⟩ := t_add t2643 lit_1
  first | replace f2647 := f2647 (by omega) | clear f2647
  intro x1_1v1287 ex1_1v1287
  have tx1_1v1287 : Ti x1_1v1287 z2645 := by rw [ex1_1v1287]; exact t2646
  exact ⟨70000, sX10_tell_14    (hp := hp) 70000 _ _ _ _ _ _ _ tx1_1v1287 lit_0 lit_0 hI (by omega) (by omega)⟩
set_option maxHeartbeats 4000000 in
set_option maxRecDepth 100000 in
theorem sX10_round_46 {T D : Int} {k : Nat} {post : Int32 → Wd → Prop}   (hp : ∀ (r : Int32) (zr : Int) (w9 : Wd), Ti r zr → IX k T D w9 → post r w9) : ∀ (n : Nat) (x4 : Int32) (x5 : Int32) (x6 : Int32) (x7 : Int32) (zx4 : Int) (zx5 : Int) (zx6 : Int) (zx7 : Int) (w : Wd), Ti x4 zx4 → Ti x5 zx5 → Ti x6 zx6 → Ti x7 zx7 → IX k T D w → (0 ≤ zx7 ∧ zx7 ≤ 4096) → (4097 - zx7) < (n : Int) → pX10_round_46   post  n x4 x5 x6 x7 w := by
  intro n
  induction n with
  | zero =>
    intro x4 x5 x6 x7 zx4 zx5 zx6 zx7 w tx4 tx5 tx6 tx7 hI h0 hm
    exact absurd hm (by omega)
  | succ n ih =>
    intro x4 x5 x6 x7 zx4 zx5 zx6 zx7 w tx4 tx5 tx6 tx7 hI h0 hm
    unfold pX10_round_46
    have hk := ix_k hI
    refine sX7_rows   (hI := hI)   (hp := fun r_1v1288 zr_1v1288 tr_1v1288 p2648 => ?_)
    refine ⟨fun c2649 => ?_, fun c2649 => ?_⟩
    · replace c2649 := c_le tr_1v1288 tx7 c2649
      refine ⟨fun c2650 => ?_, fun c2650 => ?_⟩
      · replace c2650 := c_eq tx4 lit_0 c2650
        exact hp _ _ _  tx6 hI 
      · replace c2650 := c_neq tx4 lit_0 c2650
        refine sX10_isRow   (hI := hI) (tx1 := tx5)  (hp := fun r_5v1294 zr_5v1294 tr_5v1294 p2651 => ?_)
        refine ⟨fun c2652 => ?_, fun c2652 => ?_⟩
        · replace c2652 := c_neq tr_5v1294 lit_0 c2652
          refine ⟨vp_of tx5 (by omega) (by omega), ?_⟩
          obtain ⟨z2653, t2654⟩ := t_any (w.2.1 13 x5.toNatClampNeg)
          obtain ⟨z2655, t2656, f2657⟩ := t_sub t2654 lit_1
          first | replace f2657 := f2657 (by omega) | clear f2657
          obtain ⟨z2658, t2659, f2660⟩ := t_sub tx6 t2656
          first | replace f2660 := f2660 (by omega) | clear f2660
          exact hp _ _ _  t2659 hI 
        · replace c2652 := c_eq tr_5v1294 lit_0 c2652
          exact hp _ _ _  tx6 hI 
    · replace c2649 := c_nle tr_1v1288 tx7 c2649
      refine ⟨vp_of tx7 (by omega) (by omega), ?_⟩
      obtain ⟨z2661, t2662⟩ := t_any (w.2.1 13 x7.toNatClampNeg)
      obtain ⟨z2663, t2664, f2665⟩ := t_ite tx6 t2662 t2662 tx6
      intro x6_8v1296 ex6_8v1296
      have tx6_8v1296 : Ti x6_8v1296 z2663 := by rw [ex6_8v1296]; exact t2664
      obtain ⟨z2666, t2667, f2668⟩ := t_add tx7 lit_1
      first | replace f2668 := f2668 (by omega) | clear f2668
      intro x7_9v1297 ex7_9v1297
      have tx7_9v1297 : Ti x7_9v1297 z2666 := by rw [ex7_9v1297]; exact t2667
      exact ih _ _ _ _ _ _ _ _ _ tx4 tx5 tx6_8v1296 tx7_9v1297 hI (by omega) (by omega)
set_option maxHeartbeats 4000000 in
set_option maxRecDepth 100000 in
theorem sX10_round {T D : Int} {k : Nat} {post : Int32 → Wd → Prop} {x1 : Int32} {zx1 : Int} {x2 : Int32} {zx2 : Int} {x3 : Int32} {zx3 : Int} {x4 : Int32} {zx4 : Int} {w : Wd}  (tx1 : Ti x1 zx1) (tx2 : Ti x2 zx2) (tx3 : Ti x3 zx3) (tx4 : Ti x4 zx4) (hI : IX k T D w)  (hp : ∀ (r : Int32) (zr : Int) (w9 : Wd), Ti r zr → IX k T D w9 → post r w9) : pX10_round   post  x1 x2 x3 x4 w := by
  unfold pX10_round
  have hk := ix_k hI
  refine sX10_canCast   (hI := hI) (tx1 := tx1) (tx2 := tx2) (tx3 := tx3)  (hp := fun r_1v1298 zr_1v1298 tr_1v1298 p2669 => ?_)
  refine ⟨fun c2670 => ?_, fun c2670 => ?_⟩
  · replace c2670 := c_eq tr_1v1298 lit_0 c2670
    exact hp _ _ _  lit_m1 hI 
  · replace c2670 := c_neq tr_1v1298 lit_0 c2670
    refine ⟨fun c2671 => ?_, fun c2671 => ?_⟩
    · replace c2671 := c_lt tx4 lit_0 c2671
      exact hp _ _ _  lit_m1 hI 
    · replace c2671 := c_nlt tx4 lit_0 c2671
      refine ⟨fun c2672 => ?_, fun c2672 => ?_⟩
      · replace c2672 := c_le tx4 lit_1 c2672
        refine ⟨vp_of tx1 (by omega) (by omega), ?_⟩
        obtain ⟨z2673, t2674⟩ := t_any (w.2.1 162 x1.toNatClampNeg)
        refine sX10_goRound   (hI := hI) (tx1 := t2674) (tx2 := tx2) (tx3 := tx3)  (hp := fun r_6v1302 zr_6v1302 w_7v1303  tr_6v1302 hIw_7v1303  => ?_)
        exact ⟨70000, sX10_round_46    (hp := hp) 70000 _ _ _ _ _ _ _ _ _ tx4 tr_6v1302 lit_0 lit_0 hIw_7v1303 (by omega) (by omega)⟩
      · replace c2672 := c_nle tx4 lit_1 c2672
        exact hp _ _ _  lit_m1 hI 
set_option maxHeartbeats 4000000 in
set_option maxRecDepth 100000 in
theorem sX10_steady_78 {T D : Int} {k : Nat} {post : Int32 → Wd → Prop}   (hp : ∀ (r : Int32) (zr : Int) (w9 : Wd), Ti r zr → IX k T D w9 → post r w9) : ∀ (n : Nat) (x3 : Int32) (x4 : Int32) (x5 : Int32) (x6 : Int32) (x7 : Int32) (zx3 : Int) (zx4 : Int) (zx5 : Int) (zx6 : Int) (zx7 : Int) (w : Wd), Ti x3 zx3 → Ti x4 zx4 → Ti x5 zx5 → Ti x6 zx6 → Ti x7 zx7 → IX k T D w → (0 ≤ zx7 ∧ zx7 ≤ 4096) → (4097 - zx7) < (n : Int) → pX10_steady_78   post  n x3 x4 x5 x6 x7 w := by
  intro n
  induction n with
  | zero =>
    intro x3 x4 x5 x6 x7 zx3 zx4 zx5 zx6 zx7 w tx3 tx4 tx5 tx6 tx7 hI h0 hm
    exact absurd hm (by omega)
  | succ n ih =>
    intro x3 x4 x5 x6 x7 zx3 zx4 zx5 zx6 zx7 w tx3 tx4 tx5 tx6 tx7 hI h0 hm
    unfold pX10_steady_78
    have hk := ix_k hI
    refine sX7_rows   (hI := hI)   (hp := fun r_1v1304 zr_1v1304 tr_1v1304 p2675 => ?_)
    refine ⟨fun c2676 => ?_, fun c2676 => ?_⟩
    · replace c2676 := c_le tr_1v1304 tx7 c2676
      refine ⟨fun c2677 => ?_, fun c2677 => ?_⟩
      · replace c2677 := c_neq tx3 lit_0 c2677
        exact hp _ _ _  tx6 hI 
      · replace c2677 := c_eq tx3 lit_0 c2677
        exact hp _ _ _  tx4 hI 
    · replace c2676 := c_nle tr_1v1304 tx7 c2676
      refine ⟨vp_of tx7 (by omega) (by omega), ?_⟩
      obtain ⟨z2678, t2679⟩ := t_any (w.2.1 13 x7.toNatClampNeg)
      refine sX10_isRow   (hI := hI) (tx1 := t2679)  (hp := fun r_5v1313 zr_5v1313 tr_5v1313 p2680 => ?_)
      refine ⟨fun c2681 => ?_, fun c2681 => ?_⟩
      · replace c2681 := c_eq tr_5v1313 lit_0 c2681
        unfold pX10_steady_145
        obtain ⟨z2682, t2683, f2684⟩ := t_add tx7 lit_1
        first | replace f2684 := f2684 (by omega) | clear f2684
        intro x7_1v1325 ex7_1v1325
        have tx7_1v1325 : Ti x7_1v1325 z2682 := by rw [ex7_1v1325]; exact t2683
        exact ih _ _ _ _ _ _ _ _ _ _ _ tx3 tx4 tx5 tx6 tx7_1v1325 hI (by omega) (by omega)
      · replace c2681 := c_neq tr_5v1313 lit_0 c2681
        refine ⟨vp_of tx7 (by omega) (by omega), ?_⟩
        refine ⟨vp_of t2679 (by omega) (by omega), ?_⟩
        obtain ⟨z2685, t2686⟩ := t_any (w.2.1 13 (w.2.1 13 x7.toNatClampNeg).toNatClampNeg)
        refine ⟨fun c2687 => ?_, fun c2687 => ?_⟩
        · replace c2687 := c_neq t2686 tx7 c2687
          unfold pX10_steady_145
          obtain ⟨z2688, t2689, f2690⟩ := t_add tx7 lit_1
          first | replace f2690 := f2690 (by omega) | clear f2690
          intro x7_1v1326 ex7_1v1326
          have tx7_1v1326 : Ti x7_1v1326 z2688 := by rw [ex7_1v1326]; exact t2689
          exact ih _ _ _ _ _ _ _ _ _ _ _ tx3 tx4 tx5 tx6 tx7_1v1326 hI (by omega) (by omega)
        · replace c2687 := c_eq t2686 tx7 c2687
          obtain ⟨z2691, t2692, f2693⟩ := t_add tx4 lit_1
          first | replace f2693 := f2693 (by omega) | clear f2693
          intro x4_9v1320 ex4_9v1320
          have tx4_9v1320 : Ti x4_9v1320 z2691 := by rw [ex4_9v1320]; exact t2692
          refine sJ6_bitCount_0f7a4   (hI := hI) (tx0 := tx7)  (hp := fun r_10v1321 zr_10v1321 tr_10v1321 p2694 => ?_)
          refine ⟨fun c2695 => ?_, fun c2695 => ?_⟩
          · replace c2695 := c_le tr_10v1321 tx5 c2695
            unfold pX10_steady_145
            obtain ⟨z2696, t2697, f2698⟩ := t_add tx7 lit_1
            first | replace f2698 := f2698 (by omega) | clear f2698
            intro x7_1v1329 ex7_1v1329
            have tx7_1v1329 : Ti x7_1v1329 z2696 := by rw [ex7_1v1329]; exact t2697
            exact ih _ _ _ _ _ _ _ _ _ _ _ tx3 tx4_9v1320 tx5 tx6 tx7_1v1329 hI (by omega) (by omega)
          · replace c2695 := c_nle tr_10v1321 tx5 c2695
            refine sJ6_bitCount_0f7a4   (hI := hI) (tx0 := tx7)  (hp := fun r_13v1327 zr_13v1327 tr_13v1327 p2699 => ?_)
            unfold pX10_steady_145
            obtain ⟨z2700, t2701, f2702⟩ := t_add tx7 lit_1
            first | replace f2702 := f2702 (by omega) | clear f2702
            intro x7_1v1330 ex7_1v1330
            have tx7_1v1330 : Ti x7_1v1330 z2700 := by rw [ex7_1v1330]; exact t2701
            exact ih _ _ _ _ _ _ _ _ _ _ _ tx3 tx4_9v1320 tr_13v1327 tx7 tx7_1v1330 hI (by omega) (by omega)
set_option maxHeartbeats 4000000 in
set_option maxRecDepth 100000 in
theorem sX10_steady_29 {T D : Int} {k : Nat} {post : Int32 → Wd → Prop}   (hp : ∀ (r : Int32) (zr : Int) (w9 : Wd), Ti r zr → IX k T D w9 → post r w9) : ∀ (n : Nat) (x1 : Int32) (x2 : Int32) (x3 : Int32) (x4 : Int32) (zx1 : Int) (zx2 : Int) (zx3 : Int) (zx4 : Int) (w : Wd), Ti x1 zx1 → Ti x2 zx2 → Ti x3 zx3 → Ti x4 zx4 → IX k T D w → (0 ≤ zx4 ∧ zx4 ≤ 4096) → (4097 - zx4) < (n : Int) → pX10_steady_29   post  n x1 x2 x3 x4 w := by
  intro n
  induction n with
  | zero =>
    intro x1 x2 x3 x4 zx1 zx2 zx3 zx4 w tx1 tx2 tx3 tx4 hI h0 hm
    exact absurd hm (by omega)
  | succ n ih =>
    intro x1 x2 x3 x4 zx1 zx2 zx3 zx4 w tx1 tx2 tx3 tx4 hI h0 hm
    unfold pX10_steady_29
    have hk := ix_k hI
    refine sX7_rows   (hI := hI)   (hp := fun r_1v1331 zr_1v1331 tr_1v1331 p2703 => ?_)
    refine ⟨fun c2704 => ?_, fun c2704 => ?_⟩
    · replace c2704 := c_le tr_1v1331 tx4 c2704
      exact ⟨70000, sX10_steady_78    (hp := hp) 70000 _ _ _ _ _ _ _ _ _ _ _ tx3 lit_0 lit_m1 lit_m1 lit_0 hI (by omega) (by omega)⟩
    · replace c2704 := c_nle tr_1v1331 tx4 c2704
      refine sX1_rowAfter   (hI := hI) (tx1 := tx4) (tx2 := tx1) (tx3 := tx2) (tx4 := lit_0)  (hp := fun r_4v1337 zr_4v1337 w_5v1338  tr_4v1337 hIw_5v1338  => ?_)
      refine ⟨vp_of tx4 (by omega) (by omega), ?_⟩
      intro w_6v1339 ew_6v1339
      have hIw_6v1339 := ixs_A hIw_5v1338 ew_6v1339 (by decide)
      obtain ⟨z2705, t2706, f2707⟩ := t_add tx4 lit_1
      first | replace f2707 := f2707 (by omega) | clear f2707
      intro x4_7v1340 ex4_7v1340
      have tx4_7v1340 : Ti x4_7v1340 z2705 := by rw [ex4_7v1340]; exact t2706
      exact ih _ _ _ _ _ _ _ _ _ tx1 tx2 tx3 tx4_7v1340 hIw_6v1339 (by omega) (by omega)
set_option maxHeartbeats 4000000 in
set_option maxRecDepth 100000 in
theorem sX10_steady {T D : Int} {k : Nat} {post : Int32 → Wd → Prop} {x1 : Int32} {zx1 : Int} {x2 : Int32} {zx2 : Int} {x3 : Int32} {zx3 : Int} {w : Wd}  (tx1 : Ti x1 zx1) (tx2 : Ti x2 zx2) (tx3 : Ti x3 zx3) (hI : IX k T D w)  (hp : ∀ (r : Int32) (zr : Int) (w9 : Wd), Ti r zr → IX k T D w9 → post r w9) : pX10_steady   post  x1 x2 x3 w := by
  unfold pX10_steady
  have hk := ix_k hI
  refine sX10_isHand   (hI := hI) (tx1 := tx1)  (hp := fun r_1v1341 zr_1v1341 tr_1v1341 p2708 => ?_)
  refine ⟨fun c2709 => ?_, fun c2709 => ?_⟩
  · replace c2709 := c_eq tr_1v1341 lit_0 c2709
    exact hp _ _ _  lit_m1 hI 
  · replace c2709 := c_neq tr_1v1341 lit_0 c2709
    refine sX10_isHeat   (hI := hI) (tx0 := tx2)  (hp := fun r_4v1345 zr_4v1345 tr_4v1345 p2710 => ?_)
    refine ⟨fun c2711 => ?_, fun c2711 => ?_⟩
    · replace c2711 := c_eq tr_4v1345 lit_0 c2711
      exact hp _ _ _  lit_m1 hI 
    · replace c2711 := c_neq tr_4v1345 lit_0 c2711
      refine ⟨fun c2712 => ?_, fun c2712 => ?_⟩
      · replace c2712 := c_lt tx3 lit_0 c2712
        exact hp _ _ _  lit_m1 hI 
      · replace c2712 := c_nlt tx3 lit_0 c2712
        refine ⟨fun c2713 => ?_, fun c2713 => ?_⟩
        · replace c2713 := c_le tx3 lit_1 c2713
          exact ⟨70000, sX10_steady_29    (hp := hp) 70000 _ _ _ _ _ _ _ _ _ tx1 tx2 tx3 lit_0 hI (by omega) (by omega)⟩
        · replace c2713 := c_nle tx3 lit_1 c2713
          exact hp _ _ _  lit_m1 hI 
set_option maxHeartbeats 4000000 in
set_option maxRecDepth 100000 in
theorem sX10_against_31 {T D : Int} {k : Nat} {post : Int32 → Wd → Prop}   (hp : ∀ (r : Int32) (zr : Int) (w9 : Wd), Ti r zr → IX k T D w9 → post r w9) : ∀ (n : Nat) (x1 : Int32) (x2 : Int32) (x3 : Int32) (x4 : Int32) (x5 : Int32) (zx1 : Int) (zx2 : Int) (zx3 : Int) (zx4 : Int) (zx5 : Int) (w : Wd), Ti x1 zx1 → Ti x2 zx2 → Ti x3 zx3 → Ti x4 zx4 → Ti x5 zx5 → IX k T D w → (0 ≤ zx5 ∧ zx5 ≤ 4096) → (4097 - zx5) < (n : Int) → pX10_against_31   post  n x1 x2 x3 x4 x5 w := by
  intro n
  induction n with
  | zero =>
    intro x1 x2 x3 x4 x5 zx1 zx2 zx3 zx4 zx5 w tx1 tx2 tx3 tx4 tx5 hI h0 hm
    exact absurd hm (by omega)
  | succ n ih =>
    intro x1 x2 x3 x4 x5 zx1 zx2 zx3 zx4 zx5 w tx1 tx2 tx3 tx4 tx5 hI h0 hm
    unfold pX10_against_31
    have hk := ix_k hI
    refine sX7_rows   (hI := hI)   (hp := fun r_1v1347 zr_1v1347 tr_1v1347 p2714 => ?_)
    refine ⟨fun c2715 => ?_, fun c2715 => ?_⟩
    · replace c2715 := c_le tr_1v1347 tx5 c2715
      exact hp _ _ _  tx4 hI 
    · replace c2715 := c_nle tr_1v1347 tx5 c2715
      refine sX1_rowAfter   (hI := hI) (tx1 := tx5) (tx2 := tx1) (tx3 := tx3) (tx4 := lit_0)  (hp := fun r_4v1354 zr_4v1354 w_5v1355  tr_4v1354 hIw_5v1355  => ?_)
      refine sX1_rowAfter   (hI := hIw_5v1355) (tx1 := tx5) (tx2 := tx2) (tx3 := tx3) (tx4 := lit_0)  (hp := fun r_6v1356 zr_6v1356 w_7v1357  tr_6v1356 hIw_7v1357  => ?_)
      refine ⟨fun c2716 => ?_, fun c2716 => ?_⟩
      · replace c2716 := c_eq tr_4v1354 tr_6v1356 c2716
        unfold pX10_against_73
        obtain ⟨z2717, t2718, f2719⟩ := t_add tx5 lit_1
        first | replace f2719 := f2719 (by omega) | clear f2719
        intro x5_1v1359 ex5_1v1359
        have tx5_1v1359 : Ti x5_1v1359 z2717 := by rw [ex5_1v1359]; exact t2718
        exact ih _ _ _ _ _ _ _ _ _ _ _ tx1 tx2 tx3 tx4 tx5_1v1359 hIw_7v1357 (by omega) (by omega)
      · replace c2716 := c_neq tr_4v1354 tr_6v1356 c2716
        obtain ⟨z2720, t2721, f2722⟩ := t_add tx4 lit_1
        first | replace f2722 := f2722 (by omega) | clear f2722
        intro x4_9v1358 ex4_9v1358
        have tx4_9v1358 : Ti x4_9v1358 z2720 := by rw [ex4_9v1358]; exact t2721
        unfold pX10_against_73
        obtain ⟨z2723, t2724, f2725⟩ := t_add tx5 lit_1
        first | replace f2725 := f2725 (by omega) | clear f2725
        intro x5_1v1360 ex5_1v1360
        have tx5_1v1360 : Ti x5_1v1360 z2723 := by rw [ex5_1v1360]; exact t2724
        exact ih _ _ _ _ _ _ _ _ _ _ _ tx1 tx2 tx3 tx4_9v1358 tx5_1v1360 hIw_7v1357 (by omega) (by omega)
set_option maxHeartbeats 4000000 in
set_option maxRecDepth 100000 in
theorem sX10_against {T D : Int} {k : Nat} {post : Int32 → Wd → Prop} {x1 : Int32} {zx1 : Int} {x2 : Int32} {zx2 : Int} {x3 : Int32} {zx3 : Int} {w : Wd}  (tx1 : Ti x1 zx1) (tx2 : Ti x2 zx2) (tx3 : Ti x3 zx3) (hI : IX k T D w)  (hp : ∀ (r : Int32) (zr : Int) (w9 : Wd), Ti r zr → IX k T D w9 → post r w9) : pX10_against   post  x1 x2 x3 w := by
  unfold pX10_against
  have hk := ix_k hI
  refine sX10_isHand   (hI := hI) (tx1 := tx1)  (hp := fun r_1v1361 zr_1v1361 tr_1v1361 p2726 => ?_)
  refine ⟨fun c2727 => ?_, fun c2727 => ?_⟩
  · replace c2727 := c_eq tr_1v1361 lit_0 c2727
    exact hp _ _ _  lit_m1 hI 
  · replace c2727 := c_neq tr_1v1361 lit_0 c2727
    refine sX10_isHand   (hI := hI) (tx1 := tx2)  (hp := fun r_4v1367 zr_4v1367 tr_4v1367 p2728 => ?_)
    refine ⟨fun c2729 => ?_, fun c2729 => ?_⟩
    · replace c2729 := c_eq tr_4v1367 lit_0 c2729
      exact hp _ _ _  lit_m1 hI 
    · replace c2729 := c_neq tr_4v1367 lit_0 c2729
      refine sX10_isHeat   (hI := hI) (tx0 := tx3)  (hp := fun r_7v1371 zr_7v1371 tr_7v1371 p2730 => ?_)
      refine ⟨fun c2731 => ?_, fun c2731 => ?_⟩
      · replace c2731 := c_neq tr_7v1371 lit_0 c2731
        exact ⟨70000, sX10_against_31    (hp := hp) 70000 _ _ _ _ _ _ _ _ _ _ _ tx1 tx2 tx3 lit_0 lit_0 hI (by omega) (by omega)⟩
      · replace c2731 := c_eq tr_7v1371 lit_0 c2731
        exact hp _ _ _  lit_m1 hI 
set_option maxHeartbeats 4000000 in
set_option maxRecDepth 100000 in
theorem sX1_handCount {T D : Int} {k : Nat} {post : Int32 → Wd → Prop}  {w : Wd}   (hI : IX k T D w)  (hp : ∀ (r : Int32) (zr : Int), Ti r zr → (0 ≤ zr ∧ zr ≤ 4) → post r w) : pX1_handCount   post   w := by
  unfold pX1_handCount
  have hk := ix_k hI
  obtain ⟨z2732, t2733⟩ := t_any (w.1 (rl (w.2.2.2.2 3)) 2)
  have f2734 := ixg_r2 hI t2733
  exact hp _ _ t2733 (by omega)
set_option maxHeartbeats 4000000 in
set_option maxRecDepth 100000 in
theorem sX1_isHeatUsed {T D : Int} {k : Nat} {post : Int32 → Wd → Prop} {x1 : Int32} {zx1 : Int} {w : Wd}  (tx1 : Ti x1 zx1) (hI : IX k T D w)  (hp : ∀ (r : Int32) (zr : Int), Ti r zr → ((zr = 0 ∨ zr = 1)) → post r w) : pX1_isHeatUsed   post  x1 w := by
  unfold pX1_isHeatUsed
  have hk := ix_k hI
  refine sX7_isUsed   (hI := hI) (tx1 := tx1) (tx2 := lit_6)  (hp := fun r_1v1373 zr_1v1373 tr_1v1373 p2735 => ?_)
  refine ⟨nar_ok tr_1v1373 (by omega), ?_⟩
  exact hp _ _ tr_1v1373 (by omega)
set_option maxHeartbeats 4000000 in
set_option maxRecDepth 100000 in
theorem sX9_heatsOf {T D : Int} {k : Nat} {post : Int32 → Wd → Prop} {x1 : Int32} {zx1 : Int} {w : Wd}  (tx1 : Ti x1 zx1) (hI : IX k T D w)  (hp : ∀ (r : Int32) (zr : Int), Ti r zr → (0 ≤ zr ∧ zr ≤ 4) → post r w) : pX9_heatsOf   post  x1 w := by
  unfold pX9_heatsOf
  have hk := ix_k hI
  refine sX1_isHeatUsed   (hI := hI) (tx1 := tx1)  (hp := fun r_1v1375 zr_1v1375 tr_1v1375 p2736 => ?_)
  refine ⟨fun c2737 => ?_, fun c2737 => ?_⟩
  · replace c2737 := c_eq tr_1v1375 lit_0 c2737
    exact hp _ _ lit_1 (by omega)
  · replace c2737 := c_neq tr_1v1375 lit_0 c2737
    exact hp _ _ lit_4 (by omega)
set_option maxHeartbeats 4000000 in
set_option maxRecDepth 100000 in
theorem sX9_waxFrom_112 {T D : Int} {k : Nat} {k97 : Int32 → Int32 → Int32 → Int32 → Int32 → Int32 → Wd → Prop} {M97 : Int} {qX9_waxFrom : (Int32 → Wd → Prop) → Int32 → Int32 → Wd → Prop} {Mq : Int} {post : Int32 → Wd → Prop}  (hk97 : ∀ (x1 : Int32) (x2 : Int32) (x3 : Int32) (x4 : Int32) (x5 : Int32) (x6 : Int32) (zx1 : Int) (zx2 : Int) (zx3 : Int) (zx4 : Int) (zx5 : Int) (zx6 : Int) (w : Wd), Ti x1 zx1 → Ti x2 zx2 → Ti x3 zx3 → Ti x4 zx4 → Ti x5 zx5 → Ti x6 zx6 → IX k T D w → (0 ≤ zx6 ∧ zx6 ≤ 4) → ((zx4 = 0 ∨ (0 ≤ zx3 ∧ zx3 < 12288))) → (1 ≤ zx2 ∧ zx2 ≤ 4) → (zx2 + 1 ≤ Mq) → (5 - zx6) < M97 → k97 x1 x2 x3 x4 x5 x6 w) (hqX9_waxFrom : ∀ (post : Int32 → Wd → Prop) (x1 : Int32) (x2 : Int32) (zx1 : Int) (zx2 : Int) (w : Wd), Ti x1 zx1 → Ti x2 zx2 → IX k T D w → (-1 ≤ zx2 ∧ zx2 ≤ 4) → (zx2 + 1) < Mq → (∀ (r : Int32) (zr : Int) (w9 : Wd), Ti r zr → IX k T D w9 → post r w9) → qX9_waxFrom post x1 x2 w) (hp : ∀ (r : Int32) (zr : Int) (w9 : Wd), Ti r zr → IX k T D w9 → post r w9) : ∀ (n : Nat) (x1 : Int32) (x2 : Int32) (x3 : Int32) (x4 : Int32) (x5 : Int32) (x6 : Int32) (x7 : Int32) (zx1 : Int) (zx2 : Int) (zx3 : Int) (zx4 : Int) (zx5 : Int) (zx6 : Int) (zx7 : Int) (w : Wd), Ti x1 zx1 → Ti x2 zx2 → Ti x3 zx3 → Ti x4 zx4 → Ti x5 zx5 → Ti x6 zx6 → Ti x7 zx7 → IX k T D w → (0 ≤ zx7 ∧ zx7 ≤ 4) → (zx6 ≤ 3) → (0 ≤ zx6 ∧ zx6 ≤ 4) → ((zx4 = 0 ∨ (0 ≤ zx3 ∧ zx3 < 12288))) → (1 ≤ zx2 ∧ zx2 ≤ 4) → ((5 - zx6) ≤ M97) → (zx2 + 1 ≤ Mq) → (5 - zx7) < (n : Int) → pX9_waxFrom_112 k97 qX9_waxFrom post  n x1 x2 x3 x4 x5 x6 x7 w := by
  intro n
  induction n with
  | zero =>
    intro x1 x2 x3 x4 x5 x6 x7 zx1 zx2 zx3 zx4 zx5 zx6 zx7 w tx1 tx2 tx3 tx4 tx5 tx6 tx7 hI h0 h1 h2 h3 h4 h5 h6 hm
    exact absurd hm (by omega)
  | succ n ih =>
    intro x1 x2 x3 x4 x5 x6 x7 zx1 zx2 zx3 zx4 zx5 zx6 zx7 w tx1 tx2 tx3 tx4 tx5 tx6 tx7 hI h0 h1 h2 h3 h4 h5 h6 hm
    unfold pX9_waxFrom_112
    have hk := ix_k hI
    refine sX9_heatsOf   (hI := hI) (tx1 := tx6)  (hp := fun r_1v1377 zr_1v1377 tr_1v1377 p2738 => ?_)
    refine ⟨fun c2739 => ?_, fun c2739 => ?_⟩
    · replace c2739 := c_le tr_1v1377 tx7 c2739
      unfold pX9_waxFrom_174
      obtain ⟨z2740, t2741, f2742⟩ := t_add tx6 lit_1
      first | replace f2742 := f2742 (by omega) | clear f2742
      intro x6_1v1391 ex6_1v1391
      have tx6_1v1391 : Ti x6_1v1391 z2740 := by rw [ex6_1v1391]; exact t2741
      exact hk97 _ _ _ _ _ _ _ _ _ _ _ _ _ tx1 tx2 tx3 tx4 tx5 tx6_1v1391 hI (by omega) (by omega) (by omega) (by omega) (by omega)
    · replace c2739 := c_nle tr_1v1377 tx7 c2739
      obtain ⟨z2743, t2744, f2745⟩ := t_add lit_1 tx7
      first | replace f2745 := f2745 (by omega) | clear f2745
      refine ⟨fun c2746 => ?_, fun c2746 => ?_⟩
      · replace c2746 := c_le tx5 t2744 c2746
        unfold pX9_waxFrom_174
        obtain ⟨z2747, t2748, f2749⟩ := t_add tx6 lit_1
        first | replace f2749 := f2749 (by omega) | clear f2749
        intro x6_1v1392 ex6_1v1392
        have tx6_1v1392 : Ti x6_1v1392 z2747 := by rw [ex6_1v1392]; exact t2748
        exact hk97 _ _ _ _ _ _ _ _ _ _ _ _ _ tx1 tx2 tx3 tx4 tx5 tx6_1v1392 hI (by omega) (by omega) (by omega) (by omega) (by omega)
      · replace c2746 := c_nle tx5 t2744 c2746
        refine sX1_rowAfter   (hI := hI) (tx1 := tx1) (tx2 := tx6) (tx3 := tx7) (tx4 := lit_0)  (hp := fun r_5v1385 zr_5v1385 w_6v1386  tr_5v1385 hIw_6v1386  => ?_)
        obtain ⟨z2750, t2751, f2752⟩ := t_sub tx2 lit_1
        first | replace f2752 := f2752 (by omega) | clear f2752
        refine hqX9_waxFrom _ _ _ _ _ _ tr_5v1385 t2751 hIw_6v1386 (by omega) (by omega) (fun r_7v1387 zr_7v1387 w_8v1388  tr_7v1387 hIw_8v1388  => ?_)
        obtain ⟨z2753, t2754, f2755⟩ := t_add t2744 tr_7v1387
        first | replace f2755 := f2755 (by omega) | clear f2755
        obtain ⟨z2756, t2757, f2758⟩ := t_ite t2754 tx5 t2754 tx5
        intro x5_9v1389 ex5_9v1389
        have tx5_9v1389 : Ti x5_9v1389 z2756 := by rw [ex5_9v1389]; exact t2757
        obtain ⟨z2759, t2760, f2761⟩ := t_add tx7 lit_1
        first | replace f2761 := f2761 (by omega) | clear f2761
        intro x7_10v1390 ex7_10v1390
        have tx7_10v1390 : Ti x7_10v1390 z2759 := by rw [ex7_10v1390]; exact t2760
        exact ih _ _ _ _ _ _ _ _ _ _ _ _ _ _ _ tx1 tx2 tx3 tx4 tx5_9v1389 tx6 tx7_10v1390 hIw_8v1388 (by omega) (by omega) (by omega) (by omega) (by omega) (by omega) (by omega) (by omega)
set_option maxHeartbeats 4000000 in
set_option maxRecDepth 100000 in
theorem sX9_waxFrom_97 {T D : Int} {k : Nat} {qX9_waxFrom : (Int32 → Wd → Prop) → Int32 → Int32 → Wd → Prop} {Mq : Int} {post : Int32 → Wd → Prop}  (hqX9_waxFrom : ∀ (post : Int32 → Wd → Prop) (x1 : Int32) (x2 : Int32) (zx1 : Int) (zx2 : Int) (w : Wd), Ti x1 zx1 → Ti x2 zx2 → IX k T D w → (-1 ≤ zx2 ∧ zx2 ≤ 4) → (zx2 + 1) < Mq → (∀ (r : Int32) (zr : Int) (w9 : Wd), Ti r zr → IX k T D w9 → post r w9) → qX9_waxFrom post x1 x2 w) (hp : ∀ (r : Int32) (zr : Int) (w9 : Wd), Ti r zr → IX k T D w9 → post r w9) : ∀ (n : Nat) (x1 : Int32) (x2 : Int32) (x3 : Int32) (x4 : Int32) (x5 : Int32) (x6 : Int32) (zx1 : Int) (zx2 : Int) (zx3 : Int) (zx4 : Int) (zx5 : Int) (zx6 : Int) (w : Wd), Ti x1 zx1 → Ti x2 zx2 → Ti x3 zx3 → Ti x4 zx4 → Ti x5 zx5 → Ti x6 zx6 → IX k T D w → (0 ≤ zx6 ∧ zx6 ≤ 4) → ((zx4 = 0 ∨ (0 ≤ zx3 ∧ zx3 < 12288))) → (1 ≤ zx2 ∧ zx2 ≤ 4) → (zx2 + 1 ≤ Mq) → (5 - zx6) < (n : Int) → pX9_waxFrom_97  qX9_waxFrom post  n x1 x2 x3 x4 x5 x6 w := by
  intro n
  induction n with
  | zero =>
    intro x1 x2 x3 x4 x5 x6 zx1 zx2 zx3 zx4 zx5 zx6 w tx1 tx2 tx3 tx4 tx5 tx6 hI h0 h1 h2 h3 hm
    exact absurd hm (by omega)
  | succ n ih =>
    intro x1 x2 x3 x4 x5 x6 zx1 zx2 zx3 zx4 zx5 zx6 w tx1 tx2 tx3 tx4 tx5 tx6 hI h0 h1 h2 h3 hm
    unfold pX9_waxFrom_97
    have hk := ix_k hI
    refine sX1_handCount   (hI := hI)   (hp := fun r_1v1393 zr_1v1393 tr_1v1393 p2762 => ?_)
    refine ⟨fun c2763 => ?_, fun c2763 => ?_⟩
    · replace c2763 := c_le tr_1v1393 tx6 c2763
      refine ⟨fun c2764 => ?_, fun c2764 => ?_⟩
      · replace c2764 := c_eq tx4 lit_0 c2764
        exact hp _ _ _  tx5 hI 
      · replace c2764 := c_neq tx4 lit_0 c2764
        refine ⟨vp_of tx3 (by omega) (by omega), ?_⟩
        intro w_5v1396 ew_5v1396
        have hIw_5v1396 := ixs_A hI ew_5v1396 (by decide)
        exact hp _ _ _  tx5 hIw_5v1396 
    · replace c2763 := c_nle tr_1v1393 tx6 c2763
      exact ⟨70000, sX9_waxFrom_112  (M97 := (n : Int)) (hk97 := ih) (hqX9_waxFrom := hqX9_waxFrom) (hp := hp) 70000 _ _ _ _ _ _ _ _ _ _ _ _ _ _ _ tx1 tx2 tx3 tx4 tx5 tx6 lit_0 hI (by omega) (by omega) (by omega) (by omega) (by omega) (by omega) (by omega) (by omega)⟩
set_option maxHeartbeats 4000000 in
set_option maxRecDepth 100000 in
theorem sX9_waxFrom {T D : Int} {k : Nat} {qX9_waxFrom : (Int32 → Wd → Prop) → Int32 → Int32 → Wd → Prop} {Mq : Int} {post : Int32 → Wd → Prop} {x1 : Int32} {zx1 : Int} {x2 : Int32} {zx2 : Int} {w : Wd} (hqX9_waxFrom : ∀ (post : Int32 → Wd → Prop) (x1 : Int32) (x2 : Int32) (zx1 : Int) (zx2 : Int) (w : Wd), Ti x1 zx1 → Ti x2 zx2 → IX k T D w → (-1 ≤ zx2 ∧ zx2 ≤ 4) → (zx2 + 1) < Mq → (∀ (r : Int32) (zr : Int) (w9 : Wd), Ti r zr → IX k T D w9 → post r w9) → qX9_waxFrom post x1 x2 w) (tx1 : Ti x1 zx1) (tx2 : Ti x2 zx2) (hI : IX k T D w) (h0 : -1 ≤ zx2 ∧ zx2 ≤ 4) (h1 : (zx2 + 1) ≤ Mq) (hp : ∀ (r : Int32) (zr : Int) (w9 : Wd), Ti r zr → IX k T D w9 → post r w9) : pX9_waxFrom  qX9_waxFrom post  x1 x2 w := by
  unfold pX9_waxFrom
  have hk := ix_k hI
  obtain ⟨z2765, t2766⟩ := t_any (w.1 60 3)
  refine ⟨fun c2767 => ?_, fun c2767 => ?_⟩
  · replace c2767 := c_neq tx1 t2766 c2767
    refine ⟨fun c2768 => ?_, fun c2768 => ?_⟩
    · replace c2768 := c_le tx2 lit_0 c2768
      exact hp _ _ _  lit_1000 hI 
    · replace c2768 := c_nle tx2 lit_0 c2768
      refine ⟨fun c2769 => ?_, fun c2769 => ?_⟩
      · replace c2769 := c_lt lit_4 tx2 c2769
        exact hp _ _ _  lit_1000 hI 
      · replace c2769 := c_nlt lit_4 tx2 c2769
        refine ⟨fun c2770 => ?_, fun c2770 => ?_⟩
        · replace c2770 := c_lt tx1 lit_0 c2770
          exact hp _ _ _  lit_1000 hI 
        · replace c2770 := c_nlt tx1 lit_0 c2770
          obtain ⟨z2771, t2772⟩ := t_any (w.1 60 4)
          have f2773 := ixg_60_4 hI t2772
          refine ⟨fun c2774 => ?_, fun c2774 => ?_⟩
          · replace c2774 := c_lt tx1 t2772 c2774
            obtain ⟨z2775, t2776, f2777⟩ := t_sub tx2 lit_1
            first | replace f2777 := f2777 (by omega) | clear f2777
            obtain ⟨z2778, t2779, f2780⟩ := t_mulv t2776 t2772
            first | replace f2780 := f2780 (by omega) | clear f2780
            obtain ⟨z2781, t2782, f2783⟩ := t_add t2779 tx1
            first | replace f2783 := f2783 (by omega) | clear f2783
            intro x3_6v1397 ex3_6v1397
            have tx3_6v1397 : Ti x3_6v1397 z2781 := by rw [ex3_6v1397]; exact t2782
            refine ⟨fun c2784 => ?_, fun c2784 => ?_⟩
            · replace c2784 := c_le lit_4 tx2 c2784
              unfold pX9_waxFrom_64
              unfold pX9_waxFrom_65
              refine ⟨fun c2785 => ?_, fun c2785 => ?_⟩
              · replace c2785 := c_eq lit_0 lit_0 c2785
                unfold pX9_waxFrom_89
                exact ⟨70000, sX9_waxFrom_97   (hqX9_waxFrom := hqX9_waxFrom) (hp := hp) 70000 _ _ _ _ _ _ _ _ _ _ _ _ _ tx1 tx2 tx3_6v1397 lit_0 lit_1000 lit_0 hI (by omega) (by omega) (by omega) (by omega) (by omega)⟩
              · replace c2785 := c_neq lit_0 lit_0 c2785
                refine ⟨vp_of tx3_6v1397 (by omega) (by omega), ?_⟩
                obtain ⟨z2786, t2787⟩ := t_any (w.2.1 63 x3_6v1397.toNatClampNeg)
                refine ⟨fun c2788 => ?_, fun c2788 => ?_⟩
                · replace c2788 := c_eq t2787 lit_m1 c2788
                  unfold pX9_waxFrom_89
                  exact ⟨70000, sX9_waxFrom_97   (hqX9_waxFrom := hqX9_waxFrom) (hp := hp) 70000 _ _ _ _ _ _ _ _ _ _ _ _ _ tx1 tx2 tx3_6v1397 lit_0 lit_1000 lit_0 hI (by omega) (by omega) (by omega) (by omega) (by omega)⟩
                · replace c2788 := c_neq t2787 lit_m1 c2788
                  refine ⟨vp_of tx3_6v1397 (by omega) (by omega), ?_⟩
                  exact hp _ _ _  t2787 hI 
            · replace c2784 := c_nle lit_4 tx2 c2784
              refine ⟨fun c2789 => ?_, fun c2789 => ?_⟩
              · replace c2789 := c_le lit_12288 tx3_6v1397 c2789
                unfold pX9_waxFrom_64
                unfold pX9_waxFrom_65
                refine ⟨fun c2790 => ?_, fun c2790 => ?_⟩
                · replace c2790 := c_eq lit_0 lit_0 c2790
                  unfold pX9_waxFrom_89
                  exact ⟨70000, sX9_waxFrom_97   (hqX9_waxFrom := hqX9_waxFrom) (hp := hp) 70000 _ _ _ _ _ _ _ _ _ _ _ _ _ tx1 tx2 tx3_6v1397 lit_0 lit_1000 lit_0 hI (by omega) (by omega) (by omega) (by omega) (by omega)⟩
                · replace c2790 := c_neq lit_0 lit_0 c2790
                  refine ⟨vp_of tx3_6v1397 (by omega) (by omega), ?_⟩
                  obtain ⟨z2791, t2792⟩ := t_any (w.2.1 63 x3_6v1397.toNatClampNeg)
                  refine ⟨fun c2793 => ?_, fun c2793 => ?_⟩
                  · replace c2793 := c_eq t2792 lit_m1 c2793
                    unfold pX9_waxFrom_89
                    exact ⟨70000, sX9_waxFrom_97   (hqX9_waxFrom := hqX9_waxFrom) (hp := hp) 70000 _ _ _ _ _ _ _ _ _ _ _ _ _ tx1 tx2 tx3_6v1397 lit_0 lit_1000 lit_0 hI (by omega) (by omega) (by omega) (by omega) (by omega)⟩
                  · replace c2793 := c_neq t2792 lit_m1 c2793
                    refine ⟨vp_of tx3_6v1397 (by omega) (by omega), ?_⟩
                    exact hp _ _ _  t2792 hI 
              · replace c2789 := c_nle lit_12288 tx3_6v1397 c2789
                unfold pX9_waxFrom_65
                refine ⟨fun c2794 => ?_, fun c2794 => ?_⟩
                · replace c2794 := c_eq lit_1 lit_0 c2794
                  unfold pX9_waxFrom_89
                  exact ⟨70000, sX9_waxFrom_97   (hqX9_waxFrom := hqX9_waxFrom) (hp := hp) 70000 _ _ _ _ _ _ _ _ _ _ _ _ _ tx1 tx2 tx3_6v1397 lit_1 lit_1000 lit_0 hI (by omega) (by omega) (by omega) (by omega) (by omega)⟩
                · replace c2794 := c_neq lit_1 lit_0 c2794
                  refine ⟨vp_of tx3_6v1397 (by omega) (by omega), ?_⟩
                  obtain ⟨z2795, t2796⟩ := t_any (w.2.1 63 x3_6v1397.toNatClampNeg)
                  refine ⟨fun c2797 => ?_, fun c2797 => ?_⟩
                  · replace c2797 := c_eq t2796 lit_m1 c2797
                    unfold pX9_waxFrom_89
                    exact ⟨70000, sX9_waxFrom_97   (hqX9_waxFrom := hqX9_waxFrom) (hp := hp) 70000 _ _ _ _ _ _ _ _ _ _ _ _ _ tx1 tx2 tx3_6v1397 lit_1 lit_1000 lit_0 hI (by omega) (by omega) (by omega) (by omega) (by omega)⟩
                  · replace c2797 := c_neq t2796 lit_m1 c2797
                    refine ⟨vp_of tx3_6v1397 (by omega) (by omega), ?_⟩
                    exact hp _ _ _  t2796 hI 
          · replace c2774 := c_nlt tx1 t2772 c2774
            exact hp _ _ _  lit_1000 hI 
  · replace c2767 := c_eq tx1 t2766 c2767
    exact hp _ _ _  lit_0 hI 
theorem sd9X9_waxFrom {T D : Int} {k : Nat} : ∀ (d : Nat) (post : Int32 → Wd → Prop) (x1 : Int32) (x2 : Int32) (zx1 : Int) (zx2 : Int) (w : Wd), Ti x1 zx1 → Ti x2 zx2 → IX k T D w → (-1 ≤ zx2 ∧ zx2 ≤ 4) → (zx2 + 1) < (d : Int) → (∀ (r : Int32) (zr : Int) (w9 : Wd), Ti r zr → IX k T D w9 → post r w9) → d9X9_waxFrom d post x1 x2 w := by
  intro d
  induction d with
  | zero =>
    intro post x1 x2 zx1 zx2 w tx1 tx2 hI h0 hm hp
    exact absurd hm (by omega)
  | succ d ih =>
    intro post x1 x2 zx1 zx2 w tx1 tx2 hI h0 hm hp
    show pX9_waxFrom (d9X9_waxFrom d) post x1 x2 w
    exact sX9_waxFrom (Mq := (d : Int)) (hqX9_waxFrom := ih) (hI := hI) (tx1 := tx1) (tx2 := tx2) (h0 := h0) (h1 := (by omega)) (hp := hp)
theorem sdX9_waxFrom {T D : Int} {k : Nat} {d : Nat} {post : Int32 → Wd → Prop} {x1 : Int32} {zx1 : Int} {x2 : Int32} {zx2 : Int} {w : Wd} (tx1 : Ti x1 zx1) (tx2 : Ti x2 zx2) (hI : IX k T D w) (h0 : -1 ≤ zx2 ∧ zx2 ≤ 4) (hm : (zx2 + 1) < (d : Int)) (hp : ∀ (r : Int32) (zr : Int) (w9 : Wd), Ti r zr → IX k T D w9 → post r w9) : dX9_waxFrom d post x1 x2 w := sd9X9_waxFrom d post x1 x2 zx1 zx2 w tx1 tx2 hI h0 hm hp
set_option maxHeartbeats 4000000 in
set_option maxRecDepth 100000 in
theorem sX9_firstStep_18 {T D : Int} {k : Nat} {k3 : Int32 → Int32 → Int32 → Int32 → Wd → Prop} {M3 : Int} {post : Int32 → Wd → Prop}  (hk3 : ∀ (x1 : Int32) (x2 : Int32) (x3 : Int32) (x4 : Int32) (zx1 : Int) (zx2 : Int) (zx3 : Int) (zx4 : Int) (w : Wd), Ti x1 zx1 → Ti x2 zx2 → Ti x3 zx3 → Ti x4 zx4 → IX k T D w → (0 ≤ zx4 ∧ zx4 ≤ 4) → (zx2 ≤ 5 ∧ 0 ≤ zx2) → (5 - zx4) < M3 → k3 x1 x2 x3 x4 w) (hp : ∀ (r : Int32) (zr : Int) (w9 : Wd), Ti r zr → IX k T D w9 → post r w9) : ∀ (n : Nat) (x1 : Int32) (x2 : Int32) (x3 : Int32) (x4 : Int32) (x5 : Int32) (zx1 : Int) (zx2 : Int) (zx3 : Int) (zx4 : Int) (zx5 : Int) (w : Wd), Ti x1 zx1 → Ti x2 zx2 → Ti x3 zx3 → Ti x4 zx4 → Ti x5 zx5 → IX k T D w → (0 ≤ zx5 ∧ zx5 ≤ 4) → (zx4 ≤ 3) → (zx2 ≤ 5 ∧ 0 ≤ zx2) → (0 ≤ zx4 ∧ zx4 ≤ 4) → (zx2 ≤ 5 ∧ 0 ≤ zx2) → ((5 - zx4) ≤ M3) → (5 - zx5) < (n : Int) → pX9_firstStep_18 k3  post  n x1 x2 x3 x4 x5 w := by
  intro n
  induction n with
  | zero =>
    intro x1 x2 x3 x4 x5 zx1 zx2 zx3 zx4 zx5 w tx1 tx2 tx3 tx4 tx5 hI h0 h1 h2 h3 h4 h5 hm
    exact absurd hm (by omega)
  | succ n ih =>
    intro x1 x2 x3 x4 x5 zx1 zx2 zx3 zx4 zx5 w tx1 tx2 tx3 tx4 tx5 hI h0 h1 h2 h3 h4 h5 hm
    unfold pX9_firstStep_18
    have hk := ix_k hI
    refine sX9_heatsOf   (hI := hI) (tx1 := tx4)  (hp := fun r_1v1398 zr_1v1398 tr_1v1398 p2798 => ?_)
    refine ⟨fun c2799 => ?_, fun c2799 => ?_⟩
    · replace c2799 := c_le tr_1v1398 tx5 c2799
      obtain ⟨z2800, t2801, f2802⟩ := t_add tx4 lit_1
      first | replace f2802 := f2802 (by omega) | clear f2802
      intro x4_4v1406 ex4_4v1406
      have tx4_4v1406 : Ti x4_4v1406 z2800 := by rw [ex4_4v1406]; exact t2801
      exact hk3 _ _ _ _ _ _ _ _ _ tx1 tx2 tx3 tx4_4v1406 hI (by omega) (by omega) (by omega)
    · replace c2799 := c_nle tr_1v1398 tx5 c2799
      refine sX1_rowAfter   (hI := hI) (tx1 := tx1) (tx2 := tx4) (tx3 := tx5) (tx4 := lit_0)  (hp := fun r_5v1407 zr_5v1407 w_6v1408  tr_5v1407 hIw_6v1408  => ?_)
      obtain ⟨z2803, t2804, f2805⟩ := t_sub tx2 lit_1
      first | replace f2805 := f2805 (by omega) | clear f2805
      refine sdX9_waxFrom tr_5v1407 t2804 hIw_6v1408 (by omega) (by omega) (fun r_7v1409 zr_7v1409 w_8v1410  tr_7v1409 hIw_8v1410  => ?_)
      obtain ⟨z2806, t2807, f2808⟩ := t_add lit_1 tx5
      first | replace f2808 := f2808 (by omega) | clear f2808
      obtain ⟨z2809, t2810, f2811⟩ := t_add t2807 tr_7v1409
      first | replace f2811 := f2811 (by omega) | clear f2811
      refine ⟨fun c2812 => ?_, fun c2812 => ?_⟩
      · replace c2812 := c_neq t2810 tx3 c2812
        obtain ⟨z2813, t2814, f2815⟩ := t_add tx5 lit_1
        first | replace f2815 := f2815 (by omega) | clear f2815
        intro x5_10v1411 ex5_10v1411
        have tx5_10v1411 : Ti x5_10v1411 z2813 := by rw [ex5_10v1411]; exact t2814
        exact ih _ _ _ _ _ _ _ _ _ _ _ tx1 tx2 tx3 tx4 tx5_10v1411 hIw_8v1410 (by omega) (by omega) (by omega) (by omega) (by omega) (by omega) (by omega)
      · replace c2812 := c_eq t2810 tx3 c2812
        obtain ⟨z2816, t2817, f2818⟩ := t_mul tx4 lit_10
        first | replace f2818 := f2818 (by omega) | clear f2818
        obtain ⟨z2819, t2820, f2821⟩ := t_add t2817 tx5
        first | replace f2821 := f2821 (by omega) | clear f2821
        exact hp _ _ _  t2820 hIw_8v1410 
set_option maxHeartbeats 4000000 in
set_option maxRecDepth 100000 in
theorem sX9_firstStep_3 {T D : Int} {k : Nat} {post : Int32 → Wd → Prop}   (hp : ∀ (r : Int32) (zr : Int) (w9 : Wd), Ti r zr → IX k T D w9 → post r w9) : ∀ (n : Nat) (x1 : Int32) (x2 : Int32) (x3 : Int32) (x4 : Int32) (zx1 : Int) (zx2 : Int) (zx3 : Int) (zx4 : Int) (w : Wd), Ti x1 zx1 → Ti x2 zx2 → Ti x3 zx3 → Ti x4 zx4 → IX k T D w → (0 ≤ zx4 ∧ zx4 ≤ 4) → (zx2 ≤ 5 ∧ 0 ≤ zx2) → (5 - zx4) < (n : Int) → pX9_firstStep_3   post  n x1 x2 x3 x4 w := by
  intro n
  induction n with
  | zero =>
    intro x1 x2 x3 x4 zx1 zx2 zx3 zx4 w tx1 tx2 tx3 tx4 hI h0 h1 hm
    exact absurd hm (by omega)
  | succ n ih =>
    intro x1 x2 x3 x4 zx1 zx2 zx3 zx4 w tx1 tx2 tx3 tx4 hI h0 h1 hm
    unfold pX9_firstStep_3
    have hk := ix_k hI
    refine sX1_handCount   (hI := hI)   (hp := fun r_1v1412 zr_1v1412 tr_1v1412 p2822 => ?_)
    refine ⟨fun c2823 => ?_, fun c2823 => ?_⟩
    · replace c2823 := c_le tr_1v1412 tx4 c2823
      exact hp _ _ _  lit_m1 hI 
    · replace c2823 := c_nle tr_1v1412 tx4 c2823
      exact ⟨70000, sX9_firstStep_18  (M3 := (n : Int)) (hk3 := ih)  (hp := hp) 70000 _ _ _ _ _ _ _ _ _ _ _ tx1 tx2 tx3 tx4 lit_0 hI (by omega) (by omega) (by omega) (by omega) (by omega) (by omega) (by omega)⟩
set_option maxHeartbeats 4000000 in
set_option maxRecDepth 100000 in
theorem sX9_firstStep {T D : Int} {k : Nat} {post : Int32 → Wd → Prop} {x1 : Int32} {zx1 : Int} {x2 : Int32} {zx2 : Int} {x3 : Int32} {zx3 : Int} {w : Wd}  (tx1 : Ti x1 zx1) (tx2 : Ti x2 zx2) (tx3 : Ti x3 zx3) (hI : IX k T D w) (h0 : zx2 ≤ 5 ∧ 0 ≤ zx2) (hp : ∀ (r : Int32) (zr : Int) (w9 : Wd), Ti r zr → IX k T D w9 → post r w9) : pX9_firstStep   post  x1 x2 x3 w := by
  unfold pX9_firstStep
  have hk := ix_k hI
  exact ⟨70000, sX9_firstStep_3    (hp := hp) 70000 _ _ _ _ _ _ _ _ _ tx1 tx2 tx3 lit_0 hI (by omega) (by omega) (by omega)⟩
set_option maxHeartbeats 4000000 in
set_option maxRecDepth 100000 in
theorem sX9_layWay_11 {T D : Int} {k : Nat} {post : Wd → Prop}   (hp : ∀ (w9 : Wd), IX k T D w9 → post w9) : ∀ (n : Nat) (x3 : Int32) (x4 : Int32) (x5 : Int32) (zx3 : Int) (zx4 : Int) (zx5 : Int) (w : Wd), Ti x3 zx3 → Ti x4 zx4 → Ti x5 zx5 → IX k T D w → (0 ≤ zx5 ∧ zx5 ≤ 4) → (zx5 + 1) < (n : Int) → pX9_layWay_11   post  n x3 x4 x5 w := by
  intro n
  induction n with
  | zero =>
    intro x3 x4 x5 zx3 zx4 zx5 w tx3 tx4 tx5 hI h0 hm
    exact absurd hm (by omega)
  | succ n ih =>
    intro x3 x4 x5 zx3 zx4 zx5 w tx3 tx4 tx5 hI h0 hm
    unfold pX9_layWay_11
    have hk := ix_k hI
    refine ⟨fun c2824 => ?_, fun c2824 => ?_⟩
    · replace c2824 := c_le tx5 lit_0 c2824
      exact hp  _   hI 
    · replace c2824 := c_nle tx5 lit_0 c2824
      obtain ⟨z2825, t2826⟩ := t_any (w.1 60 3)
      refine ⟨fun c2827 => ?_, fun c2827 => ?_⟩
      · replace c2827 := c_eq tx3 t2826 c2827
        exact hp  _   hI 
      · replace c2827 := c_neq tx3 t2826 c2827
        refine sX9_firstStep   (hI := hI) (tx1 := tx3) (tx2 := tx5) (tx3 := tx4) (h0 := (by omega)) (hp := fun r_3v1414 zr_3v1414 w_4v1415  tr_3v1414 hIw_4v1415  => ?_)
        refine ⟨fun c2828 => ?_, fun c2828 => ?_⟩
        · replace c2828 := c_neq tr_3v1414 lit_m1 c2828
          refine sX4_lay   (hI := hIw_4v1415) (tx1 := tr_3v1414)  (hp := fun  w_6v1416   hIw_6v1416  => ?_)
          obtain ⟨z2829, t2830, f2831⟩ := t_div tr_3v1414 lit_10
          first | replace f2831 := f2831 (by omega) | clear f2831
          obtain ⟨z2832, t2833, f2834⟩ := t_rem tr_3v1414 lit_10
          first | replace f2834 := f2834 (by omega) | clear f2834
          refine sX1_rowAfter   (hI := hIw_6v1416) (tx1 := tx3) (tx2 := t2830) (tx3 := t2833) (tx4 := lit_0)  (hp := fun r_7v1417 zr_7v1417 w_8v1418  tr_7v1417 hIw_8v1418  => ?_)
          obtain ⟨z2835, t2836, f2837⟩ := t_add lit_1 t2833
          first | replace f2837 := f2837 (by omega) | clear f2837
          obtain ⟨z2838, t2839, f2840⟩ := t_sub tx4 t2836
          first | replace f2840 := f2840 (by omega) | clear f2840
          intro x4_9v1419 ex4_9v1419
          have tx4_9v1419 : Ti x4_9v1419 z2838 := by rw [ex4_9v1419]; exact t2839
          obtain ⟨z2841, t2842, f2843⟩ := t_add tx5 lit_m1
          first | replace f2843 := f2843 (by omega) | clear f2843
          intro x5_10v1420 ex5_10v1420
          have tx5_10v1420 : Ti x5_10v1420 z2841 := by rw [ex5_10v1420]; exact t2842
          exact ih _ _ _ _ _ _ _ tr_7v1417 tx4_9v1419 tx5_10v1420 hIw_8v1418 (by omega) (by omega)
        · replace c2828 := c_eq tr_3v1414 lit_m1 c2828
          exact hp  _   hIw_4v1415 
set_option maxHeartbeats 4000000 in
set_option maxRecDepth 100000 in
theorem sX9_layWay {T D : Int} {k : Nat} {post : Wd → Prop} {x1 : Int32} {zx1 : Int} {w : Wd}  (tx1 : Ti x1 zx1) (hI : IX k T D w)  (hp : ∀ (w9 : Wd), IX k T D w9 → post w9) : pX9_layWay   post  x1 w := by
  unfold pX9_layWay
  have hk := ix_k hI
  obtain ⟨z2844, t2845⟩ := t_any (w.1 60 5)
  intro x4_1v1421 ex4_1v1421
  have tx4_1v1421 : Ti x4_1v1421 z2844 := by rw [ex4_1v1421]; exact t2845
  exact ⟨70000, sX9_layWay_11    (hp := hp) 70000 _ _ _ _ _ _ _ tx1 tx4_1v1421 lit_4 hI (by omega) (by omega)⟩
set_option maxHeartbeats 4000000 in
set_option maxRecDepth 100000 in
theorem sX9_seek_53 {T D : Int} {k : Nat} {post : Int32 → Wd → Prop}   (hp : ∀ (r : Int32) (zr : Int) (w9 : Wd), Ti r zr → IX k T D w9 → post r w9) : ∀ (n : Nat) (x3 : Int32) (x4 : Int32) (zx3 : Int) (zx4 : Int) (w : Wd), Ti x3 zx3 → Ti x4 zx4 → IX k T D w → (0 ≤ zx4 ∧ zx4 ≤ 24) → (25 - zx4) < (n : Int) → pX9_seek_53   post  n x3 x4 w := by
  intro n
  induction n with
  | zero =>
    intro x3 x4 zx3 zx4 w tx3 tx4 hI h0 hm
    exact absurd hm (by omega)
  | succ n ih =>
    intro x3 x4 zx3 zx4 w tx3 tx4 hI h0 hm
    unfold pX9_seek_53
    have hk := ix_k hI
    obtain ⟨z2846, t2847⟩ := t_any (w.1 160 0)
    have f2848 := ixg_c0 hI t2847
    refine ⟨fun c2849 => ?_, fun c2849 => ?_⟩
    · replace c2849 := c_le t2847 tx4 c2849
      exact hp _ _ _  tx3 hI 
    · replace c2849 := c_nle t2847 tx4 c2849
      refine ⟨vp_of tx4 (by omega) (by omega), ?_⟩
      obtain ⟨z2850, t2851⟩ := t_any (w.2.1 162 x4.toNatClampNeg)
      refine sdX9_waxFrom t2851 lit_4 hI (by omega) (by omega) (fun r_2v1422 zr_2v1422 w_3v1423  tr_2v1422 hIw_3v1423  => ?_)
      obtain ⟨z2852, t2853⟩ := t_any (w_3v1423.1 60 5)
      refine ⟨fun c2854 => ?_, fun c2854 => ?_⟩
      · replace c2854 := c_le t2853 tr_2v1422 c2854
        unfold pX9_seek_100
        obtain ⟨z2855, t2856, f2857⟩ := t_add tx4 lit_1
        first | replace f2857 := f2857 (by omega) | clear f2857
        intro x4_1v1425 ex4_1v1425
        have tx4_1v1425 : Ti x4_1v1425 z2855 := by rw [ex4_1v1425]; exact t2856
        exact ih _ _ _ _ _ tx3 tx4_1v1425 hIw_3v1423 (by omega) (by omega)
      · replace c2854 := c_nle t2853 tr_2v1422 c2854
        intro w_5v1424 ew_5v1424
        have hIw_5v1424 := ixs_n hIw_3v1423 ew_5v1424 (by unfold nX; omega)
        unfold pX9_seek_100
        obtain ⟨z2858, t2859, f2860⟩ := t_add tx4 lit_1
        first | replace f2860 := f2860 (by omega) | clear f2860
        intro x4_1v1426 ex4_1v1426
        have tx4_1v1426 : Ti x4_1v1426 z2858 := by rw [ex4_1v1426]; exact t2859
        exact ih _ _ _ _ _ tx4 tx4_1v1426 hIw_5v1424 (by omega) (by omega)
set_option maxHeartbeats 4000000 in
set_option maxRecDepth 100000 in
theorem sX9_seek_18 {T D : Int} {k : Nat} {post : Int32 → Wd → Prop}   (hp : ∀ (r : Int32) (zr : Int) (w9 : Wd), Ti r zr → IX k T D w9 → post r w9) : ∀ (n : Nat) (x3 : Int32) (zx3 : Int) (w : Wd), Ti x3 zx3 → IX k T D w → (0 ≤ zx3 ∧ zx3 ≤ 12288) → (12289 - zx3) < (n : Int) → pX9_seek_18   post  n x3 w := by
  intro n
  induction n with
  | zero =>
    intro x3 zx3 w tx3 hI h0 hm
    exact absurd hm (by omega)
  | succ n ih =>
    intro x3 zx3 w tx3 hI h0 hm
    unfold pX9_seek_18
    have hk := ix_k hI
    obtain ⟨z2861, t2862⟩ := t_any (w.1 60 4)
    have f2863 := ixg_60_4 hI t2862
    obtain ⟨z2864, t2865, f2866⟩ := t_mul lit_3 t2862
    first | replace f2866 := f2866 (by omega) | clear f2866
    refine ⟨fun c2867 => ?_, fun c2867 => ?_⟩
    · replace c2867 := c_le t2865 tx3 c2867
      intro w_2v1427 ew_2v1427
      have hIw_2v1427 := ixs_n hI ew_2v1427 (by unfold nX; omega)
      exact ⟨70000, sX9_seek_53    (hp := hp) 70000 _ _ _ _ _ lit_m1 lit_0 hIw_2v1427 (by omega) (by omega)⟩
    · replace c2867 := c_nle t2865 tx3 c2867
      refine ⟨vp_of tx3 (by omega) (by omega), ?_⟩
      intro w_3v1428 ew_3v1428
      have hIw_3v1428 := ixs_A hI ew_3v1428 (by decide)
      obtain ⟨z2868, t2869, f2870⟩ := t_add tx3 lit_1
      first | replace f2870 := f2870 (by omega) | clear f2870
      intro x3_4v1429 ex3_4v1429
      have tx3_4v1429 : Ti x3_4v1429 z2868 := by rw [ex3_4v1429]; exact t2869
      exact ih _ _ _ tx3_4v1429 hIw_3v1428 (by omega) (by omega)
