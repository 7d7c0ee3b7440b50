set_option maxHeartbeats 4000000 in
set_option maxRecDepth 100000 in
theorem sX10_nearest_41 {T D : Int} {k : Nat} {k32 : Int32 → Int32 → Int32 → Int32 → Int32 → Int32 → Wd → Prop} {M32 : Int} {post : Int32 → Wd → Prop} {w : Wd} (hk32 : ∀ (x1 : Int32) (x2 : Int32) (x3 : Int32) (x4 : Int32) (x5 : Int32) (x6 : Int32) (zx1 : Int) (zx2 : Int) (zx3 : Int) (zx4 : Int) (zx5 : Int) (zx6 : Int), Ti x1 zx1 → Ti x2 zx2 → Ti x3 zx3 → Ti x4 zx4 → Ti x5 zx5 → Ti x6 zx6 → IX k T D w → (0 ≤ zx6 ∧ zx6 ≤ 2) → (3 - zx6) < M32 → k32 x1 x2 x3 x4 x5 x6 w) (hp : ∀ (r : Int32) (zr : Int), Ti r zr → post r w) : ∀ (n : Nat) (x1 : Int32) (x2 : Int32) (x3 : Int32) (x4 : Int32) (x5 : Int32) (x6 : Int32) (x7 : Int32) (zx1 : Int) (zx2 : Int) (zx3 : Int) (zx4 : Int) (zx5 : Int) (zx6 : Int) (zx7 : Int), Ti x1 zx1 → Ti x2 zx2 → Ti x3 zx3 → Ti x4 zx4 → Ti x5 zx5 → Ti x6 zx6 → Ti x7 zx7 → IX k T D w → (0 ≤ zx7 ∧ zx7 ≤ 24) → (zx6 ≤ 1) → (0 ≤ zx6 ∧ zx6 ≤ 2) → ((3 - zx6) ≤ M32) → (25 - zx7) < (n : Int) → pX10_nearest_41 k32  post  n x1 x2 x3 x4 x5 x6 x7 w := by
  intro n
  induction n with
  | zero =>
    intro x1 x2 x3 x4 x5 x6 x7 zx1 zx2 zx3 zx4 zx5 zx6 zx7  tx1 tx2 tx3 tx4 tx5 tx6 tx7 hI h0 h1 h2 h3 hm
    exact absurd hm (by omega)
  | succ n ih =>
    intro x1 x2 x3 x4 x5 x6 x7 zx1 zx2 zx3 zx4 zx5 zx6 zx7  tx1 tx2 tx3 tx4 tx5 tx6 tx7 hI h0 h1 h2 h3 hm
    unfold pX10_nearest_41
    have hk := ix_k hI
    obtain ⟨z2491, t2492⟩ := t_any (w.1 160 0)
    have f2493 := ixg_c0 hI t2492
    refine ⟨fun c2494 => ?_, fun c2494 => ?_⟩
    · replace c2494 := c_le t2492 tx7 c2494
      obtain ⟨z2495, t2496, f2497⟩ := t_add tx6 lit_1
      first | replace f2497 := f2497 (by omega) | clear f2497
      intro x6_2v1211 ex6_2v1211
      have tx6_2v1211 : Ti x6_2v1211 z2495 := by rw [ex6_2v1211]; exact t2496
      exact hk32 _ _ _ _ _ _ _ _ _ _ _ _  tx1 tx2 tx3 tx4 tx5 tx6_2v1211 hI (by omega) (by omega)
    · replace c2494 := c_nle t2492 tx7 c2494
      refine ⟨fun c2498 => ?_, fun c2498 => ?_⟩
      · replace c2498 := c_neq tx6 lit_0 c2498
        refine ⟨vp_of tx7 (by omega) (by omega), ?_⟩
        unfold pX10_nearest_78
        obtain ⟨z2499, t2500⟩ := t_any (x1 ^^^ (w.2.1 162 x7.toNatClampNeg))
        refine sJ6_bitCount_0f7a4   (hI := hI) (tx0 := t2500)  (hp := fun r_1v1214 zr_1v1214 tr_1v1214 p2501 => ?_)
        refine ⟨fun c2502 => ?_, fun c2502 => ?_⟩
        · replace c2502 := c_le tx3 tr_1v1214 c2502
          unfold pX10_nearest_101
          obtain ⟨z2503, t2504, f2505⟩ := t_add tx7 lit_1
          first | replace f2505 := f2505 (by omega) | clear f2505
          intro x7_1v1216 ex7_1v1216
          have tx7_1v1216 : Ti x7_1v1216 z2503 := by rw [ex7_1v1216]; exact t2504
          exact ih _ _ _ _ _ _ _ _ _ _ _ _ _ _  tx1 tx2 tx3 tx4 tx5 tx6 tx7_1v1216 hI (by omega) (by omega) (by omega) (by omega) (by omega)
        · replace c2502 := c_nle tx3 tr_1v1214 c2502
          unfold pX10_nearest_101
          obtain ⟨z2506, t2507, f2508⟩ := t_add tx7 lit_1
          first | replace f2508 := f2508 (by omega) | clear f2508
          intro x7_1v1217 ex7_1v1217
          have tx7_1v1217 : Ti x7_1v1217 z2506 := by rw [ex7_1v1217]; exact t2507
          exact ih _ _ _ _ _ _ _ _ _ _ _ _ _ _  tx1 tx2 tr_1v1214 tx7 tx6 tx6 tx7_1v1217 hI (by omega) (by omega) (by omega) (by omega) (by omega)
      · replace c2498 := c_eq tx6 lit_0 c2498
        refine sX10_printOf   (hI := hI) (tx1 := tx7)  (hp := fun r_4v1212 zr_4v1212 tr_4v1212 => ?_)
        unfold pX10_nearest_78
        obtain ⟨z2509, t2510⟩ := t_any (x1 ^^^ r_4v1212)
        refine sJ6_bitCount_0f7a4   (hI := hI) (tx0 := t2510)  (hp := fun r_1v1218 zr_1v1218 tr_1v1218 p2511 => ?_)
        refine ⟨fun c2512 => ?_, fun c2512 => ?_⟩
        · replace c2512 := c_le tx3 tr_1v1218 c2512
          unfold pX10_nearest_101
          obtain ⟨z2513, t2514, f2515⟩ := t_add tx7 lit_1
          first | replace f2515 := f2515 (by omega) | clear f2515
          intro x7_1v1220 ex7_1v1220
          have tx7_1v1220 : Ti x7_1v1220 z2513 := by rw [ex7_1v1220]; exact t2514
          exact ih _ _ _ _ _ _ _ _ _ _ _ _ _ _  tx1 tx2 tx3 tx4 tx5 tx6 tx7_1v1220 hI (by omega) (by omega) (by omega) (by omega) (by omega)
        · replace c2512 := c_nle tx3 tr_1v1218 c2512
          unfold pX10_nearest_101
          obtain ⟨z2516, t2517, f2518⟩ := t_add tx7 lit_1
          first | replace f2518 := f2518 (by omega) | clear f2518
          intro x7_1v1221 ex7_1v1221
          have tx7_1v1221 : Ti x7_1v1221 z2516 := by rw [ex7_1v1221]; exact t2517
          exact ih _ _ _ _ _ _ _ _ _ _ _ _ _ _  tx1 tx2 tr_1v1218 tx7 tx6 tx6 tx7_1v1221 hI (by omega) (by omega) (by omega) (by omega) (by omega)
set_option maxHeartbeats 4000000 in
set_option maxRecDepth 100000 in
theorem sX10_nearest_32 {T D : Int} {k : Nat} {post : Int32 → Wd → Prop} {w : Wd}  (hp : ∀ (r : Int32) (zr : Int), Ti r zr → post r w) : ∀ (n : Nat) (x1 : Int32) (x2 : Int32) (x3 : Int32) (x4 : Int32) (x5 : Int32) (x6 : Int32) (zx1 : Int) (zx2 : Int) (zx3 : Int) (zx4 : Int) (zx5 : Int) (zx6 : Int), Ti x1 zx1 → Ti x2 zx2 → Ti x3 zx3 → Ti x4 zx4 → Ti x5 zx5 → Ti x6 zx6 → IX k T D w → (0 ≤ zx6 ∧ zx6 ≤ 2) → (3 - zx6) < (n : Int) → pX10_nearest_32   post  n x1 x2 x3 x4 x5 x6 w := by
  intro n
  induction n with
  | zero =>
    intro x1 x2 x3 x4 x5 x6 zx1 zx2 zx3 zx4 zx5 zx6  tx1 tx2 tx3 tx4 tx5 tx6 hI h0 hm
    exact absurd hm (by omega)
  | succ n ih =>
    intro x1 x2 x3 x4 x5 x6 zx1 zx2 zx3 zx4 zx5 zx6  tx1 tx2 tx3 tx4 tx5 tx6 hI h0 hm
    unfold pX10_nearest_32
    have hk := ix_k hI
    refine ⟨fun c2519 => ?_, fun c2519 => ?_⟩
    · replace c2519 := c_le lit_2 tx6 c2519
      refine ⟨fun c2520 => ?_, fun c2520 => ?_⟩
      · replace c2520 := c_neq tx2 lit_0 c2520
        refine ⟨fun c2521 => ?_, fun c2521 => ?_⟩
        · replace c2521 := c_neq tx2 lit_1 c2521
          exact hp _ _ tx5 
        · replace c2521 := c_eq tx2 lit_1 c2521
          exact hp _ _ tx4 
      · replace c2520 := c_eq tx2 lit_0 c2520
        exact hp _ _ tx3 
    · replace c2519 := c_nle lit_2 tx6 c2519
      exact ⟨70000, sX10_nearest_41 (M32 := (n : Int)) (hk32 := ih)  (hp := hp) 70000 _ _ _ _ _ _ _ _ _ _ _ _ _ _  tx1 tx2 tx3 tx4 tx5 tx6 lit_0 hI (by omega) (by omega) (by omega) (by omega) (by omega)⟩
set_option maxHeartbeats 4000000 in
set_option maxRecDepth 100000 in
theorem sX10_nearest {T D : Int} {k : Nat} {post : Int32 → Wd → Prop} {x1 : Int32} {zx1 : Int} {x2 : Int32} {zx2 : Int} {w : Wd}  (tx1 : Ti x1 zx1) (tx2 : Ti x2 zx2) (hI : IX k T D w)  (hp : ∀ (r : Int32) (zr : Int), Ti r zr → post r w) : pX10_nearest   post  x1 x2 w := by
  unfold pX10_nearest
  have hk := ix_k hI
  refine sX10_isRow   (hI := hI) (tx1 := tx1)  (hp := fun r_1v1222 zr_1v1222 tr_1v1222 p2522 => ?_)
  refine ⟨fun c2523 => ?_, fun c2523 => ?_⟩
  · replace c2523 := c_eq tr_1v1222 lit_0 c2523
    exact hp _ _ lit_m1 
  · replace c2523 := c_neq tr_1v1222 lit_0 c2523
    refine ⟨fun c2524 => ?_, fun c2524 => ?_⟩
    · replace c2524 := c_lt tx2 lit_0 c2524
      exact hp _ _ lit_m1 
    · replace c2524 := c_nlt tx2 lit_0 c2524
      refine ⟨fun c2525 => ?_, fun c2525 => ?_⟩
      · replace c2525 := c_le tx2 lit_2 c2525
        exact ⟨70000, sX10_nearest_32   (hp := hp) 70000 _ _ _ _ _ _ _ _ _ _ _ _  tx1 tx2 lit_1000 lit_m1 lit_0 lit_0 hI (by omega) (by omega)⟩
      · replace c2525 := c_nle tx2 lit_2 c2525
        exact hp _ _ lit_m1 
set_option maxHeartbeats 4000000 in
set_option maxRecDepth 100000 in
theorem sX10_marksOfAllPrints_12 {T D : Int} {k : Nat} {post : Int32 → Wd → Prop} {w : Wd}  (hp : ∀ (r : Int32) (zr : Int), Ti r zr → post r w) : ∀ (n : Nat) (x1 : Int32) (x2 : Int32) (zx1 : Int) (zx2 : Int), Ti x1 zx1 → Ti x2 zx2 → IX k T D w → (0 ≤ zx2 ∧ zx2 ≤ 40) → (41 - zx2) < (n : Int) → pX10_marksOfAllPrints_12   post  n x1 x2 w := by
  intro n
  induction n with
  | zero =>
    intro x1 x2 zx1 zx2  tx1 tx2 hI h0 hm
    exact absurd hm (by omega)
  | succ n ih =>
    intro x1 x2 zx1 zx2  tx1 tx2 hI h0 hm
    unfold pX10_marksOfAllPrints_12
    have hk := ix_k hI
    obtain ⟨z2526, t2527⟩ := t_any (w.1 160 6)
    have f2528 := ixg_c6 hI t2527
    refine ⟨fun c2529 => ?_, fun c2529 => ?_⟩
    · replace c2529 := c_le t2527 tx2 c2529
      exact hp _ _ tx1 
    · replace c2529 := c_nle t2527 tx2 c2529
      refine ⟨vp_of tx2 (by omega) (by omega), ?_⟩
      obtain ⟨z2530, t2531⟩ := t_any (x1 &&& (w.2.1 168 x2.toNatClampNeg))
      intro x1_2v1224 ex1_2v1224
      have tx1_2v1224 : Ti x1_2v1224 z2530 := by rw [ex1_2v1224]; exact t2531
      obtain ⟨z2532, t2533, f2534⟩ := t_add tx2 lit_1
      first | replace f2534 := f2534 (by omega) | clear f2534
      intro x2_3v1225 ex2_3v1225
      have tx2_3v1225 : Ti x2_3v1225 z2532 := by rw [ex2_3v1225]; exact t2533
      exact ih _ _ _ _  tx1_2v1224 tx2_3v1225 hI (by omega) (by omega)
set_option maxHeartbeats 4000000 in
set_option maxRecDepth 100000 in
theorem sX10_marksOfAllPrints {T D : Int} {k : Nat} {post : Int32 → Wd → Prop}  {w : Wd}   (hI : IX k T D w)  (hp : ∀ (r : Int32) (zr : Int), Ti r zr → post r w) : pX10_marksOfAllPrints   post   w := by
  unfold pX10_marksOfAllPrints
  have hk := ix_k hI
  refine sX7_rows   (hI := hI)   (hp := fun r_1v1226 zr_1v1226 tr_1v1226 p2535 => ?_)
  obtain ⟨z2536, t2537, f2538⟩ := t_sub tr_1v1226 lit_1
  first | replace f2538 := f2538 (by omega) | clear f2538
  intro x1_3v1229 ex1_3v1229
  have tx1_3v1229 : Ti x1_3v1229 z2536 := by rw [ex1_3v1229]; exact t2537
  exact ⟨70000, sX10_marksOfAllPrints_12   (hp := hp) 70000 _ _ _ _  tx1_3v1229 lit_0 hI (by omega) (by omega)⟩
set_option maxHeartbeats 4000000 in
set_option maxRecDepth 100000 in
theorem sX10_marksOfAllSeals_12 {T D : Int} {k : Nat} {post : Int32 → Wd → Prop} {w : Wd}  (hp : ∀ (r : Int32) (zr : Int), Ti r zr → post r w) : ∀ (n : Nat) (x1 : Int32) (x2 : Int32) (zx1 : Int) (zx2 : Int), Ti x1 zx1 → Ti x2 zx2 → IX k T D w → (0 ≤ zx2 ∧ zx2 ≤ 24) → (25 - zx2) < (n : Int) → pX10_marksOfAllSeals_12   post  n x1 x2 w := by
  intro n
  induction n with
  | zero =>
    intro x1 x2 zx1 zx2  tx1 tx2 hI h0 hm
    exact absurd hm (by omega)
  | succ n ih =>
    intro x1 x2 zx1 zx2  tx1 tx2 hI h0 hm
    unfold pX10_marksOfAllSeals_12
    have hk := ix_k hI
    obtain ⟨z2539, t2540⟩ := t_any (w.1 160 0)
    have f2541 := ixg_c0 hI t2540
    refine ⟨fun c2542 => ?_, fun c2542 => ?_⟩
    · replace c2542 := c_le t2540 tx2 c2542
      exact hp _ _ tx1 
    · replace c2542 := c_nle t2540 tx2 c2542
      refine ⟨vp_of tx2 (by omega) (by omega), ?_⟩
      obtain ⟨z2543, t2544⟩ := t_any (x1 &&& (w.2.1 162 x2.toNatClampNeg))
      intro x1_2v1230 ex1_2v1230
      have tx1_2v1230 : Ti x1_2v1230 z2543 := by rw [ex1_2v1230]; exact t2544
      obtain ⟨z2545, t2546, f2547⟩ := t_add tx2 lit_1
      first | replace f2547 := f2547 (by omega) | clear f2547
      intro x2_3v1231 ex2_3v1231
      have tx2_3v1231 : Ti x2_3v1231 z2545 := by rw [ex2_3v1231]; exact t2546
      exact ih _ _ _ _  tx1_2v1230 tx2_3v1231 hI (by omega) (by omega)
set_option maxHeartbeats 4000000 in
set_option maxRecDepth 100000 in
theorem sX10_marksOfAllSeals {T D : Int} {k : Nat} {post : Int32 → Wd → Prop}  {w : Wd}   (hI : IX k T D w)  (hp : ∀ (r : Int32) (zr : Int), Ti r zr → post r w) : pX10_marksOfAllSeals   post   w := by
  unfold pX10_marksOfAllSeals
  have hk := ix_k hI
  refine sX7_rows   (hI := hI)   (hp := fun r_1v1232 zr_1v1232 tr_1v1232 p2548 => ?_)
  obtain ⟨z2549, t2550, f2551⟩ := t_sub tr_1v1232 lit_1
  first | replace f2551 := f2551 (by omega) | clear f2551
  intro x1_3v1235 ex1_3v1235
  have tx1_3v1235 : Ti x1_3v1235 z2549 := by rw [ex1_3v1235]; exact t2550
  exact ⟨70000, sX10_marksOfAllSeals_12   (hp := hp) 70000 _ _ _ _  tx1_3v1235 lit_0 hI (by omega) (by omega)⟩
set_option maxHeartbeats 4000000 in
set_option maxRecDepth 100000 in
theorem sX10_marksOfSomeSeals_4 {T D : Int} {k : Nat} {post : Int32 → Wd → Prop} {w : Wd}  (hp : ∀ (r : Int32) (zr : Int), Ti r zr → post r w) : ∀ (n : Nat) (x1 : Int32) (x2 : Int32) (zx1 : Int) (zx2 : Int), Ti x1 zx1 → Ti x2 zx2 → IX k T D w → (0 ≤ zx2 ∧ zx2 ≤ 24) → (25 - zx2) < (n : Int) → pX10_marksOfSomeSeals_4   post  n x1 x2 w := by
  intro n
  induction n with
  | zero =>
    intro x1 x2 zx1 zx2  tx1 tx2 hI h0 hm
    exact absurd hm (by omega)
  | succ n ih =>
    intro x1 x2 zx1 zx2  tx1 tx2 hI h0 hm
    unfold pX10_marksOfSomeSeals_4
    have hk := ix_k hI
    obtain ⟨z2552, t2553⟩ := t_any (w.1 160 0)
    have f2554 := ixg_c0 hI t2553
    refine ⟨fun c2555 => ?_, fun c2555 => ?_⟩
    · replace c2555 := c_le t2553 tx2 c2555
      exact hp _ _ tx1 
    · replace c2555 := c_nle t2553 tx2 c2555
      refine ⟨vp_of tx2 (by omega) (by omega), ?_⟩
      obtain ⟨z2556, t2557⟩ := t_any (x1 ||| (w.2.1 162 x2.toNatClampNeg))
      intro x1_2v1236 ex1_2v1236
      have tx1_2v1236 : Ti x1_2v1236 z2556 := by rw [ex1_2v1236]; exact t2557
      obtain ⟨z2558, t2559, f2560⟩ := t_add tx2 lit_1
      first | replace f2560 := f2560 (by omega) | clear f2560
      intro x2_3v1237 ex2_3v1237
      have tx2_3v1237 : Ti x2_3v1237 z2558 := by rw [ex2_3v1237]; exact t2559
      exact ih _ _ _ _  tx1_2v1236 tx2_3v1237 hI (by omega) (by omega)
set_option maxHeartbeats 4000000 in
set_option maxRecDepth 100000 in
theorem sX10_marksOfSomeSeals {T D : Int} {k : Nat} {post : Int32 → Wd → Prop}  {w : Wd}   (hI : IX k T D w)  (hp : ∀ (r : Int32) (zr : Int), Ti r zr → post r w) : pX10_marksOfSomeSeals   post   w := by
  unfold pX10_marksOfSomeSeals
  have hk := ix_k hI
  exact ⟨70000, sX10_marksOfSomeSeals_4   (hp := hp) 70000 _ _ _ _  lit_0 lit_0 hI (by omega) (by omega)⟩
set_option maxHeartbeats 4000000 in
set_option maxRecDepth 100000 in
theorem sX10_common {T D : Int} {k : Nat} {post : Int32 → Wd → Prop} {x1 : Int32} {zx1 : Int} {w : Wd}  (tx1 : Ti x1 zx1) (hI : IX k T D w)  (hp : ∀ (r : Int32) (zr : Int), Ti r zr → post r w) : pX10_common   post  x1 w := by
  unfold pX10_common
  have hk := ix_k hI
  refine ⟨fun c2561 => ?_, fun c2561 => ?_, fun c2561 => ?_, fun c2561 => ?_⟩
  · rw [show x1.toInt = zx1 from tx1] at c2561
    exact hp _ _ lit_m1 
  · rw [show x1.toInt = zx1 from tx1] at c2561
    refine sX10_marksOfAllSeals   (hI := hI)   (hp := fun r_2v1238 zr_2v1238 tr_2v1238 => ?_)
    exact hp _ _ tr_2v1238 
  · rw [show x1.toInt = zx1 from tx1] at c2561
    refine sX10_marksOfSomeSeals   (hI := hI)   (hp := fun r_4v1240 zr_4v1240 tr_4v1240 => ?_)
    exact hp _ _ tr_4v1240 
  · rw [show x1.toInt = zx1 from tx1] at c2561
    refine sX10_marksOfAllPrints   (hI := hI)   (hp := fun r_6v1242 zr_6v1242 tr_6v1242 => ?_)
    exact hp _ _ tr_6v1242 
set_option maxHeartbeats 4000000 in
set_option maxRecDepth 100000 in
theorem sX10_alike_36 {T D : Int} {k : Nat} {post : Int32 → Wd → Prop} {w : Wd}  (hp : ∀ (r : Int32) (zr : Int), Ti r zr → post r w) : ∀ (n : Nat) (x3 : Int32) (x4 : Int32) (x5 : Int32) (zx3 : Int) (zx4 : Int) (zx5 : Int), Ti x3 zx3 → Ti x4 zx4 → Ti x5 zx5 → IX k T D w → (0 ≤ zx5 ∧ zx5 ≤ 24) → (25 - zx5) < (n : Int) → pX10_alike_36   post  n x3 x4 x5 w := by
  intro n
  induction n with
  | zero =>
    intro x3 x4 x5 zx3 zx4 zx5  tx3 tx4 tx5 hI h0 hm
    exact absurd hm (by omega)
  | succ n ih =>
    intro x3 x4 x5 zx3 zx4 zx5  tx3 tx4 tx5 hI h0 hm
    unfold pX10_alike_36
    have hk := ix_k hI
    obtain ⟨z2562, t2563⟩ := t_any (w.1 160 0)
    have f2564 := ixg_c0 hI t2563
    refine ⟨fun c2565 => ?_, fun c2565 => ?_⟩
    · replace c2565 := c_le t2563 tx5 c2565
      exact hp _ _ tx4 
    · replace c2565 := c_nle t2563 tx5 c2565
      refine ⟨vp_of tx5 (by omega) (by omega), ?_⟩
      obtain ⟨z2566, t2567⟩ := t_any (w.2.1 162 x5.toNatClampNeg)
      refine ⟨fun c2568 => ?_, fun c2568 => ?_⟩
      · replace c2568 := c_neq t2567 tx3 c2568
        unfold pX10_alike_71
        obtain ⟨z2569, t2570, f2571⟩ := t_add tx5 lit_1
        first | replace f2571 := f2571 (by omega) | clear f2571
        intro x5_1v1245 ex5_1v1245
        have tx5_1v1245 : Ti x5_1v1245 z2569 := by rw [ex5_1v1245]; exact t2570
        exact ih _ _ _ _ _ _  tx3 tx4 tx5_1v1245 hI (by omega) (by omega)
      · replace c2568 := c_eq t2567 tx3 c2568
        obtain ⟨z2572, t2573⟩ := t_any (x4 ||| ((1 : Int32) <<< (x5 &&& 31)))
        intro x4_3v1244 ex4_3v1244
        have tx4_3v1244 : Ti x4_3v1244 z2572 := by rw [ex4_3v1244]; exact t2573
        unfold pX10_alike_71
        obtain ⟨z2574, t2575, f2576⟩ := t_add tx5 lit_1
        first | replace f2576 := f2576 (by omega) | clear f2576
        intro x5_1v1246 ex5_1v1246
        have tx5_1v1246 : Ti x5_1v1246 z2574 := by rw [ex5_1v1246]; exact t2575
        exact ih _ _ _ _ _ _  tx3 tx4_3v1244 tx5_1v1246 hI (by omega) (by omega)
set_option maxHeartbeats 4000000 in
set_option maxRecDepth 100000 in
theorem sX10_alike {T D : Int} {k : Nat} {post : Int32 → Wd → Prop} {x1 : Int32} {zx1 : Int} {x2 : Int32} {zx2 : Int} {w : Wd}  (tx1 : Ti x1 zx1) (tx2 : Ti x2 zx2) (hI : IX k T D w)  (hp : ∀ (r : Int32) (zr : Int), Ti r zr → post r w) : pX10_alike   post  x1 x2 w := by
  unfold pX10_alike
  have hk := ix_k hI
  refine sX10_isRow   (hI := hI) (tx1 := tx1)  (hp := fun r_1v1247 zr_1v1247 tr_1v1247 p2577 => ?_)
  refine ⟨fun c2578 => ?_, fun c2578 => ?_⟩
  · replace c2578 := c_neq tr_1v1247 lit_0 c2578
    refine ⟨fun c2579 => ?_, fun c2579 => ?_⟩
    · replace c2579 := c_eq tx2 lit_0 c2579
      unfold pX10_alike_29
      exact ⟨70000, sX10_alike_36   (hp := hp) 70000 _ _ _ _ _ _  tx1 lit_0 lit_0 hI (by omega) (by omega)⟩
    · replace c2579 := c_neq tx2 lit_0 c2579
      obtain ⟨z2580, t2581⟩ := t_any (w.1 (rl (w.2.2.2.2 0)) 0)
      have f2582 := ixg_r0 hI t2581
      refine sX10_turn   (hI := hI) (tx0 := tx1) (tx1 := t2581)  (hp := fun r_5v1251 zr_5v1251 tr_5v1251 => ?_)
      unfold pX10_alike_29
      exact ⟨70000, sX10_alike_36   (hp := hp) 70000 _ _ _ _ _ _  tr_5v1251 lit_0 lit_0 hI (by omega) (by omega)⟩
  · replace c2578 := c_eq tr_1v1247 lit_0 c2578
    exact hp _ _ lit_m1 
set_option maxHeartbeats 4000000 in
set_option maxRecDepth 100000 in
theorem sX10_tellsApart_15 {T D : Int} {k : Nat} {k2 : Int32 → Int32 → Wd → Prop} {M2 : Int} {post : Int32 → Wd → Prop} {w : Wd} (hk2 : ∀ (x1 : Int32) (x2 : Int32) (zx1 : Int) (zx2 : Int), Ti x1 zx1 → Ti x2 zx2 → IX k T D w → (0 ≤ zx2 ∧ zx2 ≤ 24) → (25 - zx2) < M2 → k2 x1 x2 w) (hp : ∀ (r : Int32) (zr : Int), Ti r zr → post r w) : ∀ (n : Nat) (x1 : Int32) (x2 : Int32) (x3 : Int32) (zx1 : Int) (zx2 : Int) (zx3 : Int), Ti x1 zx1 → Ti x2 zx2 → Ti x3 zx3 → IX k T D w → (0 ≤ zx3 ∧ zx3 ≤ 24) → (zx2 ≤ 23) → (0 ≤ zx2 ∧ zx2 ≤ 24) → ((25 - zx2) ≤ M2) → (25 - zx3) < (n : Int) → pX10_tellsApart_15 k2  post  n x1 x2 x3 w := by
  intro n
  induction n with
  | zero =>
    intro x1 x2 x3 zx1 zx2 zx3  tx1 tx2 tx3 hI h0 h1 h2 h3 hm
    exact absurd hm (by omega)
  | succ n ih =>
    intro x1 x2 x3 zx1 zx2 zx3  tx1 tx2 tx3 hI h0 h1 h2 h3 hm
    unfold pX10_tellsApart_15
    have hk := ix_k hI
    refine ⟨fun c2583 => ?_, fun c2583 => ?_⟩
    · replace c2583 := c_le tx2 tx3 c2583
      obtain ⟨z2584, t2585, f2586⟩ := t_add tx2 lit_1
      first | replace f2586 := f2586 (by omega) | clear f2586
      intro x2_2v1253 ex2_2v1253
      have tx2_2v1253 : Ti x2_2v1253 z2584 := by rw [ex2_2v1253]; exact t2585
      exact hk2 _ _ _ _  tx1 tx2_2v1253 hI (by omega) (by omega)
    · replace c2583 := c_nle tx2 tx3 c2583
      refine ⟨vp_of tx2 (by omega) (by omega), ?_⟩
      refine ⟨vp_of tx3 (by omega) (by omega), ?_⟩
      obtain ⟨z2587, t2588⟩ := t_any ((w.2.1 162 x2.toNatClampNeg) ^^^ (w.2.1 162 x3.toNatClampNeg))
      intro x4_3v1254 ex4_3v1254
      have tx4_3v1254 : Ti x4_3v1254 z2587 := by rw [ex4_3v1254]; exact t2588
      refine ⟨fun c2589 => ?_, fun c2589 => ?_⟩
      · replace c2589 := c_eq tx4_3v1254 lit_0 c2589
        unfold pX10_tellsApart_55
        obtain ⟨z2590, t2591, f2592⟩ := t_add tx3 lit_1
        first | replace f2592 := f2592 (by omega) | clear f2592
        intro x3_1v1255 ex3_1v1255
        have tx3_1v1255 : Ti x3_1v1255 z2590 := by rw [ex3_1v1255]; exact t2591
        exact ih _ _ _ _ _ _  tx1 tx2 tx3_1v1255 hI (by omega) (by omega) (by omega) (by omega) (by omega)
      · replace c2589 := c_neq tx4_3v1254 lit_0 c2589
        obtain ⟨z2593, t2594⟩ := t_any (x4_3v1254 &&& x1)
        refine ⟨fun c2595 => ?_, fun c2595 => ?_⟩
        · replace c2595 := c_neq t2594 lit_0 c2595
          unfold pX10_tellsApart_55
          obtain ⟨z2596, t2597, f2598⟩ := t_add tx3 lit_1
          first | replace f2598 := f2598 (by omega) | clear f2598
          intro x3_1v1256 ex3_1v1256
          have tx3_1v1256 : Ti x3_1v1256 z2596 := by rw [ex3_1v1256]; exact t2597
          exact ih _ _ _ _ _ _  tx1 tx2 tx3_1v1256 hI (by omega) (by omega) (by omega) (by omega) (by omega)
        · replace c2595 := c_eq t2594 lit_0 c2595
          exact hp _ _ lit_0 
set_option maxHeartbeats 4000000 in
set_option maxRecDepth 100000 in
theorem sX10_tellsApart_2 {T D : Int} {k : Nat} {post : Int32 → Wd → Prop} {w : Wd}  (hp : ∀ (r : Int32) (zr : Int), Ti r zr → post r w) : ∀ (n : Nat) (x1 : Int32) (x2 : Int32) (zx1 : Int) (zx2 : Int), Ti x1 zx1 → Ti x2 zx2 → IX k T D w → (0 ≤ zx2 ∧ zx2 ≤ 24) → (25 - zx2) < (n : Int) → pX10_tellsApart_2   post  n x1 x2 w := by
  intro n
  induction n with
  | zero =>
    intro x1 x2 zx1 zx2  tx1 tx2 hI h0 hm
    exact absurd hm (by omega)
  | succ n ih =>
    intro x1 x2 zx1 zx2  tx1 tx2 hI h0 hm
    unfold pX10_tellsApart_2
    have hk := ix_k hI
    obtain ⟨z2599, t2600⟩ := t_any (w.1 160 0)
    have f2601 := ixg_c0 hI t2600
    refine ⟨fun c2602 => ?_, fun c2602 => ?_⟩
    · replace c2602 := c_le t2600 tx2 c2602
      exact hp _ _ lit_1 
    · replace c2602 := c_nle t2600 tx2 c2602
      exact ⟨70000, sX10_tellsApart_15 (M2 := (n : Int)) (hk2 := ih)  (hp := hp) 70000 _ _ _ _ _ _  tx1 tx2 lit_0 hI (by omega) (by omega) (by omega) (by omega) (by omega)⟩
set_option maxHeartbeats 4000000 in
set_option maxRecDepth 100000 in
theorem sX10_tellsApart {T D : Int} {k : Nat} {post : Int32 → Wd → Prop} {x1 : Int32} {zx1 : Int} {w : Wd}  (tx1 : Ti x1 zx1) (hI : IX k T D w)  (hp : ∀ (r : Int32) (zr : Int), Ti r zr → post r w) : pX10_tellsApart   post  x1 w := by
  unfold pX10_tellsApart
  have hk := ix_k hI
  exact ⟨70000, sX10_tellsApart_2   (hp := hp) 70000 _ _ _ _  tx1 lit_1 hI (by omega) (by omega)⟩
set_option maxHeartbeats 4000000 in
set_option maxRecDepth 100000 in
theorem sX4_lay {T D : Int} {k : Nat} {post : Wd → Prop} {x1 : Int32} {zx1 : Int} {w : Wd}  (tx1 : Ti x1 zx1) (hI : IX k T D w)  (hp : ∀ (w9 : Wd), IX k T D w9 → post w9) : pX4_lay   post  x1 w := by
  unfold pX4_lay
  have hk := ix_k hI
  obtain ⟨z2603, t2604⟩ := t_any (w.1 110 1)
  have f2605 := ixg_110_1 hI t2604
  refine ⟨fun c2606 => ?_, fun c2606 => ?_⟩
  · replace c2606 := c_lt t2604 lit_0 c2606
    exact hp  _   hI 
  · replace c2606 := c_nlt t2604 lit_0 c2606
    refine ⟨fun c2607 => ?_, fun c2607 => ?_⟩
    · replace c2607 := c_le lit_16 t2604 c2607
      exact hp  _   hI 
    · replace c2607 := c_nle lit_16 t2604 c2607
      refine ⟨vp_of t2604 (by omega) (by omega), ?_⟩
      intro w_3v1257 ew_3v1257
      have hIw_3v1257 := ixs_A hI ew_3v1257 (by decide)
      intro w_4v1258 ew_4v1258
      have t2608 : Ti (w_3v1257.1 110 1) z2603 := by rw [e1_A ew_3v1257]; exact t2604
      obtain ⟨z2609, t2610, f2611⟩ := t_add t2608 lit_1
      first | replace f2611 := f2611 (by omega) | clear f2611
      have hIw_4v1258 := ixs_110_1 hIw_3v1257 ew_4v1258 t2610 (by omega) (by omega)
      exact hp  _   hIw_4v1258 
set_option maxHeartbeats 4000000 in
set_option maxRecDepth 100000 in
theorem sX10_tell_64 {T D : Int} {k : Nat} {post : Int32 → Wd → Prop}   (hp : ∀ (r : Int32) (zr : Int) (w9 : Wd), Ti r zr → IX k T D w9 → post r w9) : ∀ (n : Nat) (x1 : Int32) (x2 : Int32) (x3 : Int32) (zx1 : Int) (zx2 : Int) (zx3 : Int) (w : Wd), Ti x1 zx1 → Ti x2 zx2 → Ti x3 zx3 → IX k T D w → (0 ≤ zx3 ∧ zx3 ≤ 12) → (13 - zx3) < (n : Int) → pX10_tell_64   post  n x1 x2 x3 w := by
  intro n
  induction n with
  | zero =>
    intro x1 x2 x3 zx1 zx2 zx3 w tx1 tx2 tx3 hI h0 hm
    exact absurd hm (by omega)
  | succ n ih =>
    intro x1 x2 x3 zx1 zx2 zx3 w tx1 tx2 tx3 hI h0 hm
    unfold pX10_tell_64
    have hk := ix_k hI
    obtain ⟨z2612, t2613⟩ := t_any (w.1 (rl (w.2.2.2.2 0)) 0)
    have f2614 := ixg_r0 hI t2613
    refine ⟨fun c2615 => ?_, fun c2615 => ?_⟩
    · replace c2615 := c_le t2613 tx3 c2615
      exact hp _ _ _  tx1 hI 
    · replace c2615 := c_nle t2613 tx3 c2615
      obtain ⟨z2616, t2617, f2618⟩ := t_and (x := (x2 >>> (x3 &&& 31))) lit_1 (by decide)
      refine ⟨fun c2619 => ?_, fun c2619 => ?_⟩
      · replace c2619 := c_eq t2617 lit_0 c2619
        unfold pX10_tell_91
        obtain ⟨z2620, t2621, f2622⟩ := t_add tx3 lit_1
        first | replace f2622 := f2622 (by omega) | clear f2622
        intro x3_1v1260 ex3_1v1260
        have tx3_1v1260 : Ti x3_1v1260 z2620 := by rw [ex3_1v1260]; exact t2621
        exact ih _ _ _ _ _ _ _ tx1 tx2 tx3_1v1260 hI (by omega) (by omega)
      · replace c2619 := c_neq t2617 lit_0 c2619
        refine sX4_lay   (hI := hI) (tx1 := tx3)  (hp := fun  w_3v1259   hIw_3v1259  => ?_)
        unfold pX10_tell_91
        obtain ⟨z2623, t2624, f2625⟩ := t_add tx3 lit_1
        first | replace f2625 := f2625 (by omega) | clear f2625
        intro x3_1v1261 ex3_1v1261
        have tx3_1v1261 : Ti x3_1v1261 z2623 := by rw [ex3_1v1261]; exact t2624
        exact ih _ _ _ _ _ _ _ tx1 tx2 tx3_1v1261 hIw_3v1259 (by omega) (by omega)
set_option maxHeartbeats 4000000 in
set_option maxRecDepth 100000 in
theorem sX10_tell_14 {T D : Int} {k : Nat} {post : Int32 → Wd → Prop}   (hp : ∀ (r : Int32) (zr : Int) (w9 : Wd), Ti r zr → IX k T D w9 → post r w9) : ∀ (n : Nat) (x1 : Int32) (x2 : Int32) (x3 : Int32) (zx1 : Int) (zx2 : Int) (zx3 : Int) (w : Wd), Ti x1 zx1 → Ti x2 zx2 → Ti x3 zx3 → IX k T D w → (0 ≤ zx3 ∧ zx3 ≤ 4096) → (4097 - zx3) < (n : Int) → pX10_tell_14   post  n x1 x2 x3 w := by
  intro n
  induction n with
  | zero =>
    intro x1 x2 x3 zx1 zx2 zx3 w tx1 tx2 tx3 hI h0 hm
    exact absurd hm (by omega)
  | succ n ih =>
    intro x1 x2 x3 zx1 zx2 zx3 w tx1 tx2 tx3 hI h0 hm
    unfold pX10_tell_14
    have hk := ix_k hI
    refine sX7_rows   (hI := hI)   (hp := fun r_1v1262 zr_1v1262 tr_1v1262 p2626 => ?_)
    refine ⟨fun c2627 => ?_, fun c2627 => ?_⟩
    · replace c2627 := c_le tr_1v1262 tx3 c2627
      intro w_4v1271 ew_4v1271
      have hIw_4v1271 := ixs_110_1 hI ew_4v1271 lit_0 (by omega) (by omega)
      exact ⟨70000, sX10_tell_64   (hp := hp) 70000 _ _ _ _ _ _ _ tx1 tx2 lit_0 hIw_4v1271 (by omega) (by omega)⟩
    · replace c2627 := c_nle tr_1v1262 tx3 c2627
      refine sJ6_bitCount_0f7a4   (hI := hI) (tx0 := tx3)  (hp := fun r_5v1272 zr_5v1272 tr_5v1272 p2628 => ?_)
      refine ⟨fun c2629 => ?_, fun c2629 => ?_⟩
      · replace c2629 := c_le tx1 tr_5v1272 c2629
        unfold pX10_tell_48
        obtain ⟨z2630, t2631, f2632⟩ := t_add tx3 lit_1
        first | replace f2632 := f2632 (by omega) | clear f2632
        intro x3_1v1282 ex3_1v1282
        have tx3_1v1282 : Ti x3_1v1282 z2630 := by rw [ex3_1v1282]; exact t2631
        exact ih _ _ _ _ _ _ _ tx1 tx2 tx3_1v1282 hI (by omega) (by omega)
      · replace c2629 := c_nle tx1 tr_5v1272 c2629
        refine sX10_tellsApart   (hI := hI) (tx1 := tx3)  (hp := fun r_8v1278 zr_8v1278 tr_8v1278 => ?_)
        refine ⟨fun c2633 => ?_, fun c2633 => ?_⟩
        · replace c2633 := c_eq tr_8v1278 lit_0 c2633
          unfold pX10_tell_48
          obtain ⟨z2634, t2635, f2636⟩ := t_add tx3 lit_1
          first | replace f2636 := f2636 (by omega) | clear f2636
          intro x3_1v1285 ex3_1v1285
          have tx3_1v1285 : Ti x3_1v1285 z2634 := by rw [ex3_1v1285]; exact t2635
          exact ih _ _ _ _ _ _ _ tx1 tx2 tx3_1v1285 hI (by omega) (by omega)
        · replace c2633 := c_neq tr_8v1278 lit_0 c2633
          refine sJ6_bitCount_0f7a4   (hI := hI) (tx0 := tx3)  (hp := fun r_11v1283 zr_11v1283 tr_11v1283 p2637 => ?_)
          unfold pX10_tell_48
          obtain ⟨z2638, t2639, f2640⟩ := t_add tx3 lit_1
          first | replace f2640 := f2640 (by omega) | clear f2640
          intro x3_1v1286 ex3_1v1286
          have tx3_1v1286 : Ti x3_1v1286 z2638 := by rw [ex3_1v1286]; exact t2639
          exact ih _ _ _ _ _ _ _ tr_11v1283 tx3 tx3_1v1286 hI (by omega) (by omega)
set_option maxHeartbeats 4000000 in
set_option maxRecDepth 100000 in
theorem sX10_tell {T D : Int} {k : Nat} {post : Int32 → Wd → Prop}  {w : Wd}   (hI : IX k T D w)  (hp : ∀ (r : Int32) (zr : Int) (w9 : Wd), Ti r zr → IX k T D w9 → post r w9) : pX10_tell   post   w := by
  unfold pX10_tell
  have hk := ix_k hI
  obtain ⟨z2641, t2642⟩ := t_any (w.1 (rl (w.2.2.2.2 0)) 0)
  have f2643 := ixg_r0 hI t2642
  obtain ⟨z2644, t2645, f2646⟩ := t_add t2642 lit_1
  first | replace f2646 := f2646 (by omega) | clear f2646
  intro x1_1v1287 ex1_1v1287
  have tx1_1v1287 : Ti x1_1v1287 z2644 := by rw [ex1_1v1287]; exact t2645
  exact ⟨70000, sX10_tell_14   (hp := hp) 70000 _ _ _ _ _ _ _ tx1_1v1287 lit_0 lit_0 hI (by omega) (by omega)⟩
set_option maxHeartbeats 4000000 in
set_option maxRecDepth 100000 in
theorem sX10_round_46 {T D : Int} {k : Nat} {post : Int32 → Wd → Prop}   (hp : ∀ (r : Int32) (zr : Int) (w9 : Wd), Ti r zr → IX k T D w9 → post r w9) : ∀ (n : Nat) (x4 : Int32) (x5 : Int32) (x6 : Int32) (x7 : Int32) (zx4 : Int) (zx5 : Int) (zx6 : Int) (zx7 : Int) (w : Wd), Ti x4 zx4 → Ti x5 zx5 → Ti x6 zx6 → Ti x7 zx7 → IX k T D w → (0 ≤ zx7 ∧ zx7 ≤ 4096) → (4097 - zx7) < (n : Int) → pX10_round_46   post  n x4 x5 x6 x7 w := by
  intro n
  induction n with
  | zero =>
    intro x4 x5 x6 x7 zx4 zx5 zx6 zx7 w tx4 tx5 tx6 tx7 hI h0 hm
    exact absurd hm (by omega)
  | succ n ih =>
    intro x4 x5 x6 x7 zx4 zx5 zx6 zx7 w tx4 tx5 tx6 tx7 hI h0 hm
    unfold pX10_round_46
    have hk := ix_k hI
    refine sX7_rows   (hI := hI)   (hp := fun r_1v1288 zr_1v1288 tr_1v1288 p2647 => ?_)
    refine ⟨fun c2648 => ?_, fun c2648 => ?_⟩
    · replace c2648 := c_le tr_1v1288 tx7 c2648
      refine ⟨fun c2649 => ?_, fun c2649 => ?_⟩
      · replace c2649 := c_eq tx4 lit_0 c2649
        exact hp _ _ _  tx6 hI 
      · replace c2649 := c_neq tx4 lit_0 c2649
        refine sX10_isRow   (hI := hI) (tx1 := tx5)  (hp := fun r_5v1294 zr_5v1294 tr_5v1294 p2650 => ?_)
        refine ⟨fun c2651 => ?_, fun c2651 => ?_⟩
        · replace c2651 := c_neq tr_5v1294 lit_0 c2651
          refine ⟨vp_of tx5 (by omega) (by omega), ?_⟩
          obtain ⟨z2652, t2653⟩ := t_any (w.2.1 13 x5.toNatClampNeg)
          obtain ⟨z2654, t2655, f2656⟩ := t_sub t2653 lit_1
          first | replace f2656 := f2656 (by omega) | clear f2656
          obtain ⟨z2657, t2658, f2659⟩ := t_sub tx6 t2655
          first | replace f2659 := f2659 (by omega) | clear f2659
          exact hp _ _ _  t2658 hI 
        · replace c2651 := c_eq tr_5v1294 lit_0 c2651
          exact hp _ _ _  tx6 hI 
    · replace c2648 := c_nle tr_1v1288 tx7 c2648
      refine ⟨vp_of tx7 (by omega) (by omega), ?_⟩
      obtain ⟨z2660, t2661⟩ := t_any (w.2.1 13 x7.toNatClampNeg)
      obtain ⟨z2662, t2663, f2664⟩ := t_ite tx6 t2661 t2661 tx6
      intro x6_8v1296 ex6_8v1296
      have tx6_8v1296 : Ti x6_8v1296 z2662 := by rw [ex6_8v1296]; exact t2663
      obtain ⟨z2665, t2666, f2667⟩ := t_add tx7 lit_1
      first | replace f2667 := f2667 (by omega) | clear f2667
      intro x7_9v1297 ex7_9v1297
      have tx7_9v1297 : Ti x7_9v1297 z2665 := by rw [ex7_9v1297]; exact t2666
      exact ih _ _ _ _ _ _ _ _ _ tx4 tx5 tx6_8v1296 tx7_9v1297 hI (by omega) (by omega)
set_option maxHeartbeats 4000000 in
set_option maxRecDepth 100000 in
theorem sX10_round {T D : Int} {k : Nat} {post : Int32 → Wd → Prop} {x1 : Int32} {zx1 : Int} {x2 : Int32} {zx2 : Int} {x3 : Int32} {zx3 : Int} {x4 : Int32} {zx4 : Int} {w : Wd}  (tx1 : Ti x1 zx1) (tx2 : Ti x2 zx2) (tx3 : Ti x3 zx3) (tx4 : Ti x4 zx4) (hI : IX k T D w)  (hp : ∀ (r : Int32) (zr : Int) (w9 : Wd), Ti r zr → IX k T D w9 → post r w9) : pX10_round   post  x1 x2 x3 x4 w := by
  unfold pX10_round
  have hk := ix_k hI
  refine sX10_canCast   (hI := hI) (tx1 := tx1) (tx2 := tx2) (tx3 := tx3)  (hp := fun r_1v1298 zr_1v1298 tr_1v1298 p2668 => ?_)
  refine ⟨fun c2669 => ?_, fun c2669 => ?_⟩
  · replace c2669 := c_eq tr_1v1298 lit_0 c2669
    exact hp _ _ _  lit_m1 hI 
  · replace c2669 := c_neq tr_1v1298 lit_0 c2669
    refine ⟨fun c2670 => ?_, fun c2670 => ?_⟩
    · replace c2670 := c_lt tx4 lit_0 c2670
      exact hp _ _ _  lit_m1 hI 
    · replace c2670 := c_nlt tx4 lit_0 c2670
      refine ⟨fun c2671 => ?_, fun c2671 => ?_⟩
      · replace c2671 := c_le tx4 lit_1 c2671
        refine ⟨vp_of tx1 (by omega) (by omega), ?_⟩
        obtain ⟨z2672, t2673⟩ := t_any (w.2.1 162 x1.toNatClampNeg)
        refine sX10_goRound   (hI := hI) (tx1 := t2673) (tx2 := tx2) (tx3 := tx3)  (hp := fun r_6v1302 zr_6v1302 w_7v1303  tr_6v1302 hIw_7v1303  => ?_)
        exact ⟨70000, sX10_round_46   (hp := hp) 70000 _ _ _ _ _ _ _ _ _ tx4 tr_6v1302 lit_0 lit_0 hIw_7v1303 (by omega) (by omega)⟩
      · replace c2671 := c_nle tx4 lit_1 c2671
        exact hp _ _ _  lit_m1 hI 
set_option maxHeartbeats 4000000 in
set_option maxRecDepth 100000 in
theorem sX10_steady_78 {T D : Int} {k : Nat} {post : Int32 → Wd → Prop}   (hp : ∀ (r : Int32) (zr : Int) (w9 : Wd), Ti r zr → IX k T D w9 → post r w9) : ∀ (n : Nat) (x3 : Int32) (x4 : Int32) (x5 : Int32) (x6 : Int32) (x7 : Int32) (zx3 : Int) (zx4 : Int) (zx5 : Int) (zx6 : Int) (zx7 : Int) (w : Wd), Ti x3 zx3 → Ti x4 zx4 → Ti x5 zx5 → Ti x6 zx6 → Ti x7 zx7 → IX k T D w → (0 ≤ zx7 ∧ zx7 ≤ 4096) → (4097 - zx7) < (n : Int) → pX10_steady_78   post  n x3 x4 x5 x6 x7 w := by
  intro n
  induction n with
  | zero =>
    intro x3 x4 x5 x6 x7 zx3 zx4 zx5 zx6 zx7 w tx3 tx4 tx5 tx6 tx7 hI h0 hm
    exact absurd hm (by omega)
  | succ n ih =>
    intro x3 x4 x5 x6 x7 zx3 zx4 zx5 zx6 zx7 w tx3 tx4 tx5 tx6 tx7 hI h0 hm
    unfold pX10_steady_78
    have hk := ix_k hI
    refine sX7_rows   (hI := hI)   (hp := fun r_1v1304 zr_1v1304 tr_1v1304 p2674 => ?_)
    refine ⟨fun c2675 => ?_, fun c2675 => ?_⟩
    · replace c2675 := c_le tr_1v1304 tx7 c2675
      refine ⟨fun c2676 => ?_, fun c2676 => ?_⟩
      · replace c2676 := c_neq tx3 lit_0 c2676
        exact hp _ _ _  tx6 hI 
      · replace c2676 := c_eq tx3 lit_0 c2676
        exact hp _ _ _  tx4 hI 
    · replace c2675 := c_nle tr_1v1304 tx7 c2675
      refine ⟨vp_of tx7 (by omega) (by omega), ?_⟩
      obtain ⟨z2677, t2678⟩ := t_any (w.2.1 13 x7.toNatClampNeg)
      refine sX10_isRow   (hI := hI) (tx1 := t2678)  (hp := fun r_5v1313 zr_5v1313 tr_5v1313 p2679 => ?_)
      refine ⟨fun c2680 => ?_, fun c2680 => ?_⟩
      · replace c2680 := c_eq tr_5v1313 lit_0 c2680
        unfold pX10_steady_145
        obtain ⟨z2681, t2682, f2683⟩ := t_add tx7 lit_1
        first | replace f2683 := f2683 (by omega) | clear f2683
        intro x7_1v1325 ex7_1v1325
        have tx7_1v1325 : Ti x7_1v1325 z2681 := by rw [ex7_1v1325]; exact t2682
        exact ih _ _ _ _ _ _ _ _ _ _ _ tx3 tx4 tx5 tx6 tx7_1v1325 hI (by omega) (by omega)
      · replace c2680 := c_neq tr_5v1313 lit_0 c2680
        refine ⟨vp_of tx7 (by omega) (by omega), ?_⟩
        refine ⟨vp_of t2678 (by omega) (by omega), ?_⟩
        obtain ⟨z2684, t2685⟩ := t_any (w.2.1 13 (w.2.1 13 x7.toNatClampNeg).toNatClampNeg)
        refine ⟨fun c2686 => ?_, fun c2686 => ?_⟩
        · replace c2686 := c_neq t2685 tx7 c2686
          unfold pX10_steady_145
          obtain ⟨z2687, t2688, f2689⟩ := t_add tx7 lit_1
          first | replace f2689 := f2689 (by omega) | clear f2689
          intro x7_1v1326 ex7_1v1326
          have tx7_1v1326 : Ti x7_1v1326 z2687 := by rw [ex7_1v1326]; exact t2688
          exact ih _ _ _ _ _ _ _ _ _ _ _ tx3 tx4 tx5 tx6 tx7_1v1326 hI (by omega) (by omega)
        · replace c2686 := c_eq t2685 tx7 c2686
          obtain ⟨z2690, t2691, f2692⟩ := t_add tx4 lit_1
          first | replace f2692 := f2692 (by omega) | clear f2692
          intro x4_9v1320 ex4_9v1320
          have tx4_9v1320 : Ti x4_9v1320 z2690 := by rw [ex4_9v1320]; exact t2691
          refine sJ6_bitCount_0f7a4   (hI := hI) (tx0 := tx7)  (hp := fun r_10v1321 zr_10v1321 tr_10v1321 p2693 => ?_)
          refine ⟨fun c2694 => ?_, fun c2694 => ?_⟩
          · replace c2694 := c_le tr_10v1321 tx5 c2694
            unfold pX10_steady_145
            obtain ⟨z2695, t2696, f2697⟩ := t_add tx7 lit_1
            first | replace f2697 := f2697 (by omega) | clear f2697
            intro x7_1v1329 ex7_1v1329
            have tx7_1v1329 : Ti x7_1v1329 z2695 := by rw [ex7_1v1329]; exact t2696
            exact ih _ _ _ _ _ _ _ _ _ _ _ tx3 tx4_9v1320 tx5 tx6 tx7_1v1329 hI (by omega) (by omega)
          · replace c2694 := c_nle tr_10v1321 tx5 c2694
            refine sJ6_bitCount_0f7a4   (hI := hI) (tx0 := tx7)  (hp := fun r_13v1327 zr_13v1327 tr_13v1327 p2698 => ?_)
            unfold pX10_steady_145
            obtain ⟨z2699, t2700, f2701⟩ := t_add tx7 lit_1
            first | replace f2701 := f2701 (by omega) | clear f2701
            intro x7_1v1330 ex7_1v1330
            have tx7_1v1330 : Ti x7_1v1330 z2699 := by rw [ex7_1v1330]; exact t2700
            exact ih _ _ _ _ _ _ _ _ _ _ _ tx3 tx4_9v1320 tr_13v1327 tx7 tx7_1v1330 hI (by omega) (by omega)
set_option maxHeartbeats 4000000 in
set_option maxRecDepth 100000 in
theorem sX10_steady_29 {T D : Int} {k : Nat} {post : Int32 → Wd → Prop}   (hp : ∀ (r : Int32) (zr : Int) (w9 : Wd), Ti r zr → IX k T D w9 → post r w9) : ∀ (n : Nat) (x1 : Int32) (x2 : Int32) (x3 : Int32) (x4 : Int32) (zx1 : Int) (zx2 : Int) (zx3 : Int) (zx4 : Int) (w : Wd), Ti x1 zx1 → Ti x2 zx2 → Ti x3 zx3 → Ti x4 zx4 → IX k T D w → (0 ≤ zx4 ∧ zx4 ≤ 4096) → (4097 - zx4) < (n : Int) → pX10_steady_29   post  n x1 x2 x3 x4 w := by
  intro n
  induction n with
  | zero =>
    intro x1 x2 x3 x4 zx1 zx2 zx3 zx4 w tx1 tx2 tx3 tx4 hI h0 hm
    exact absurd hm (by omega)
  | succ n ih =>
    intro x1 x2 x3 x4 zx1 zx2 zx3 zx4 w tx1 tx2 tx3 tx4 hI h0 hm
    unfold pX10_steady_29
    have hk := ix_k hI
    refine sX7_rows   (hI := hI)   (hp := fun r_1v1331 zr_1v1331 tr_1v1331 p2702 => ?_)
    refine ⟨fun c2703 => ?_, fun c2703 => ?_⟩
    · replace c2703 := c_le tr_1v1331 tx4 c2703
      exact ⟨70000, sX10_steady_78   (hp := hp) 70000 _ _ _ _ _ _ _ _ _ _ _ tx3 lit_0 lit_m1 lit_m1 lit_0 hI (by omega) (by omega)⟩
    · replace c2703 := c_nle tr_1v1331 tx4 c2703
      refine sX1_rowAfter   (hI := hI) (tx1 := tx4) (tx2 := tx1) (tx3 := tx2) (tx4 := lit_0)  (hp := fun r_4v1337 zr_4v1337 w_5v1338  tr_4v1337 hIw_5v1338  => ?_)
      refine ⟨vp_of tx4 (by omega) (by omega), ?_⟩
      intro w_6v1339 ew_6v1339
      have hIw_6v1339 := ixs_A hIw_5v1338 ew_6v1339 (by decide)
      obtain ⟨z2704, t2705, f2706⟩ := t_add tx4 lit_1
      first | replace f2706 := f2706 (by omega) | clear f2706
      intro x4_7v1340 ex4_7v1340
      have tx4_7v1340 : Ti x4_7v1340 z2704 := by rw [ex4_7v1340]; exact t2705
      exact ih _ _ _ _ _ _ _ _ _ tx1 tx2 tx3 tx4_7v1340 hIw_6v1339 (by omega) (by omega)
set_option maxHeartbeats 4000000 in
set_option maxRecDepth 100000 in
theorem sX10_steady {T D : Int} {k : Nat} {post : Int32 → Wd → Prop} {x1 : Int32} {zx1 : Int} {x2 : Int32} {zx2 : Int} {x3 : Int32} {zx3 : Int} {w : Wd}  (tx1 : Ti x1 zx1) (tx2 : Ti x2 zx2) (tx3 : Ti x3 zx3) (hI : IX k T D w)  (hp : ∀ (r : Int32) (zr : Int) (w9 : Wd), Ti r zr → IX k T D w9 → post r w9) : pX10_steady   post  x1 x2 x3 w := by
  unfold pX10_steady
  have hk := ix_k hI
  refine sX10_isHand   (hI := hI) (tx1 := tx1)  (hp := fun r_1v1341 zr_1v1341 tr_1v1341 p2707 => ?_)
  refine ⟨fun c2708 => ?_, fun c2708 => ?_⟩
  · replace c2708 := c_eq tr_1v1341 lit_0 c2708
    exact hp _ _ _  lit_m1 hI 
  · replace c2708 := c_neq tr_1v1341 lit_0 c2708
    refine sX10_isHeat   (hI := hI) (tx0 := tx2)  (hp := fun r_4v1345 zr_4v1345 tr_4v1345 p2709 => ?_)
    refine ⟨fun c2710 => ?_, fun c2710 => ?_⟩
    · replace c2710 := c_eq tr_4v1345 lit_0 c2710
      exact hp _ _ _  lit_m1 hI 
    · replace c2710 := c_neq tr_4v1345 lit_0 c2710
      refine ⟨fun c2711 => ?_, fun c2711 => ?_⟩
      · replace c2711 := c_lt tx3 lit_0 c2711
        exact hp _ _ _  lit_m1 hI 
      · replace c2711 := c_nlt tx3 lit_0 c2711
        refine ⟨fun c2712 => ?_, fun c2712 => ?_⟩
        · replace c2712 := c_le tx3 lit_1 c2712
          exact ⟨70000, sX10_steady_29   (hp := hp) 70000 _ _ _ _ _ _ _ _ _ tx1 tx2 tx3 lit_0 hI (by omega) (by omega)⟩
        · replace c2712 := c_nle tx3 lit_1 c2712
          exact hp _ _ _  lit_m1 hI 
set_option maxHeartbeats 4000000 in
set_option maxRecDepth 100000 in
theorem sX10_against_31 {T D : Int} {k : Nat} {post : Int32 → Wd → Prop}   (hp : ∀ (r : Int32) (zr : Int) (w9 : Wd), Ti r zr → IX k T D w9 → post r w9) : ∀ (n : Nat) (x1 : Int32) (x2 : Int32) (x3 : Int32) (x4 : Int32) (x5 : Int32) (zx1 : Int) (zx2 : Int) (zx3 : Int) (zx4 : Int) (zx5 : Int) (w : Wd), Ti x1 zx1 → Ti x2 zx2 → Ti x3 zx3 → Ti x4 zx4 → Ti x5 zx5 → IX k T D w → (0 ≤ zx5 ∧ zx5 ≤ 4096) → (4097 - zx5) < (n : Int) → pX10_against_31   post  n x1 x2 x3 x4 x5 w := by
  intro n
  induction n with
  | zero =>
    intro x1 x2 x3 x4 x5 zx1 zx2 zx3 zx4 zx5 w tx1 tx2 tx3 tx4 tx5 hI h0 hm
    exact absurd hm (by omega)
  | succ n ih =>
    intro x1 x2 x3 x4 x5 zx1 zx2 zx3 zx4 zx5 w tx1 tx2 tx3 tx4 tx5 hI h0 hm
    unfold pX10_against_31
    have hk := ix_k hI
    refine sX7_rows   (hI := hI)   (hp := fun r_1v1347 zr_1v1347 tr_1v1347 p2713 => ?_)
    refine ⟨fun c2714 => ?_, fun c2714 => ?_⟩
    · replace c2714 := c_le tr_1v1347 tx5 c2714
      exact hp _ _ _  tx4 hI 
    · replace c2714 := c_nle tr_1v1347 tx5 c2714
      refine sX1_rowAfter   (hI := hI) (tx1 := tx5) (tx2 := tx1) (tx3 := tx3) (tx4 := lit_0)  (hp := fun r_4v1354 zr_4v1354 w_5v1355  tr_4v1354 hIw_5v1355  => ?_)
      refine sX1_rowAfter   (hI := hIw_5v1355) (tx1 := tx5) (tx2 := tx2) (tx3 := tx3) (tx4 := lit_0)  (hp := fun r_6v1356 zr_6v1356 w_7v1357  tr_6v1356 hIw_7v1357  => ?_)
      refine ⟨fun c2715 => ?_, fun c2715 => ?_⟩
      · replace c2715 := c_eq tr_4v1354 tr_6v1356 c2715
        unfold pX10_against_73
        obtain ⟨z2716, t2717, f2718⟩ := t_add tx5 lit_1
        first | replace f2718 := f2718 (by omega) | clear f2718
        intro x5_1v1359 ex5_1v1359
        have tx5_1v1359 : Ti x5_1v1359 z2716 := by rw [ex5_1v1359]; exact t2717
        exact ih _ _ _ _ _ _ _ _ _ _ _ tx1 tx2 tx3 tx4 tx5_1v1359 hIw_7v1357 (by omega) (by omega)
      · replace c2715 := c_neq tr_4v1354 tr_6v1356 c2715
        obtain ⟨z2719, t2720, f2721⟩ := t_add tx4 lit_1
        first | replace f2721 := f2721 (by omega) | clear f2721
        intro x4_9v1358 ex4_9v1358
        have tx4_9v1358 : Ti x4_9v1358 z2719 := by rw [ex4_9v1358]; exact t2720
        unfold pX10_against_73
        obtain ⟨z2722, t2723, f2724⟩ := t_add tx5 lit_1
        first | replace f2724 := f2724 (by omega) | clear f2724
        intro x5_1v1360 ex5_1v1360
        have tx5_1v1360 : Ti x5_1v1360 z2722 := by rw [ex5_1v1360]; exact t2723
        exact ih _ _ _ _ _ _ _ _ _ _ _ tx1 tx2 tx3 tx4_9v1358 tx5_1v1360 hIw_7v1357 (by omega) (by omega)
set_option maxHeartbeats 4000000 in
set_option maxRecDepth 100000 in
theorem sX10_against {T D : Int} {k : Nat} {post : Int32 → Wd → Prop} {x1 : Int32} {zx1 : Int} {x2 : Int32} {zx2 : Int} {x3 : Int32} {zx3 : Int} {w : Wd}  (tx1 : Ti x1 zx1) (tx2 : Ti x2 zx2) (tx3 : Ti x3 zx3) (hI : IX k T D w)  (hp : ∀ (r : Int32) (zr : Int) (w9 : Wd), Ti r zr → IX k T D w9 → post r w9) : pX10_against   post  x1 x2 x3 w := by
  unfold pX10_against
  have hk := ix_k hI
  refine sX10_isHand   (hI := hI) (tx1 := tx1)  (hp := fun r_1v1361 zr_1v1361 tr_1v1361 p2725 => ?_)
  refine ⟨fun c2726 => ?_, fun c2726 => ?_⟩
  · replace c2726 := c_eq tr_1v1361 lit_0 c2726
    exact hp _ _ _  lit_m1 hI 
  · replace c2726 := c_neq tr_1v1361 lit_0 c2726
    refine sX10_isHand   (hI := hI) (tx1 := tx2)  (hp := fun r_4v1367 zr_4v1367 tr_4v1367 p2727 => ?_)
    refine ⟨fun c2728 => ?_, fun c2728 => ?_⟩
    · replace c2728 := c_eq tr_4v1367 lit_0 c2728
      exact hp _ _ _  lit_m1 hI 
    · replace c2728 := c_neq tr_4v1367 lit_0 c2728
      refine sX10_isHeat   (hI := hI) (tx0 := tx3)  (hp := fun r_7v1371 zr_7v1371 tr_7v1371 p2729 => ?_)
      refine ⟨fun c2730 => ?_, fun c2730 => ?_⟩
      · replace c2730 := c_neq tr_7v1371 lit_0 c2730
        exact ⟨70000, sX10_against_31   (hp := hp) 70000 _ _ _ _ _ _ _ _ _ _ _ tx1 tx2 tx3 lit_0 lit_0 hI (by omega) (by omega)⟩
      · replace c2730 := c_eq tr_7v1371 lit_0 c2730
        exact hp _ _ _  lit_m1 hI 
set_option maxHeartbeats 4000000 in
set_option maxRecDepth 100000 in
theorem sX1_handCount {T D : Int} {k : Nat} {post : Int32 → Wd → Prop}  {w : Wd}   (hI : IX k T D w)  (hp : ∀ (r : Int32) (zr : Int), Ti r zr → (0 ≤ zr ∧ zr ≤ 4) → post r w) : pX1_handCount   post   w := by
  unfold pX1_handCount
  have hk := ix_k hI
  obtain ⟨z2731, t2732⟩ := t_any (w.1 (rl (w.2.2.2.2 3)) 2)
  have f2733 := ixg_r2 hI t2732
  exact hp _ _ t2732 (by omega)
set_option maxHeartbeats 4000000 in
set_option maxRecDepth 100000 in
theorem sX1_isHeatUsed {T D : Int} {k : Nat} {post : Int32 → Wd → Prop} {x1 : Int32} {zx1 : Int} {w : Wd}  (tx1 : Ti x1 zx1) (hI : IX k T D w)  (hp : ∀ (r : Int32) (zr : Int), Ti r zr → ((zr = 0 ∨ zr = 1)) → post r w) : pX1_isHeatUsed   post  x1 w := by
  unfold pX1_isHeatUsed
  have hk := ix_k hI
  refine sX7_isUsed   (hI := hI) (tx1 := tx1) (tx2 := lit_6)  (hp := fun r_1v1373 zr_1v1373 tr_1v1373 p2734 => ?_)
  refine ⟨nar_ok tr_1v1373 (by omega), ?_⟩
  exact hp _ _ tr_1v1373 (by omega)
set_option maxHeartbeats 4000000 in
set_option maxRecDepth 100000 in
theorem sX9_heatsOf {T D : Int} {k : Nat} {post : Int32 → Wd → Prop} {x1 : Int32} {zx1 : Int} {w : Wd}  (tx1 : Ti x1 zx1) (hI : IX k T D w)  (hp : ∀ (r : Int32) (zr : Int), Ti r zr → (0 ≤ zr ∧ zr ≤ 4) → post r w) : pX9_heatsOf   post  x1 w := by
  unfold pX9_heatsOf
  have hk := ix_k hI
  refine sX1_isHeatUsed   (hI := hI) (tx1 := tx1)  (hp := fun r_1v1375 zr_1v1375 tr_1v1375 p2735 => ?_)
  refine ⟨fun c2736 => ?_, fun c2736 => ?_⟩
  · replace c2736 := c_eq tr_1v1375 lit_0 c2736
    exact hp _ _ lit_1 (by omega)
  · replace c2736 := c_neq tr_1v1375 lit_0 c2736
    exact hp _ _ lit_4 (by omega)
set_option maxHeartbeats 4000000 in
set_option maxRecDepth 100000 in
theorem sX9_waxFrom_112 {T D : Int} {k : Nat} {k97 : Int32 → Int32 → Int32 → Int32 → Int32 → Int32 → Wd → Prop} {M97 : Int} {qX9_waxFrom : (Int32 → Wd → Prop) → Int32 → Int32 → Wd → Prop} {Mq : Int} {post : Int32 → Wd → Prop}  (hk97 : ∀ (x1 : Int32) (x2 : Int32) (x3 : Int32) (x4 : Int32) (x5 : Int32) (x6 : Int32) (zx1 : Int) (zx2 : Int) (zx3 : Int) (zx4 : Int) (zx5 : Int) (zx6 : Int) (w : Wd), Ti x1 zx1 → Ti x2 zx2 → Ti x3 zx3 → Ti x4 zx4 → Ti x5 zx5 → Ti x6 zx6 → IX k T D w → (0 ≤ zx6 ∧ zx6 ≤ 4) → ((zx4 = 0 ∨ (0 ≤ zx3 ∧ zx3 < 12288))) → (1 ≤ zx2 ∧ zx2 ≤ 4) → (zx2 + 1 ≤ Mq) → (5 - zx6) < M97 → k97 x1 x2 x3 x4 x5 x6 w) (hqX9_waxFrom : ∀ (post : Int32 → Wd → Prop) (x1 : Int32) (x2 : Int32) (zx1 : Int) (zx2 : Int) (w : Wd), Ti x1 zx1 → Ti x2 zx2 → IX k T D w → (-1 ≤ zx2 ∧ zx2 ≤ 4) → (zx2 + 1) < Mq → (∀ (r : Int32) (zr : Int) (w9 : Wd), Ti r zr → IX k T D w9 → post r w9) → qX9_waxFrom post x1 x2 w) (hp : ∀ (r : Int32) (zr : Int) (w9 : Wd), Ti r zr → IX k T D w9 → post r w9) : ∀ (n : Nat) (x1 : Int32) (x2 : Int32) (x3 : Int32) (x4 : Int32) (x5 : Int32) (x6 : Int32) (x7 : Int32) (zx1 : Int) (zx2 : Int) (zx3 : Int) (zx4 : Int) (zx5 : Int) (zx6 : Int) (zx7 : Int) (w : Wd), Ti x1 zx1 → Ti x2 zx2 → Ti x3 zx3 → Ti x4 zx4 → Ti x5 zx5 → Ti x6 zx6 → Ti x7 zx7 → IX k T D w → (0 ≤ zx7 ∧ zx7 ≤ 4) → (zx6 ≤ 3) → (0 ≤ zx6 ∧ zx6 ≤ 4) → ((zx4 = 0 ∨ (0 ≤ zx3 ∧ zx3 < 12288))) → (1 ≤ zx2 ∧ zx2 ≤ 4) → ((5 - zx6) ≤ M97) → (zx2 + 1 ≤ Mq) → (5 - zx7) < (n : Int) → pX9_waxFrom_112 k97 qX9_waxFrom post  n x1 x2 x3 x4 x5 x6 x7 w := by
  intro n
  induction n with
  | zero =>
    intro x1 x2 x3 x4 x5 x6 x7 zx1 zx2 zx3 zx4 zx5 zx6 zx7 w tx1 tx2 tx3 tx4 tx5 tx6 tx7 hI h0 h1 h2 h3 h4 h5 h6 hm
    exact absurd hm (by omega)
  | succ n ih =>
    intro x1 x2 x3 x4 x5 x6 x7 zx1 zx2 zx3 zx4 zx5 zx6 zx7 w tx1 tx2 tx3 tx4 tx5 tx6 tx7 hI h0 h1 h2 h3 h4 h5 h6 hm
    unfold pX9_waxFrom_112
    have hk := ix_k hI
    refine sX9_heatsOf   (hI := hI) (tx1 := tx6)  (hp := fun r_1v1377 zr_1v1377 tr_1v1377 p2737 => ?_)
    refine ⟨fun c2738 => ?_, fun c2738 => ?_⟩
    · replace c2738 := c_le tr_1v1377 tx7 c2738
      unfold pX9_waxFrom_174
      obtain ⟨z2739, t2740, f2741⟩ := t_add tx6 lit_1
      first | replace f2741 := f2741 (by omega) | clear f2741
      intro x6_1v1391 ex6_1v1391
      have tx6_1v1391 : Ti x6_1v1391 z2739 := by rw [ex6_1v1391]; exact t2740
      exact hk97 _ _ _ _ _ _ _ _ _ _ _ _ _ tx1 tx2 tx3 tx4 tx5 tx6_1v1391 hI (by omega) (by omega) (by omega) (by omega) (by omega)
    · replace c2738 := c_nle tr_1v1377 tx7 c2738
      obtain ⟨z2742, t2743, f2744⟩ := t_add lit_1 tx7
      first | replace f2744 := f2744 (by omega) | clear f2744
      refine ⟨fun c2745 => ?_, fun c2745 => ?_⟩
      · replace c2745 := c_le tx5 t2743 c2745
        unfold pX9_waxFrom_174
        obtain ⟨z2746, t2747, f2748⟩ := t_add tx6 lit_1
        first | replace f2748 := f2748 (by omega) | clear f2748
        intro x6_1v1392 ex6_1v1392
        have tx6_1v1392 : Ti x6_1v1392 z2746 := by rw [ex6_1v1392]; exact t2747
        exact hk97 _ _ _ _ _ _ _ _ _ _ _ _ _ tx1 tx2 tx3 tx4 tx5 tx6_1v1392 hI (by omega) (by omega) (by omega) (by omega) (by omega)
      · replace c2745 := c_nle tx5 t2743 c2745
        refine sX1_rowAfter   (hI := hI) (tx1 := tx1) (tx2 := tx6) (tx3 := tx7) (tx4 := lit_0)  (hp := fun r_5v1385 zr_5v1385 w_6v1386  tr_5v1385 hIw_6v1386  => ?_)
        obtain ⟨z2749, t2750, f2751⟩ := t_sub tx2 lit_1
        first | replace f2751 := f2751 (by omega) | clear f2751
        refine hqX9_waxFrom _ _ _ _ _ _ tr_5v1385 t2750 hIw_6v1386 (by omega) (by omega) (fun r_7v1387 zr_7v1387 w_8v1388  tr_7v1387 hIw_8v1388  => ?_)
        obtain ⟨z2752, t2753, f2754⟩ := t_add t2743 tr_7v1387
        first | replace f2754 := f2754 (by omega) | clear f2754
        obtain ⟨z2755, t2756, f2757⟩ := t_ite t2753 tx5 t2753 tx5
        intro x5_9v1389 ex5_9v1389
        have tx5_9v1389 : Ti x5_9v1389 z2755 := by rw [ex5_9v1389]; exact t2756
        obtain ⟨z2758, t2759, f2760⟩ := t_add tx7 lit_1
        first | replace f2760 := f2760 (by omega) | clear f2760
        intro x7_10v1390 ex7_10v1390
        have tx7_10v1390 : Ti x7_10v1390 z2758 := by rw [ex7_10v1390]; exact t2759
        exact ih _ _ _ _ _ _ _ _ _ _ _ _ _ _ _ tx1 tx2 tx3 tx4 tx5_9v1389 tx6 tx7_10v1390 hIw_8v1388 (by omega) (by omega) (by omega) (by omega) (by omega) (by omega) (by omega) (by omega)
set_option maxHeartbeats 4000000 in
set_option maxRecDepth 100000 in
theorem sX9_waxFrom_97 {T D : Int} {k : Nat} {qX9_waxFrom : (Int32 → Wd → Prop) → Int32 → Int32 → Wd → Prop} {Mq : Int} {post : Int32 → Wd → Prop}  (hqX9_waxFrom : ∀ (post : Int32 → Wd → Prop) (x1 : Int32) (x2 : Int32) (zx1 : Int) (zx2 : Int) (w : Wd), Ti x1 zx1 → Ti x2 zx2 → IX k T D w → (-1 ≤ zx2 ∧ zx2 ≤ 4) → (zx2 + 1) < Mq → (∀ (r : Int32) (zr : Int) (w9 : Wd), Ti r zr → IX k T D w9 → post r w9) → qX9_waxFrom post x1 x2 w) (hp : ∀ (r : Int32) (zr : Int) (w9 : Wd), Ti r zr → IX k T D w9 → post r w9) : ∀ (n : Nat) (x1 : Int32) (x2 : Int32) (x3 : Int32) (x4 : Int32) (x5 : Int32) (x6 : Int32) (zx1 : Int) (zx2 : Int) (zx3 : Int) (zx4 : Int) (zx5 : Int) (zx6 : Int) (w : Wd), Ti x1 zx1 → Ti x2 zx2 → Ti x3 zx3 → Ti x4 zx4 → Ti x5 zx5 → Ti x6 zx6 → IX k T D w → (0 ≤ zx6 ∧ zx6 ≤ 4) → ((zx4 = 0 ∨ (0 ≤ zx3 ∧ zx3 < 12288))) → (1 ≤ zx2 ∧ zx2 ≤ 4) → (zx2 + 1 ≤ Mq) → (5 - zx6) < (n : Int) → pX9_waxFrom_97  qX9_waxFrom post  n x1 x2 x3 x4 x5 x6 w := by
  intro n
  induction n with
  | zero =>
    intro x1 x2 x3 x4 x5 x6 zx1 zx2 zx3 zx4 zx5 zx6 w tx1 tx2 tx3 tx4 tx5 tx6 hI h0 h1 h2 h3 hm
    exact absurd hm (by omega)
  | succ n ih =>
    intro x1 x2 x3 x4 x5 x6 zx1 zx2 zx3 zx4 zx5 zx6 w tx1 tx2 tx3 tx4 tx5 tx6 hI h0 h1 h2 h3 hm
    unfold pX9_waxFrom_97
    have hk := ix_k hI
    refine sX1_handCount   (hI := hI)   (hp := fun r_1v1393 zr_1v1393 tr_1v1393 p2761 => ?_)
    refine ⟨fun c2762 => ?_, fun c2762 => ?_⟩
    · replace c2762 := c_le tr_1v1393 tx6 c2762
      refine ⟨fun c2763 => ?_, fun c2763 => ?_⟩
      · replace c2763 := c_eq tx4 lit_0 c2763
        exact hp _ _ _  tx5 hI 
      · replace c2763 := c_neq tx4 lit_0 c2763
        refine ⟨vp_of tx3 (by omega) (by omega), ?_⟩
        intro w_5v1396 ew_5v1396
        have hIw_5v1396 := ixs_A hI ew_5v1396 (by decide)
        exact hp _ _ _  tx5 hIw_5v1396 
    · replace c2762 := c_nle tr_1v1393 tx6 c2762
      exact ⟨70000, sX9_waxFrom_112 (M97 := (n : Int)) (hk97 := ih) (hqX9_waxFrom := hqX9_waxFrom) (hp := hp) 70000 _ _ _ _ _ _ _ _ _ _ _ _ _ _ _ tx1 tx2 tx3 tx4 tx5 tx6 lit_0 hI (by omega) (by omega) (by omega) (by omega) (by omega) (by omega) (by omega) (by omega)⟩
set_option maxHeartbeats 4000000 in
set_option maxRecDepth 100000 in
theorem sX9_waxFrom {T D : Int} {k : Nat} {qX9_waxFrom : (Int32 → Wd → Prop) → Int32 → Int32 → Wd → Prop} {Mq : Int} {post : Int32 → Wd → Prop} {x1 : Int32} {zx1 : Int} {x2 : Int32} {zx2 : Int} {w : Wd} (hqX9_waxFrom : ∀ (post : Int32 → Wd → Prop) (x1 : Int32) (x2 : Int32) (zx1 : Int) (zx2 : Int) (w : Wd), Ti x1 zx1 → Ti x2 zx2 → IX k T D w → (-1 ≤ zx2 ∧ zx2 ≤ 4) → (zx2 + 1) < Mq → (∀ (r : Int32) (zr : Int) (w9 : Wd), Ti r zr → IX k T D w9 → post r w9) → qX9_waxFrom post x1 x2 w) (tx1 : Ti x1 zx1) (tx2 : Ti x2 zx2) (hI : IX k T D w) (h0 : -1 ≤ zx2 ∧ zx2 ≤ 4) (h1 : (zx2 + 1) ≤ Mq) (hp : ∀ (r : Int32) (zr : Int) (w9 : Wd), Ti r zr → IX k T D w9 → post r w9) : pX9_waxFrom  qX9_waxFrom post  x1 x2 w := by
  unfold pX9_waxFrom
  have hk := ix_k hI
  obtain ⟨z2764, t2765⟩ := t_any (w.1 60 3)
  refine ⟨fun c2766 => ?_, fun c2766 => ?_⟩
  · replace c2766 := c_neq tx1 t2765 c2766
    refine ⟨fun c2767 => ?_, fun c2767 => ?_⟩
    · replace c2767 := c_le tx2 lit_0 c2767
      exact hp _ _ _  lit_1000 hI 
    · replace c2767 := c_nle tx2 lit_0 c2767
      refine ⟨fun c2768 => ?_, fun c2768 => ?_⟩
      · replace c2768 := c_lt lit_4 tx2 c2768
        exact hp _ _ _  lit_1000 hI 
      · replace c2768 := c_nlt lit_4 tx2 c2768
        refine ⟨fun c2769 => ?_, fun c2769 => ?_⟩
        · replace c2769 := c_lt tx1 lit_0 c2769
          exact hp _ _ _  lit_1000 hI 
        · replace c2769 := c_nlt tx1 lit_0 c2769
          obtain ⟨z2770, t2771⟩ := t_any (w.1 60 4)
          have f2772 := ixg_60_4 hI t2771
          refine ⟨fun c2773 => ?_, fun c2773 => ?_⟩
          · replace c2773 := c_lt tx1 t2771 c2773
            obtain ⟨z2774, t2775, f2776⟩ := t_sub tx2 lit_1
            first | replace f2776 := f2776 (by omega) | clear f2776
            obtain ⟨z2777, t2778, f2779⟩ := t_mulv t2775 t2771
            first | replace f2779 := f2779 (by omega) | clear f2779
            obtain ⟨z2780, t2781, f2782⟩ := t_add t2778 tx1
            first | replace f2782 := f2782 (by omega) | clear f2782
            intro x3_6v1397 ex3_6v1397
            have tx3_6v1397 : Ti x3_6v1397 z2780 := by rw [ex3_6v1397]; exact t2781
            refine ⟨fun c2783 => ?_, fun c2783 => ?_⟩
            · replace c2783 := c_le lit_4 tx2 c2783
              unfold pX9_waxFrom_64
              unfold pX9_waxFrom_65
              refine ⟨fun c2784 => ?_, fun c2784 => ?_⟩
              · replace c2784 := c_eq lit_0 lit_0 c2784
                unfold pX9_waxFrom_89
                exact ⟨70000, sX9_waxFrom_97  (hqX9_waxFrom := hqX9_waxFrom) (hp := hp) 70000 _ _ _ _ _ _ _ _ _ _ _ _ _ tx1 tx2 tx3_6v1397 lit_0 lit_1000 lit_0 hI (by omega) (by omega) (by omega) (by omega) (by omega)⟩
              · replace c2784 := c_neq lit_0 lit_0 c2784
                refine ⟨vp_of tx3_6v1397 (by omega) (by omega), ?_⟩
                obtain ⟨z2785, t2786⟩ := t_any (w.2.1 63 x3_6v1397.toNatClampNeg)
                refine ⟨fun c2787 => ?_, fun c2787 => ?_⟩
                · replace c2787 := c_eq t2786 lit_m1 c2787
                  unfold pX9_waxFrom_89
                  exact ⟨70000, sX9_waxFrom_97  (hqX9_waxFrom := hqX9_waxFrom) (hp := hp) 70000 _ _ _ _ _ _ _ _ _ _ _ _ _ tx1 tx2 tx3_6v1397 lit_0 lit_1000 lit_0 hI (by omega) (by omega) (by omega) (by omega) (by omega)⟩
                · replace c2787 := c_neq t2786 lit_m1 c2787
                  refine ⟨vp_of tx3_6v1397 (by omega) (by omega), ?_⟩
                  exact hp _ _ _  t2786 hI 
            · replace c2783 := c_nle lit_4 tx2 c2783
              refine ⟨fun c2788 => ?_, fun c2788 => ?_⟩
              · replace c2788 := c_le lit_12288 tx3_6v1397 c2788
                unfold pX9_waxFrom_64
                unfold pX9_waxFrom_65
                refine ⟨fun c2789 => ?_, fun c2789 => ?_⟩
                · replace c2789 := c_eq lit_0 lit_0 c2789
                  unfold pX9_waxFrom_89
                  exact ⟨70000, sX9_waxFrom_97  (hqX9_waxFrom := hqX9_waxFrom) (hp := hp) 70000 _ _ _ _ _ _ _ _ _ _ _ _ _ tx1 tx2 tx3_6v1397 lit_0 lit_1000 lit_0 hI (by omega) (by omega) (by omega) (by omega) (by omega)⟩
                · replace c2789 := c_neq lit_0 lit_0 c2789
                  refine ⟨vp_of tx3_6v1397 (by omega) (by omega), ?_⟩
                  obtain ⟨z2790, t2791⟩ := t_any (w.2.1 63 x3_6v1397.toNatClampNeg)
                  refine ⟨fun c2792 => ?_, fun c2792 => ?_⟩
                  · replace c2792 := c_eq t2791 lit_m1 c2792
                    unfold pX9_waxFrom_89
                    exact ⟨70000, sX9_waxFrom_97  (hqX9_waxFrom := hqX9_waxFrom) (hp := hp) 70000 _ _ _ _ _ _ _ _ _ _ _ _ _ tx1 tx2 tx3_6v1397 lit_0 lit_1000 lit_0 hI (by omega) (by omega) (by omega) (by omega) (by omega)⟩
                  · replace c2792 := c_neq t2791 lit_m1 c2792
                    refine ⟨vp_of tx3_6v1397 (by omega) (by omega), ?_⟩
                    exact hp _ _ _  t2791 hI 
              · replace c2788 := c_nle lit_12288 tx3_6v1397 c2788
                unfold pX9_waxFrom_65
                refine ⟨fun c2793 => ?_, fun c2793 => ?_⟩
                · replace c2793 := c_eq lit_1 lit_0 c2793
                  unfold pX9_waxFrom_89
                  exact ⟨70000, sX9_waxFrom_97  (hqX9_waxFrom := hqX9_waxFrom) (hp := hp) 70000 _ _ _ _ _ _ _ _ _ _ _ _ _ tx1 tx2 tx3_6v1397 lit_1 lit_1000 lit_0 hI (by omega) (by omega) (by omega) (by omega) (by omega)⟩
                · replace c2793 := c_neq lit_1 lit_0 c2793
                  refine ⟨vp_of tx3_6v1397 (by omega) (by omega), ?_⟩
                  obtain ⟨z2794, t2795⟩ := t_any (w.2.1 63 x3_6v1397.toNatClampNeg)
                  refine ⟨fun c2796 => ?_, fun c2796 => ?_⟩
                  · replace c2796 := c_eq t2795 lit_m1 c2796
                    unfold pX9_waxFrom_89
                    exact ⟨70000, sX9_waxFrom_97  (hqX9_waxFrom := hqX9_waxFrom) (hp := hp) 70000 _ _ _ _ _ _ _ _ _ _ _ _ _ tx1 tx2 tx3_6v1397 lit_1 lit_1000 lit_0 hI (by omega) (by omega) (by omega) (by omega) (by omega)⟩
                  · replace c2796 := c_neq t2795 lit_m1 c2796
                    refine ⟨vp_of tx3_6v1397 (by omega) (by omega), ?_⟩
                    exact hp _ _ _  t2795 hI 
          · replace c2773 := c_nlt tx1 t2771 c2773
            exact hp _ _ _  lit_1000 hI 
  · replace c2766 := c_eq tx1 t2765 c2766
    exact hp _ _ _  lit_0 hI 
theorem sd9X9_waxFrom {T D : Int} {k : Nat} : ∀ (d : Nat) (post : Int32 → Wd → Prop) (x1 : Int32) (x2 : Int32) (zx1 : Int) (zx2 : Int) (w : Wd), Ti x1 zx1 → Ti x2 zx2 → IX k T D w → (-1 ≤ zx2 ∧ zx2 ≤ 4) → (zx2 + 1) < (d : Int) → (∀ (r : Int32) (zr : Int) (w9 : Wd), Ti r zr → IX k T D w9 → post r w9) → d9X9_waxFrom d post x1 x2 w := by
  intro d
  induction d with
  | zero =>
    intro post x1 x2 zx1 zx2 w tx1 tx2 hI h0 hm hp
    exact absurd hm (by omega)
  | succ d ih =>
    intro post x1 x2 zx1 zx2 w tx1 tx2 hI h0 hm hp
    show pX9_waxFrom (d9X9_waxFrom d) post x1 x2 w
    exact sX9_waxFrom (Mq := (d : Int)) (hqX9_waxFrom := ih) (hI := hI) (tx1 := tx1) (tx2 := tx2) (h0 := h0) (h1 := (by omega)) (hp := hp)
theorem sdX9_waxFrom {T D : Int} {k : Nat} {d : Nat} {post : Int32 → Wd → Prop} {x1 : Int32} {zx1 : Int} {x2 : Int32} {zx2 : Int} {w : Wd} (tx1 : Ti x1 zx1) (tx2 : Ti x2 zx2) (hI : IX k T D w) (h0 : -1 ≤ zx2 ∧ zx2 ≤ 4) (hm : (zx2 + 1) < (d : Int)) (hp : ∀ (r : Int32) (zr : Int) (w9 : Wd), Ti r zr → IX k T D w9 → post r w9) : dX9_waxFrom d post x1 x2 w := sd9X9_waxFrom d post x1 x2 zx1 zx2 w tx1 tx2 hI h0 hm hp
set_option maxHeartbeats 4000000 in
set_option maxRecDepth 100000 in
theorem sX9_firstStep_18 {T D : Int} {k : Nat} {k3 : Int32 → Int32 → Int32 → Int32 → Wd → Prop} {M3 : Int} {post : Int32 → Wd → Prop}  (hk3 : ∀ (x1 : Int32) (x2 : Int32) (x3 : Int32) (x4 : Int32) (zx1 : Int) (zx2 : Int) (zx3 : Int) (zx4 : Int) (w : Wd), Ti x1 zx1 → Ti x2 zx2 → Ti x3 zx3 → Ti x4 zx4 → IX k T D w → (0 ≤ zx4 ∧ zx4 ≤ 4) → (zx2 ≤ 5 ∧ 0 ≤ zx2) → (5 - zx4) < M3 → k3 x1 x2 x3 x4 w) (hp : ∀ (r : Int32) (zr : Int) (w9 : Wd), Ti r zr → IX k T D w9 → post r w9) : ∀ (n : Nat) (x1 : Int32) (x2 : Int32) (x3 : Int32) (x4 : Int32) (x5 : Int32) (zx1 : Int) (zx2 : Int) (zx3 : Int) (zx4 : Int) (zx5 : Int) (w : Wd), Ti x1 zx1 → Ti x2 zx2 → Ti x3 zx3 → Ti x4 zx4 → Ti x5 zx5 → IX k T D w → (0 ≤ zx5 ∧ zx5 ≤ 4) → (zx4 ≤ 3) → (zx2 ≤ 5 ∧ 0 ≤ zx2) → (0 ≤ zx4 ∧ zx4 ≤ 4) → (zx2 ≤ 5 ∧ 0 ≤ zx2) → ((5 - zx4) ≤ M3) → (5 - zx5) < (n : Int) → pX9_firstStep_18 k3  post  n x1 x2 x3 x4 x5 w := by
  intro n
  induction n with
  | zero =>
    intro x1 x2 x3 x4 x5 zx1 zx2 zx3 zx4 zx5 w tx1 tx2 tx3 tx4 tx5 hI h0 h1 h2 h3 h4 h5 hm
    exact absurd hm (by omega)
  | succ n ih =>
    intro x1 x2 x3 x4 x5 zx1 zx2 zx3 zx4 zx5 w tx1 tx2 tx3 tx4 tx5 hI h0 h1 h2 h3 h4 h5 hm
    unfold pX9_firstStep_18
    have hk := ix_k hI
    refine sX9_heatsOf   (hI := hI) (tx1 := tx4)  (hp := fun r_1v1398 zr_1v1398 tr_1v1398 p2797 => ?_)
    refine ⟨fun c2798 => ?_, fun c2798 => ?_⟩
    · replace c2798 := c_le tr_1v1398 tx5 c2798
      obtain ⟨z2799, t2800, f2801⟩ := t_add tx4 lit_1
      first | replace f2801 := f2801 (by omega) | clear f2801
      intro x4_4v1406 ex4_4v1406
      have tx4_4v1406 : Ti x4_4v1406 z2799 := by rw [ex4_4v1406]; exact t2800
      exact hk3 _ _ _ _ _ _ _ _ _ tx1 tx2 tx3 tx4_4v1406 hI (by omega) (by omega) (by omega)
    · replace c2798 := c_nle tr_1v1398 tx5 c2798
      refine sX1_rowAfter   (hI := hI) (tx1 := tx1) (tx2 := tx4) (tx3 := tx5) (tx4 := lit_0)  (hp := fun r_5v1407 zr_5v1407 w_6v1408  tr_5v1407 hIw_6v1408  => ?_)
      obtain ⟨z2802, t2803, f2804⟩ := t_sub tx2 lit_1
      first | replace f2804 := f2804 (by omega) | clear f2804
      refine sdX9_waxFrom tr_5v1407 t2803 hIw_6v1408 (by omega) (by omega) (fun r_7v1409 zr_7v1409 w_8v1410  tr_7v1409 hIw_8v1410  => ?_)
      obtain ⟨z2805, t2806, f2807⟩ := t_add lit_1 tx5
      first | replace f2807 := f2807 (by omega) | clear f2807
      obtain ⟨z2808, t2809, f2810⟩ := t_add t2806 tr_7v1409
      first | replace f2810 := f2810 (by omega) | clear f2810
      refine ⟨fun c2811 => ?_, fun c2811 => ?_⟩
      · replace c2811 := c_neq t2809 tx3 c2811
        obtain ⟨z2812, t2813, f2814⟩ := t_add tx5 lit_1
        first | replace f2814 := f2814 (by omega) | clear f2814
        intro x5_10v1411 ex5_10v1411
        have tx5_10v1411 : Ti x5_10v1411 z2812 := by rw [ex5_10v1411]; exact t2813
        exact ih _ _ _ _ _ _ _ _ _ _ _ tx1 tx2 tx3 tx4 tx5_10v1411 hIw_8v1410 (by omega) (by omega) (by omega) (by omega) (by omega) (by omega) (by omega)
      · replace c2811 := c_eq t2809 tx3 c2811
        obtain ⟨z2815, t2816, f2817⟩ := t_mul tx4 lit_10
        first | replace f2817 := f2817 (by omega) | clear f2817
        obtain ⟨z2818, t2819, f2820⟩ := t_add t2816 tx5
        first | replace f2820 := f2820 (by omega) | clear f2820
        exact hp _ _ _  t2819 hIw_8v1410 
set_option maxHeartbeats 4000000 in
set_option maxRecDepth 100000 in
theorem sX9_firstStep_3 {T D : Int} {k : Nat} {post : Int32 → Wd → Prop}   (hp : ∀ (r : Int32) (zr : Int) (w9 : Wd), Ti r zr → IX k T D w9 → post r w9) : ∀ (n : Nat) (x1 : Int32) (x2 : Int32) (x3 : Int32) (x4 : Int32) (zx1 : Int) (zx2 : Int) (zx3 : Int) (zx4 : Int) (w : Wd), Ti x1 zx1 → Ti x2 zx2 → Ti x3 zx3 → Ti x4 zx4 → IX k T D w → (0 ≤ zx4 ∧ zx4 ≤ 4) → (zx2 ≤ 5 ∧ 0 ≤ zx2) → (5 - zx4) < (n : Int) → pX9_firstStep_3   post  n x1 x2 x3 x4 w := by
  intro n
  induction n with
  | zero =>
    intro x1 x2 x3 x4 zx1 zx2 zx3 zx4 w tx1 tx2 tx3 tx4 hI h0 h1 hm
    exact absurd hm (by omega)
  | succ n ih =>
    intro x1 x2 x3 x4 zx1 zx2 zx3 zx4 w tx1 tx2 tx3 tx4 hI h0 h1 hm
    unfold pX9_firstStep_3
    have hk := ix_k hI
    refine sX1_handCount   (hI := hI)   (hp := fun r_1v1412 zr_1v1412 tr_1v1412 p2821 => ?_)
    refine ⟨fun c2822 => ?_, fun c2822 => ?_⟩
    · replace c2822 := c_le tr_1v1412 tx4 c2822
      exact hp _ _ _  lit_m1 hI 
    · replace c2822 := c_nle tr_1v1412 tx4 c2822
      exact ⟨70000, sX9_firstStep_18 (M3 := (n : Int)) (hk3 := ih)  (hp := hp) 70000 _ _ _ _ _ _ _ _ _ _ _ tx1 tx2 tx3 tx4 lit_0 hI (by omega) (by omega) (by omega) (by omega) (by omega) (by omega) (by omega)⟩
set_option maxHeartbeats 4000000 in
set_option maxRecDepth 100000 in
theorem sX9_firstStep {T D : Int} {k : Nat} {post : Int32 → Wd → Prop} {x1 : Int32} {zx1 : Int} {x2 : Int32} {zx2 : Int} {x3 : Int32} {zx3 : Int} {w : Wd}  (tx1 : Ti x1 zx1) (tx2 : Ti x2 zx2) (tx3 : Ti x3 zx3) (hI : IX k T D w) (h0 : zx2 ≤ 5 ∧ 0 ≤ zx2) (hp : ∀ (r : Int32) (zr : Int) (w9 : Wd), Ti r zr → IX k T D w9 → post r w9) : pX9_firstStep   post  x1 x2 x3 w := by
  unfold pX9_firstStep
  have hk := ix_k hI
  exact ⟨70000, sX9_firstStep_3   (hp := hp) 70000 _ _ _ _ _ _ _ _ _ tx1 tx2 tx3 lit_0 hI (by omega) (by omega) (by omega)⟩
set_option maxHeartbeats 4000000 in
set_option maxRecDepth 100000 in
theorem sX9_layWay_11 {T D : Int} {k : Nat} {post : Wd → Prop}   (hp : ∀ (w9 : Wd), IX k T D w9 → post w9) : ∀ (n : Nat) (x3 : Int32) (x4 : Int32) (x5 : Int32) (zx3 : Int) (zx4 : Int) (zx5 : Int) (w : Wd), Ti x3 zx3 → Ti x4 zx4 → Ti x5 zx5 → IX k T D w → (0 ≤ zx5 ∧ zx5 ≤ 4) → (zx5 + 1) < (n : Int) → pX9_layWay_11   post  n x3 x4 x5 w := by
  intro n
  induction n with
  | zero =>
    intro x3 x4 x5 zx3 zx4 zx5 w tx3 tx4 tx5 hI h0 hm
    exact absurd hm (by omega)
  | succ n ih =>
    intro x3 x4 x5 zx3 zx4 zx5 w tx3 tx4 tx5 hI h0 hm
    unfold pX9_layWay_11
    have hk := ix_k hI
    refine ⟨fun c2823 => ?_, fun c2823 => ?_⟩
    · replace c2823 := c_le tx5 lit_0 c2823
      exact hp  _   hI 
    · replace c2823 := c_nle tx5 lit_0 c2823
      obtain ⟨z2824, t2825⟩ := t_any (w.1 60 3)
      refine ⟨fun c2826 => ?_, fun c2826 => ?_⟩
      · replace c2826 := c_eq tx3 t2825 c2826
        exact hp  _   hI 
      · replace c2826 := c_neq tx3 t2825 c2826
        refine sX9_firstStep   (hI := hI) (tx1 := tx3) (tx2 := tx5) (tx3 := tx4) (h0 := (by omega)) (hp := fun r_3v1414 zr_3v1414 w_4v1415  tr_3v1414 hIw_4v1415  => ?_)
        refine ⟨fun c2827 => ?_, fun c2827 => ?_⟩
        · replace c2827 := c_neq tr_3v1414 lit_m1 c2827
          refine sX4_lay   (hI := hIw_4v1415) (tx1 := tr_3v1414)  (hp := fun  w_6v1416   hIw_6v1416  => ?_)
          obtain ⟨z2828, t2829, f2830⟩ := t_div tr_3v1414 lit_10
          first | replace f2830 := f2830 (by omega) | clear f2830
          obtain ⟨z2831, t2832, f2833⟩ := t_rem tr_3v1414 lit_10
          first | replace f2833 := f2833 (by omega) | clear f2833
          refine sX1_rowAfter   (hI := hIw_6v1416) (tx1 := tx3) (tx2 := t2829) (tx3 := t2832) (tx4 := lit_0)  (hp := fun r_7v1417 zr_7v1417 w_8v1418  tr_7v1417 hIw_8v1418  => ?_)
          obtain ⟨z2834, t2835, f2836⟩ := t_add lit_1 t2832
          first | replace f2836 := f2836 (by omega) | clear f2836
          obtain ⟨z2837, t2838, f2839⟩ := t_sub tx4 t2835
          first | replace f2839 := f2839 (by omega) | clear f2839
          intro x4_9v1419 ex4_9v1419
          have tx4_9v1419 : Ti x4_9v1419 z2837 := by rw [ex4_9v1419]; exact t2838
          obtain ⟨z2840, t2841, f2842⟩ := t_add tx5 lit_m1
          first | replace f2842 := f2842 (by omega) | clear f2842
          intro x5_10v1420 ex5_10v1420
          have tx5_10v1420 : Ti x5_10v1420 z2840 := by rw [ex5_10v1420]; exact t2841
          exact ih _ _ _ _ _ _ _ tr_7v1417 tx4_9v1419 tx5_10v1420 hIw_8v1418 (by omega) (by omega)
        · replace c2827 := c_eq tr_3v1414 lit_m1 c2827
          exact hp  _   hIw_4v1415 
set_option maxHeartbeats 4000000 in
set_option maxRecDepth 100000 in
theorem sX9_layWay {T D : Int} {k : Nat} {post : Wd → Prop} {x1 : Int32} {zx1 : Int} {w : Wd}  (tx1 : Ti x1 zx1) (hI : IX k T D w)  (hp : ∀ (w9 : Wd), IX k T D w9 → post w9) : pX9_layWay   post  x1 w := by
  unfold pX9_layWay
  have hk := ix_k hI
  obtain ⟨z2843, t2844⟩ := t_any (w.1 60 5)
  intro x4_1v1421 ex4_1v1421
  have tx4_1v1421 : Ti x4_1v1421 z2843 := by rw [ex4_1v1421]; exact t2844
  exact ⟨70000, sX9_layWay_11   (hp := hp) 70000 _ _ _ _ _ _ _ tx1 tx4_1v1421 lit_4 hI (by omega) (by omega)⟩
set_option maxHeartbeats 4000000 in
set_option maxRecDepth 100000 in
theorem sX9_seek_53 {T D : Int} {k : Nat} {post : Int32 → Wd → Prop}   (hp : ∀ (r : Int32) (zr : Int) (w9 : Wd), Ti r zr → IX k T D w9 → post r w9) : ∀ (n : Nat) (x3 : Int32) (x4 : Int32) (zx3 : Int) (zx4 : Int) (w : Wd), Ti x3 zx3 → Ti x4 zx4 → IX k T D w → (0 ≤ zx4 ∧ zx4 ≤ 24) → (25 - zx4) < (n : Int) → pX9_seek_53   post  n x3 x4 w := by
  intro n
  induction n with
  | zero =>
    intro x3 x4 zx3 zx4 w tx3 tx4 hI h0 hm
    exact absurd hm (by omega)
  | succ n ih =>
    intro x3 x4 zx3 zx4 w tx3 tx4 hI h0 hm
    unfold pX9_seek_53
    have hk := ix_k hI
    obtain ⟨z2845, t2846⟩ := t_any (w.1 160 0)
    have f2847 := ixg_c0 hI t2846
    refine ⟨fun c2848 => ?_, fun c2848 => ?_⟩
    · replace c2848 := c_le t2846 tx4 c2848
      exact hp _ _ _  tx3 hI 
    · replace c2848 := c_nle t2846 tx4 c2848
      refine ⟨vp_of tx4 (by omega) (by omega), ?_⟩
      obtain ⟨z2849, t2850⟩ := t_any (w.2.1 162 x4.toNatClampNeg)
      refine sdX9_waxFrom t2850 lit_4 hI (by omega) (by omega) (fun r_2v1422 zr_2v1422 w_3v1423  tr_2v1422 hIw_3v1423  => ?_)
      obtain ⟨z2851, t2852⟩ := t_any (w_3v1423.1 60 5)
      refine ⟨fun c2853 => ?_, fun c2853 => ?_⟩
      · replace c2853 := c_le t2852 tr_2v1422 c2853
        unfold pX9_seek_100
        obtain ⟨z2854, t2855, f2856⟩ := t_add tx4 lit_1
        first | replace f2856 := f2856 (by omega) | clear f2856
        intro x4_1v1425 ex4_1v1425
        have tx4_1v1425 : Ti x4_1v1425 z2854 := by rw [ex4_1v1425]; exact t2855
        exact ih _ _ _ _ _ tx3 tx4_1v1425 hIw_3v1423 (by omega) (by omega)
      · replace c2853 := c_nle t2852 tr_2v1422 c2853
        intro w_5v1424 ew_5v1424
        have hIw_5v1424 := ixs_n hIw_3v1423 ew_5v1424 (by unfold nX; omega)
        unfold pX9_seek_100
        obtain ⟨z2857, t2858, f2859⟩ := t_add tx4 lit_1
        first | replace f2859 := f2859 (by omega) | clear f2859
        intro x4_1v1426 ex4_1v1426
        have tx4_1v1426 : Ti x4_1v1426 z2857 := by rw [ex4_1v1426]; exact t2858
        exact ih _ _ _ _ _ tx4 tx4_1v1426 hIw_5v1424 (by omega) (by omega)
set_option maxHeartbeats 4000000 in
set_option maxRecDepth 100000 in
theorem sX9_seek_18 {T D : Int} {k : Nat} {post : Int32 → Wd → Prop}   (hp : ∀ (r : Int32) (zr : Int) (w9 : Wd), Ti r zr → IX k T D w9 → post r w9) : ∀ (n : Nat) (x3 : Int32) (zx3 : Int) (w : Wd), Ti x3 zx3 → IX k T D w → (0 ≤ zx3 ∧ zx3 ≤ 12288) → (12289 - zx3) < (n : Int) → pX9_seek_18   post  n x3 w := by
  intro n
  induction n with
  | zero =>
    intro x3 zx3 w tx3 hI h0 hm
    exact absurd hm (by omega)
  | succ n ih =>
    intro x3 zx3 w tx3 hI h0 hm
    unfold pX9_seek_18
    have hk := ix_k hI
    obtain ⟨z2860, t2861⟩ := t_any (w.1 60 4)
    have f2862 := ixg_60_4 hI t2861
    obtain ⟨z2863, t2864, f2865⟩ := t_mul lit_3 t2861
    first | replace f2865 := f2865 (by omega) | clear f2865
    refine ⟨fun c2866 => ?_, fun c2866 => ?_⟩
    · replace c2866 := c_le t2864 tx3 c2866
      intro w_2v1427 ew_2v1427
      have hIw_2v1427 := ixs_n hI ew_2v1427 (by unfold nX; omega)
      exact ⟨70000, sX9_seek_53   (hp := hp) 70000 _ _ _ _ _ lit_m1 lit_0 hIw_2v1427 (by omega) (by omega)⟩
    · replace c2866 := c_nle t2864 tx3 c2866
      refine ⟨vp_of tx3 (by omega) (by omega), ?_⟩
      intro w_3v1428 ew_3v1428
      have hIw_3v1428 := ixs_A hI ew_3v1428 (by decide)
      obtain ⟨z2867, t2868, f2869⟩ := t_add tx3 lit_1
      first | replace f2869 := f2869 (by omega) | clear f2869
      intro x3_4v1429 ex3_4v1429
      have tx3_4v1429 : Ti x3_4v1429 z2867 := by rw [ex3_4v1429]; exact t2868
      exact ih _ _ _ tx3_4v1429 hIw_3v1428 (by omega) (by omega)
