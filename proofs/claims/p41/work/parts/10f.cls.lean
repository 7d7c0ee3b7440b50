set_option maxHeartbeats 4000000 in
set_option maxRecDepth 100000 in
theorem sX10_nearest_41 {T D : Int} {k : Nat} {k32 : Int32 → Int32 → Int32 → Int32 → Int32 → Int32 → Wd → Prop} {M32 : Int} {post : Int32 → Wd → Prop} {w : Wd} (hk32 : ∀ (x1 : Int32) (x2 : Int32) (x3 : Int32) (x4 : Int32) (x5 : Int32) (x6 : Int32) (zx1 : Int) (zx2 : Int) (zx3 : Int) (zx4 : Int) (zx5 : Int) (zx6 : Int), Ti x1 zx1 → Ti x2 zx2 → Ti x3 zx3 → Ti x4 zx4 → Ti x5 zx5 → Ti x6 zx6 → IX k T D w → (0 ≤ zx6 ∧ zx6 ≤ 2) → (3 - zx6) < M32 → k32 x1 x2 x3 x4 x5 x6 w) (hp : ∀ (r : Int32) (zr : Int), Ti r zr → post r w) : ∀ (n : Nat) (x1 : Int32) (x2 : Int32) (x3 : Int32) (x4 : Int32) (x5 : Int32) (x6 : Int32) (x7 : Int32) (zx1 : Int) (zx2 : Int) (zx3 : Int) (zx4 : Int) (zx5 : Int) (zx6 : Int) (zx7 : Int), Ti x1 zx1 → Ti x2 zx2 → Ti x3 zx3 → Ti x4 zx4 → Ti x5 zx5 → Ti x6 zx6 → Ti x7 zx7 → IX k T D w → (0 ≤ zx7 ∧ zx7 ≤ 24) → (zx6 ≤ 1) → (0 ≤ zx6 ∧ zx6 ≤ 2) → ((3 - zx6) ≤ M32) → (25 - zx7) < (n : Int) → pX10_nearest_41 k32  post  n x1 x2 x3 x4 x5 x6 x7 w := by
  intro n
  induction n with
  | zero =>
    intro x1 x2 x3 x4 x5 x6 x7 zx1 zx2 zx3 zx4 zx5 zx6 zx7  tx1 tx2 tx3 tx4 tx5 tx6 tx7 hI h0 h1 h2 h3 hm
    exact absurd hm (by omega)
  | succ n ih =>
    intro x1 x2 x3 x4 x5 x6 x7 zx1 zx2 zx3 zx4 zx5 zx6 zx7  tx1 tx2 tx3 tx4 tx5 tx6 tx7 hI h0 h1 h2 h3 hm
    unfold pX10_nearest_41
    have hk := ix_k hI
    obtain ⟨z2498, t2499⟩ := t_any (w.1 160 0)
    have f2500 := ixg_c0 hI t2499
    refine ⟨fun c2501 => ?_, fun c2501 => ?_⟩
    · replace c2501 := c_le t2499 tx7 c2501
      obtain ⟨z2502, t2503, f2504⟩ := t_add tx6 lit_1
      first | replace f2504 := f2504 (by omega) | clear f2504
      intro x6_2v1211 ex6_2v1211
      have tx6_2v1211 : Ti x6_2v1211 z2502 := by rw [ex6_2v1211]; exact t2503
      exact hk32 _ _ _ _ _ _ _ _ _ _ _ _  tx1 tx2 tx3 tx4 tx5 tx6_2v1211 hI (by omega) (by omega)
    · replace c2501 := c_nle t2499 tx7 c2501
      refine ⟨fun c2505 => ?_, fun c2505 => ?_⟩
      · replace c2505 := c_neq tx6 lit_0 c2505
        refine ⟨vp_of tx7 (by omega) (by omega), ?_⟩
        unfold pX10_nearest_78
        obtain ⟨z2506, t2507⟩ := t_any (x1 ^^^ (w.2.1 162 x7.toNatClampNeg))
        refine sJ6_bitCount_0f7a4   (hI := hI) (tx0 := t2507)  (hp := fun r_1v1214 zr_1v1214 tr_1v1214 p2508 => ?_)
        refine ⟨fun c2509 => ?_, fun c2509 => ?_⟩
        · replace c2509 := c_le tx3 tr_1v1214 c2509
          unfold pX10_nearest_101
          obtain ⟨z2510, t2511, f2512⟩ := t_add tx7 lit_1
          first | replace f2512 := f2512 (by omega) | clear f2512
          intro x7_1v1216 ex7_1v1216
          have tx7_1v1216 : Ti x7_1v1216 z2510 := by rw [ex7_1v1216]; exact t2511
          exact ih _ _ _ _ _ _ _ _ _ _ _ _ _ _  tx1 tx2 tx3 tx4 tx5 tx6 tx7_1v1216 hI (by omega) (by omega) (by omega) (by omega) (by omega)
        · replace c2509 := c_nle tx3 tr_1v1214 c2509
          unfold pX10_nearest_101
          obtain ⟨z2513, t2514, f2515⟩ := t_add tx7 lit_1
          first | replace f2515 := f2515 (by omega) | clear f2515
          intro x7_1v1217 ex7_1v1217
          have tx7_1v1217 : Ti x7_1v1217 z2513 := by rw [ex7_1v1217]; exact t2514
          exact ih _ _ _ _ _ _ _ _ _ _ _ _ _ _  tx1 tx2 tr_1v1214 tx7 tx6 tx6 tx7_1v1217 hI (by omega) (by omega) (by omega) (by omega) (by omega)
      · replace c2505 := c_eq tx6 lit_0 c2505
        refine sX10_printOf   (hI := hI) (tx1 := tx7)  (hp := fun r_4v1212 zr_4v1212 tr_4v1212 => ?_)
        unfold pX10_nearest_78
        obtain ⟨z2516, t2517⟩ := t_any (x1 ^^^ r_4v1212)
        refine sJ6_bitCount_0f7a4   (hI := hI) (tx0 := t2517)  (hp := fun r_1v1218 zr_1v1218 tr_1v1218 p2518 => ?_)
        refine ⟨fun c2519 => ?_, fun c2519 => ?_⟩
        · replace c2519 := c_le tx3 tr_1v1218 c2519
          unfold pX10_nearest_101
          obtain ⟨z2520, t2521, f2522⟩ := t_add tx7 lit_1
          first | replace f2522 := f2522 (by omega) | clear f2522
          intro x7_1v1220 ex7_1v1220
          have tx7_1v1220 : Ti x7_1v1220 z2520 := by rw [ex7_1v1220]; exact t2521
          exact ih _ _ _ _ _ _ _ _ _ _ _ _ _ _  tx1 tx2 tx3 tx4 tx5 tx6 tx7_1v1220 hI (by omega) (by omega) (by omega) (by omega) (by omega)
        · replace c2519 := c_nle tx3 tr_1v1218 c2519
          unfold pX10_nearest_101
          obtain ⟨z2523, t2524, f2525⟩ := t_add tx7 lit_1
          first | replace f2525 := f2525 (by omega) | clear f2525
          intro x7_1v1221 ex7_1v1221
          have tx7_1v1221 : Ti x7_1v1221 z2523 := by rw [ex7_1v1221]; exact t2524
          exact ih _ _ _ _ _ _ _ _ _ _ _ _ _ _  tx1 tx2 tr_1v1218 tx7 tx6 tx6 tx7_1v1221 hI (by omega) (by omega) (by omega) (by omega) (by omega)
set_option maxHeartbeats 4000000 in
set_option maxRecDepth 100000 in
theorem sX10_nearest_32 {T D : Int} {k : Nat} {post : Int32 → Wd → Prop} {w : Wd}  (hp : ∀ (r : Int32) (zr : Int), Ti r zr → post r w) : ∀ (n : Nat) (x1 : Int32) (x2 : Int32) (x3 : Int32) (x4 : Int32) (x5 : Int32) (x6 : Int32) (zx1 : Int) (zx2 : Int) (zx3 : Int) (zx4 : Int) (zx5 : Int) (zx6 : Int), Ti x1 zx1 → Ti x2 zx2 → Ti x3 zx3 → Ti x4 zx4 → Ti x5 zx5 → Ti x6 zx6 → IX k T D w → (0 ≤ zx6 ∧ zx6 ≤ 2) → (3 - zx6) < (n : Int) → pX10_nearest_32   post  n x1 x2 x3 x4 x5 x6 w := by
  intro n
  induction n with
  | zero =>
    intro x1 x2 x3 x4 x5 x6 zx1 zx2 zx3 zx4 zx5 zx6  tx1 tx2 tx3 tx4 tx5 tx6 hI h0 hm
    exact absurd hm (by omega)
  | succ n ih =>
    intro x1 x2 x3 x4 x5 x6 zx1 zx2 zx3 zx4 zx5 zx6  tx1 tx2 tx3 tx4 tx5 tx6 hI h0 hm
    unfold pX10_nearest_32
    have hk := ix_k hI
    refine ⟨fun c2526 => ?_, fun c2526 => ?_⟩
    · replace c2526 := c_le lit_2 tx6 c2526
      refine ⟨fun c2527 => ?_, fun c2527 => ?_⟩
      · replace c2527 := c_neq tx2 lit_0 c2527
        refine ⟨fun c2528 => ?_, fun c2528 => ?_⟩
        · replace c2528 := c_neq tx2 lit_1 c2528
          exact hp _ _ tx5 
        · replace c2528 := c_eq tx2 lit_1 c2528
          exact hp _ _ tx4 
      · replace c2527 := c_eq tx2 lit_0 c2527
        exact hp _ _ tx3 
    · replace c2526 := c_nle lit_2 tx6 c2526
      exact ⟨70000, sX10_nearest_41  (M32 := (n : Int)) (hk32 := ih)  (hp := hp) 70000 _ _ _ _ _ _ _ _ _ _ _ _ _ _  tx1 tx2 tx3 tx4 tx5 tx6 lit_0 hI (by omega) (by omega) (by omega) (by omega) (by omega)⟩
set_option maxHeartbeats 4000000 in
set_option maxRecDepth 100000 in
theorem sX10_nearest {T D : Int} {k : Nat} {post : Int32 → Wd → Prop} {x1 : Int32} {zx1 : Int} {x2 : Int32} {zx2 : Int} {w : Wd}  (tx1 : Ti x1 zx1) (tx2 : Ti x2 zx2) (hI : IX k T D w)  (hp : ∀ (r : Int32) (zr : Int), Ti r zr → post r w) : pX10_nearest   post  x1 x2 w := by
  unfold pX10_nearest
  have hk := ix_k hI
  refine sX10_isRow   (hI := hI) (tx1 := tx1)  (hp := fun r_1v1222 zr_1v1222 tr_1v1222 p2529 => ?_)
  refine ⟨fun c2530 => ?_, fun c2530 => ?_⟩
  · replace c2530 := c_eq tr_1v1222 lit_0 c2530
    exact hp _ _ lit_m1 
  · replace c2530 := c_neq tr_1v1222 lit_0 c2530
    refine ⟨fun c2531 => ?_, fun c2531 => ?_⟩
    · replace c2531 := c_lt tx2 lit_0 c2531
      exact hp _ _ lit_m1 
    · replace c2531 := c_nlt tx2 lit_0 c2531
      refine ⟨fun c2532 => ?_, fun c2532 => ?_⟩
      · replace c2532 := c_le tx2 lit_2 c2532
        exact ⟨70000, sX10_nearest_32    (hp := hp) 70000 _ _ _ _ _ _ _ _ _ _ _ _  tx1 tx2 lit_1000 lit_m1 lit_0 lit_0 hI (by omega) (by omega)⟩
      · replace c2532 := c_nle tx2 lit_2 c2532
        exact hp _ _ lit_m1 
set_option maxHeartbeats 4000000 in
set_option maxRecDepth 100000 in
theorem sX10_marksOfAllPrints_12 {T D : Int} {k : Nat} {post : Int32 → Wd → Prop} {w : Wd}  (hp : ∀ (r : Int32) (zr : Int), Ti r zr → post r w) : ∀ (n : Nat) (x1 : Int32) (x2 : Int32) (zx1 : Int) (zx2 : Int), Ti x1 zx1 → Ti x2 zx2 → IX k T D w → (0 ≤ zx2 ∧ zx2 ≤ 40) → (41 - zx2) < (n : Int) → pX10_marksOfAllPrints_12   post  n x1 x2 w := by
  intro n
  induction n with
  | zero =>
    intro x1 x2 zx1 zx2  tx1 tx2 hI h0 hm
    exact absurd hm (by omega)
  | succ n ih =>
    intro x1 x2 zx1 zx2  tx1 tx2 hI h0 hm
    unfold pX10_marksOfAllPrints_12
    have hk := ix_k hI
    obtain ⟨z2533, t2534⟩ := t_any (w.1 160 6)
    have f2535 := ixg_c6 hI t2534
    refine ⟨fun c2536 => ?_, fun c2536 => ?_⟩
    · replace c2536 := c_le t2534 tx2 c2536
      exact hp _ _ tx1 
    · replace c2536 := c_nle t2534 tx2 c2536
      refine ⟨vp_of tx2 (by omega) (by omega), ?_⟩
      obtain ⟨z2537, t2538⟩ := t_any (x1 &&& (w.2.1 168 x2.toNatClampNeg))
      intro x1_2v1224 ex1_2v1224
      have tx1_2v1224 : Ti x1_2v1224 z2537 := by rw [ex1_2v1224]; exact t2538
      obtain ⟨z2539, t2540, f2541⟩ := t_add tx2 lit_1
      first | replace f2541 := f2541 (by omega) | clear f2541
      intro x2_3v1225 ex2_3v1225
      have tx2_3v1225 : Ti x2_3v1225 z2539 := by rw [ex2_3v1225]; exact t2540
      exact ih _ _ _ _  tx1_2v1224 tx2_3v1225 hI (by omega) (by omega)
set_option maxHeartbeats 4000000 in
set_option maxRecDepth 100000 in
theorem sX10_marksOfAllPrints {T D : Int} {k : Nat} {post : Int32 → Wd → Prop}  {w : Wd}   (hI : IX k T D w)  (hp : ∀ (r : Int32) (zr : Int), Ti r zr → post r w) : pX10_marksOfAllPrints   post   w := by
  unfold pX10_marksOfAllPrints
  have hk := ix_k hI
  refine sX7_rows   (hI := hI)   (hp := fun r_1v1226 zr_1v1226 tr_1v1226 p2542 => ?_)
  obtain ⟨z2543, t2544, f2545⟩ := t_sub tr_1v1226 lit_1
  first | replace f2545 := f2545 (by omega) | clear f2545
  intro x1_3v1229 ex1_3v1229
  have tx1_3v1229 : Ti x1_3v1229 z2543 := by rw [ex1_3v1229]; exact t2544
  exact ⟨70000, sX10_marksOfAllPrints_12    (hp := hp) 70000 _ _ _ _  tx1_3v1229 lit_0 hI (by omega) (by omega)⟩
set_option maxHeartbeats 4000000 in
set_option maxRecDepth 100000 in
theorem sX10_marksOfAllSeals_12 {T D : Int} {k : Nat} {post : Int32 → Wd → Prop} {w : Wd}  (hp : ∀ (r : Int32) (zr : Int), Ti r zr → post r w) : ∀ (n : Nat) (x1 : Int32) (x2 : Int32) (zx1 : Int) (zx2 : Int), Ti x1 zx1 → Ti x2 zx2 → IX k T D w → (0 ≤ zx2 ∧ zx2 ≤ 24) → (25 - zx2) < (n : Int) → pX10_marksOfAllSeals_12   post  n x1 x2 w := by
  intro n
  induction n with
  | zero =>
    intro x1 x2 zx1 zx2  tx1 tx2 hI h0 hm
    exact absurd hm (by omega)
  | succ n ih =>
    intro x1 x2 zx1 zx2  tx1 tx2 hI h0 hm
    unfold pX10_marksOfAllSeals_12
    have hk := ix_k hI
    obtain ⟨z2546, t2547⟩ := t_any (w.1 160 0)
    have f2548 := ixg_c0 hI t2547
    refine ⟨fun c2549 => ?_, fun c2549 => ?_⟩
    · replace c2549 := c_le t2547 tx2 c2549
      exact hp _ _ tx1 
    · replace c2549 := c_nle t2547 tx2 c2549
      refine ⟨vp_of tx2 (by omega) (by omega), ?_⟩
      obtain ⟨z2550, t2551⟩ := t_any (x1 &&& (w.2.1 162 x2.toNatClampNeg))
      intro x1_2v1230 ex1_2v1230
      have tx1_2v1230 : Ti x1_2v1230 z2550 := by rw [ex1_2v1230]; exact t2551
      obtain ⟨z2552, t2553, f2554⟩ := t_add tx2 lit_1
      first | replace f2554 := f2554 (by omega) | clear f2554
      intro x2_3v1231 ex2_3v1231
      have tx2_3v1231 : Ti x2_3v1231 z2552 := by rw [ex2_3v1231]; exact t2553
      exact ih _ _ _ _  tx1_2v1230 tx2_3v1231 hI (by omega) (by omega)
set_option maxHeartbeats 4000000 in
set_option maxRecDepth 100000 in
theorem sX10_marksOfAllSeals {T D : Int} {k : Nat} {post : Int32 → Wd → Prop}  {w : Wd}   (hI : IX k T D w)  (hp : ∀ (r : Int32) (zr : Int), Ti r zr → post r w) : pX10_marksOfAllSeals   post   w := by
  unfold pX10_marksOfAllSeals
  have hk := ix_k hI
  refine sX7_rows   (hI := hI)   (hp := fun r_1v1232 zr_1v1232 tr_1v1232 p2555 => ?_)
  obtain ⟨z2556, t2557, f2558⟩ := t_sub tr_1v1232 lit_1
  first | replace f2558 := f2558 (by omega) | clear f2558
  intro x1_3v1235 ex1_3v1235
  have tx1_3v1235 : Ti x1_3v1235 z2556 := by rw [ex1_3v1235]; exact t2557
  exact ⟨70000, sX10_marksOfAllSeals_12    (hp := hp) 70000 _ _ _ _  tx1_3v1235 lit_0 hI (by omega) (by omega)⟩
set_option maxHeartbeats 4000000 in
set_option maxRecDepth 100000 in
theorem sX10_marksOfSomeSeals_4 {T D : Int} {k : Nat} {post : Int32 → Wd → Prop} {w : Wd}  (hp : ∀ (r : Int32) (zr : Int), Ti r zr → post r w) : ∀ (n : Nat) (x1 : Int32) (x2 : Int32) (zx1 : Int) (zx2 : Int), Ti x1 zx1 → Ti x2 zx2 → IX k T D w → (0 ≤ zx2 ∧ zx2 ≤ 24) → (25 - zx2) < (n : Int) → pX10_marksOfSomeSeals_4   post  n x1 x2 w := by
  intro n
  induction n with
  | zero =>
    intro x1 x2 zx1 zx2  tx1 tx2 hI h0 hm
    exact absurd hm (by omega)
  | succ n ih =>
    intro x1 x2 zx1 zx2  tx1 tx2 hI h0 hm
    unfold pX10_marksOfSomeSeals_4
    have hk := ix_k hI
    obtain ⟨z2559, t2560⟩ := t_any (w.1 160 0)
    have f2561 := ixg_c0 hI t2560
    refine ⟨fun c2562 => ?_, fun c2562 => ?_⟩
    · replace c2562 := c_le t2560 tx2 c2562
      exact hp _ _ tx1 
    · replace c2562 := c_nle t2560 tx2 c2562
      refine ⟨vp_of tx2 (by omega) (by omega), ?_⟩
      obtain ⟨z2563, t2564⟩ := t_any (x1 ||| (w.2.1 162 x2.toNatClampNeg))
      intro x1_2v1236 ex1_2v1236
      have tx1_2v1236 : Ti x1_2v1236 z2563 := by rw [ex1_2v1236]; exact t2564
      obtain ⟨z2565, t2566, f2567⟩ := t_add tx2 lit_1
      first | replace f2567 := f2567 (by omega) | clear f2567
      intro x2_3v1237 ex2_3v1237
      have tx2_3v1237 : Ti x2_3v1237 z2565 := by rw [ex2_3v1237]; exact t2566
      exact ih _ _ _ _  tx1_2v1236 tx2_3v1237 hI (by omega) (by omega)
set_option maxHeartbeats 4000000 in
set_option maxRecDepth 100000 in
theorem sX10_marksOfSomeSeals {T D : Int} {k : Nat} {post : Int32 → Wd → Prop}  {w : Wd}   (hI : IX k T D w)  (hp : ∀ (r : Int32) (zr : Int), Ti r zr → post r w) : pX10_marksOfSomeSeals   post   w := by
  unfold pX10_marksOfSomeSeals
  have hk := ix_k hI
  exact ⟨70000, sX10_marksOfSomeSeals_4    (hp := hp) 70000 _ _ _ _  lit_0 lit_0 hI (by omega) (by omega)⟩
set_option maxHeartbeats 4000000 in
set_option maxRecDepth 100000 in
theorem sX10_common {T D : Int} {k : Nat} {post : Int32 → Wd → Prop} {x1 : Int32} {zx1 : Int} {w : Wd}  (tx1 : Ti x1 zx1) (hI : IX k T D w)  (hp : ∀ (r : Int32) (zr : Int), Ti r zr → post r w) : pX10_common   post  x1 w := by
  unfold pX10_common
  have hk := ix_k hI
  refine ⟨fun c2568 => ?_, fun c2568 => ?_, fun c2568 => ?_, fun c2568 => ?_⟩
  · rw [show x1.toInt = zx1 from tx1] at c2568
    exact hp _ _ lit_m1 
  · rw [show x1.toInt = zx1 from tx1] at c2568
    refine sX10_marksOfAllSeals   (hI := hI)   (hp := fun r_2v1238 zr_2v1238 tr_2v1238 => ?_)
    exact hp _ _ tr_2v1238 
  · rw [show x1.toInt = zx1 from tx1] at c2568
    refine sX10_marksOfSomeSeals   (hI := hI)   (hp := fun r_4v1240 zr_4v1240 tr_4v1240 => ?_)
    exact hp _ _ tr_4v1240 
  · rw [show x1.toInt = zx1 from tx1] at c2568
    refine sX10_marksOfAllPrints   (hI := hI)   (hp := fun r_6v1242 zr_6v1242 tr_6v1242 => ?_)
    exact hp _ _ tr_6v1242 
set_option maxHeartbeats 4000000 in
set_option maxRecDepth 100000 in
theorem sX10_alike_36 {T D : Int} {k : Nat} {post : Int32 → Wd → Prop} {w : Wd}  (hp : ∀ (r : Int32) (zr : Int), Ti r zr → post r w) : ∀ (n : Nat) (x3 : Int32) (x4 : Int32) (x5 : Int32) (zx3 : Int) (zx4 : Int) (zx5 : Int), Ti x3 zx3 → Ti x4 zx4 → Ti x5 zx5 → IX k T D w → (0 ≤ zx5 ∧ zx5 ≤ 24) → (25 - zx5) < (n : Int) → pX10_alike_36   post  n x3 x4 x5 w := by
  intro n
  induction n with
  | zero =>
    intro x3 x4 x5 zx3 zx4 zx5  tx3 tx4 tx5 hI h0 hm
    exact absurd hm (by omega)
  | succ n ih =>
    intro x3 x4 x5 zx3 zx4 zx5  tx3 tx4 tx5 hI h0 hm
    unfold pX10_alike_36
    have hk := ix_k hI
    obtain ⟨z2569, t2570⟩ := t_any (w.1 160 0)
    have f2571 := ixg_c0 hI t2570
    refine ⟨fun c2572 => ?_, fun c2572 => ?_⟩
    · replace c2572 := c_le t2570 tx5 c2572
      exact hp _ _ tx4 
    · replace c2572 := c_nle t2570 tx5 c2572
      refine ⟨vp_of tx5 (by omega) (by omega), ?_⟩
      obtain ⟨z2573, t2574⟩ := t_any (w.2.1 162 x5.toNatClampNeg)
      refine ⟨fun c2575 => ?_, fun c2575 => ?_⟩
      · replace c2575 := c_neq t2574 tx3 c2575
        unfold pX10_alike_71
        obtain ⟨z2576, t2577, f2578⟩ := t_add tx5 lit_1
        first | replace f2578 := f2578 (by omega) | clear f2578
        intro x5_1v1245 ex5_1v1245
        have tx5_1v1245 : Ti x5_1v1245 z2576 := by rw [ex5_1v1245]; exact t2577
        exact ih _ _ _ _ _ _  tx3 tx4 tx5_1v1245 hI (by omega) (by omega)
      · replace c2575 := c_eq t2574 tx3 c2575
        obtain ⟨z2579, t2580⟩ := t_any (x4 ||| ((1 : Int32) <<< (x5 &&& 31)))
        intro x4_3v1244 ex4_3v1244
        have tx4_3v1244 : Ti x4_3v1244 z2579 := by rw [ex4_3v1244]; exact t2580
        unfold pX10_alike_71
        obtain ⟨z2581, t2582, f2583⟩ := t_add tx5 lit_1
        first | replace f2583 := f2583 (by omega) | clear f2583
        intro x5_1v1246 ex5_1v1246
        have tx5_1v1246 : Ti x5_1v1246 z2581 := by rw [ex5_1v1246]; exact t2582
        exact ih _ _ _ _ _ _  tx3 tx4_3v1244 tx5_1v1246 hI (by omega) (by omega)
set_option maxHeartbeats 4000000 in
set_option maxRecDepth 100000 in
theorem sX10_alike {T D : Int} {k : Nat} {post : Int32 → Wd → Prop} {x1 : Int32} {zx1 : Int} {x2 : Int32} {zx2 : Int} {w : Wd}  (tx1 : Ti x1 zx1) (tx2 : Ti x2 zx2) (hI : IX k T D w)  (hp : ∀ (r : Int32) (zr : Int), Ti r zr → post r w) : pX10_alike   post  x1 x2 w := by
  unfold pX10_alike
  have hk := ix_k hI
  refine sX10_isRow   (hI := hI) (tx1 := tx1)  (hp := fun r_1v1247 zr_1v1247 tr_1v1247 p2584 => ?_)
  refine ⟨fun c2585 => ?_, fun c2585 => ?_⟩
  · replace c2585 := c_neq tr_1v1247 lit_0 c2585
    refine ⟨fun c2586 => ?_, fun c2586 => ?_⟩
    · replace c2586 := c_eq tx2 lit_0 c2586
      unfold pX10_alike_29
      exact ⟨70000, sX10_alike_36    (hp := hp) 70000 _ _ _ _ _ _  tx1 lit_0 lit_0 hI (by omega) (by omega)⟩
    · replace c2586 := c_neq tx2 lit_0 c2586
      obtain ⟨z2587, t2588⟩ := t_any (w.1 (rl (w.2.2.2.2 0)) 0)
      have f2589 := ixg_r0 hI t2588
      refine sX10_turn   (hI := hI) (tx0 := tx1) (tx1 := t2588)  (hp := fun r_5v1251 zr_5v1251 tr_5v1251 => ?_)
      unfold pX10_alike_29
      exact ⟨70000, sX10_alike_36    (hp := hp) 70000 _ _ _ _ _ _  tr_5v1251 lit_0 lit_0 hI (by omega) (by omega)⟩
  · replace c2585 := c_eq tr_1v1247 lit_0 c2585
    exact hp _ _ lit_m1 
set_option maxHeartbeats 4000000 in
set_option maxRecDepth 100000 in
theorem sX10_tellsApart_15 {T D : Int} {k : Nat} {k2 : Int32 → Int32 → Wd → Prop} {M2 : Int} {post : Int32 → Wd → Prop} {w : Wd} (hk2 : ∀ (x1 : Int32) (x2 : Int32) (zx1 : Int) (zx2 : Int), Ti x1 zx1 → Ti x2 zx2 → IX k T D w → (0 ≤ zx2 ∧ zx2 ≤ 24) → (25 - zx2) < M2 → k2 x1 x2 w) (hp : ∀ (r : Int32) (zr : Int), Ti r zr → post r w) : ∀ (n : Nat) (x1 : Int32) (x2 : Int32) (x3 : Int32) (zx1 : Int) (zx2 : Int) (zx3 : Int), Ti x1 zx1 → Ti x2 zx2 → Ti x3 zx3 → IX k T D w → (0 ≤ zx3 ∧ zx3 ≤ 24) → (zx2 ≤ 23) → (0 ≤ zx2 ∧ zx2 ≤ 24) → ((25 - zx2) ≤ M2) → (25 - zx3) < (n : Int) → pX10_tellsApart_15 k2  post  n x1 x2 x3 w := by
  intro n
  induction n with
  | zero =>
    intro x1 x2 x3 zx1 zx2 zx3  tx1 tx2 tx3 hI h0 h1 h2 h3 hm
    exact absurd hm (by omega)
  | succ n ih =>
    intro x1 x2 x3 zx1 zx2 zx3  tx1 tx2 tx3 hI h0 h1 h2 h3 hm
    unfold pX10_tellsApart_15
    have hk := ix_k hI
    refine ⟨fun c2590 => ?_, fun c2590 => ?_⟩
    · replace c2590 := c_le tx2 tx3 c2590
      obtain ⟨z2591, t2592, f2593⟩ := t_add tx2 lit_1
      first | replace f2593 := f2593 (by omega) | clear f2593
      intro x2_2v1253 ex2_2v1253
      have tx2_2v1253 : Ti x2_2v1253 z2591 := by rw [ex2_2v1253]; exact t2592
      exact hk2 _ _ _ _  tx1 tx2_2v1253 hI (by omega) (by omega)
    · replace c2590 := c_nle tx2 tx3 c2590
      refine ⟨vp_of tx2 (by omega) (by omega), ?_⟩
      refine ⟨vp_of tx3 (by omega) (by omega), ?_⟩
      obtain ⟨z2594, t2595⟩ := t_any ((w.2.1 162 x2.toNatClampNeg) ^^^ (w.2.1 162 x3.toNatClampNeg))
      intro x4_3v1254 ex4_3v1254
      have tx4_3v1254 : Ti x4_3v1254 z2594 := by rw [ex4_3v1254]; exact t2595
      refine ⟨fun c2596 => ?_, fun c2596 => ?_⟩
      · replace c2596 := c_eq tx4_3v1254 lit_0 c2596
        unfold pX10_tellsApart_55
        obtain ⟨z2597, t2598, f2599⟩ := t_add tx3 lit_1
        first | replace f2599 := f2599 (by omega) | clear f2599
        intro x3_1v1255 ex3_1v1255
        have tx3_1v1255 : Ti x3_1v1255 z2597 := by rw [ex3_1v1255]; exact t2598
        exact ih _ _ _ _ _ _  tx1 tx2 tx3_1v1255 hI (by omega) (by omega) (by omega) (by omega) (by omega)
      · replace c2596 := c_neq tx4_3v1254 lit_0 c2596
        obtain ⟨z2600, t2601⟩ := t_any (x4_3v1254 &&& x1)
        refine ⟨fun c2602 => ?_, fun c2602 => ?_⟩
        · replace c2602 := c_neq t2601 lit_0 c2602
          unfold pX10_tellsApart_55
          obtain ⟨z2603, t2604, f2605⟩ := t_add tx3 lit_1
          first | replace f2605 := f2605 (by omega) | clear f2605
          intro x3_1v1256 ex3_1v1256
          have tx3_1v1256 : Ti x3_1v1256 z2603 := by rw [ex3_1v1256]; exact t2604
          exact ih _ _ _ _ _ _  tx1 tx2 tx3_1v1256 hI (by omega) (by omega) (by omega) (by omega) (by omega)
        · replace c2602 := c_eq t2601 lit_0 c2602
          exact hp _ _ lit_0 
set_option maxHeartbeats 4000000 in
set_option maxRecDepth 100000 in
theorem sX10_tellsApart_2 {T D : Int} {k : Nat} {post : Int32 → Wd → Prop} {w : Wd}  (hp : ∀ (r : Int32) (zr : Int), Ti r zr → post r w) : ∀ (n : Nat) (x1 : Int32) (x2 : Int32) (zx1 : Int) (zx2 : Int), Ti x1 zx1 → Ti x2 zx2 → IX k T D w → (0 ≤ zx2 ∧ zx2 ≤ 24) → (25 - zx2) < (n : Int) → pX10_tellsApart_2   post  n x1 x2 w := by
  intro n
  induction n with
  | zero =>
    intro x1 x2 zx1 zx2  tx1 tx2 hI h0 hm
    exact absurd hm (by omega)
  | succ n ih =>
    intro x1 x2 zx1 zx2  tx1 tx2 hI h0 hm
    unfold pX10_tellsApart_2
    have hk := ix_k hI
    obtain ⟨z2606, t2607⟩ := t_any (w.1 160 0)
    have f2608 := ixg_c0 hI t2607
    refine ⟨fun c2609 => ?_, fun c2609 => ?_⟩
    · replace c2609 := c_le t2607 tx2 c2609
      exact hp _ _ lit_1 
    · replace c2609 := c_nle t2607 tx2 c2609
      exact ⟨70000, sX10_tellsApart_15  (M2 := (n : Int)) (hk2 := ih)  (hp := hp) 70000 _ _ _ _ _ _  tx1 tx2 lit_0 hI (by omega) (by omega) (by omega) (by omega) (by omega)⟩
set_option maxHeartbeats 4000000 in
set_option maxRecDepth 100000 in
theorem sX10_tellsApart {T D : Int} {k : Nat} {post : Int32 → Wd → Prop} {x1 : Int32} {zx1 : Int} {w : Wd}  (tx1 : Ti x1 zx1) (hI : IX k T D w)  (hp : ∀ (r : Int32) (zr : Int), Ti r zr → post r w) : pX10_tellsApart   post  x1 w := by
  unfold pX10_tellsApart
  have hk := ix_k hI
  exact ⟨70000, sX10_tellsApart_2    (hp := hp) 70000 _ _ _ _  tx1 lit_1 hI (by omega) (by omega)⟩
set_option maxHeartbeats 4000000 in
set_option maxRecDepth 100000 in
theorem sX4_lay {T D : Int} {k : Nat} {post : Wd → Prop} {x1 : Int32} {zx1 : Int} {w : Wd}  (tx1 : Ti x1 zx1) (hI : IX k T D w)  (hp : ∀ (w9 : Wd), IX k T D w9 → post w9) : pX4_lay   post  x1 w := by
  unfold pX4_lay
  have hk := ix_k hI
  obtain ⟨z2610, t2611⟩ := t_any (w.1 110 1)
  have f2612 := ixg_110_1 hI t2611
  refine ⟨fun c2613 => ?_, fun c2613 => ?_⟩
  · replace c2613 := c_lt t2611 lit_0 c2613
    exact hp  _   hI 
  · replace c2613 := c_nlt t2611 lit_0 c2613
    refine ⟨fun c2614 => ?_, fun c2614 => ?_⟩
    · replace c2614 := c_le lit_16 t2611 c2614
      exact hp  _   hI 
    · replace c2614 := c_nle lit_16 t2611 c2614
      refine ⟨vp_of t2611 (by omega) (by omega), ?_⟩
      intro w_3v1257 ew_3v1257
      have hIw_3v1257 := ixs_A hI ew_3v1257 (by decide)
      intro w_4v1258 ew_4v1258
      have t2615 : Ti (w_3v1257.1 110 1) z2610 := by rw [e1_A ew_3v1257]; exact t2611
      obtain ⟨z2616, t2617, f2618⟩ := t_add t2615 lit_1
      first | replace f2618 := f2618 (by omega) | clear f2618
      have hIw_4v1258 := ixs_110_1 hIw_3v1257 ew_4v1258 t2617 (by omega) (by omega)
      exact hp  _   hIw_4v1258 
set_option maxHeartbeats 4000000 in
set_option maxRecDepth 100000 in
theorem sX10_tell_64 {T D : Int} {k : Nat} {post : Int32 → Wd → Prop}   (hp : ∀ (r : Int32) (zr : Int) (w9 : Wd), Ti r zr → IX k T D w9 → post r w9) : ∀ (n : Nat) (x1 : Int32) (x2 : Int32) (x3 : Int32) (zx1 : Int) (zx2 : Int) (zx3 : Int) (w : Wd), Ti x1 zx1 → Ti x2 zx2 → Ti x3 zx3 → IX k T D w → (0 ≤ zx3 ∧ zx3 ≤ 12) → (13 - zx3) < (n : Int) → pX10_tell_64   post  n x1 x2 x3 w := by
  intro n
  induction n with
  | zero =>
    intro x1 x2 x3 zx1 zx2 zx3 w tx1 tx2 tx3 hI h0 hm
    exact absurd hm (by omega)
  | succ n ih =>
    intro x1 x2 x3 zx1 zx2 zx3 w tx1 tx2 tx3 hI h0 hm
    unfold pX10_tell_64
    have hk := ix_k hI
    obtain ⟨z2619, t2620⟩ := t_any (w.1 (rl (w.2.2.2.2 0)) 0)
    have f2621 := ixg_r0 hI t2620
    refine ⟨fun c2622 => ?_, fun c2622 => ?_⟩
    · replace c2622 := c_le t2620 tx3 c2622
      exact hp _ _ _  tx1 hI 
    · replace c2622 := c_nle t2620 tx3 c2622
      obtain ⟨z2623, t2624, f2625⟩ := t_and (x := (x2 >>> (x3 &&& 31))) lit_1 (by decide)
      refine ⟨fun c2626 => ?_, fun c2626 => ?_⟩
      · replace c2626 := c_eq t2624 lit_0 c2626
        unfold pX10_tell_91
        obtain ⟨z2627, t2628, f2629⟩ := t_add tx3 lit_1
        first | replace f2629 := f2629 (by omega) | clear f2629
        intro x3_1v1260 ex3_1v1260
        have tx3_1v1260 : Ti x3_1v1260 z2627 := by rw [ex3_1v1260]; exact t2628
        exact ih _ _ _ _ _ _ _ tx1 tx2 tx3_1v1260 hI (by omega) (by omega)
      · replace c2626 := c_neq t2624 lit_0 c2626
        refine sX4_lay   (hI := hI) (tx1 := tx3)  (hp := fun  w_3v1259   hIw_3v1259  => ?_)
        unfold pX10_tell_91
        obtain ⟨z2630, t2631, f2632⟩ := t_add tx3 lit_1
        first | replace f2632 := f2632 (by omega) | clear f2632
        intro x3_1v1261 ex3_1v1261
        have tx3_1v1261 : Ti x3_1v1261 z2630 := by rw [ex3_1v1261]; exact t2631
        exact ih _ _ _ _ _ _ _ tx1 tx2 tx3_1v1261 hIw_3v1259 (by omega) (by omega)
set_option maxHeartbeats 4000000 in
set_option maxRecDepth 100000 in
theorem sX10_tell_14 {T D : Int} {k : Nat} {post : Int32 → Wd → Prop}   (hp : ∀ (r : Int32) (zr : Int) (w9 : Wd), Ti r zr → IX k T D w9 → post r w9) : ∀ (n : Nat) (x1 : Int32) (x2 : Int32) (x3 : Int32) (zx1 : Int) (zx2 : Int) (zx3 : Int) (w : Wd), Ti x1 zx1 → Ti x2 zx2 → Ti x3 zx3 → IX k T D w → (0 ≤ zx3 ∧ zx3 ≤ 4096) → (4097 - zx3) < (n : Int) → pX10_tell_14   post  n x1 x2 x3 w := by
  intro n
  induction n with
  | zero =>
    intro x1 x2 x3 zx1 zx2 zx3 w tx1 tx2 tx3 hI h0 hm
    exact absurd hm (by omega)
  | succ n ih =>
    intro x1 x2 x3 zx1 zx2 zx3 w tx1 tx2 tx3 hI h0 hm
    unfold pX10_tell_14
    have hk := ix_k hI
    refine sX7_rows   (hI := hI)   (hp := fun r_1v1262 zr_1v1262 tr_1v1262 p2633 => ?_)
    refine ⟨fun c2634 => ?_, fun c2634 => ?_⟩
    · replace c2634 := c_le tr_1v1262 tx3 c2634
      intro w_4v1271 ew_4v1271
      have hIw_4v1271 := ixs_110_1 hI ew_4v1271 lit_0 (by omega) (by omega)
      exact ⟨70000, sX10_tell_64    (hp := hp) 70000 _ _ _ _ _ _ _ tx1 tx2 lit_0 hIw_4v1271 (by omega) (by omega)⟩
    · replace c2634 := c_nle tr_1v1262 tx3 c2634
      refine sJ6_bitCount_0f7a4   (hI := hI) (tx0 := tx3)  (hp := fun r_5v1272 zr_5v1272 tr_5v1272 p2635 => ?_)
      refine ⟨fun c2636 => ?_, fun c2636 => ?_⟩
      · replace c2636 := c_le tx1 tr_5v1272 c2636
        unfold pX10_tell_48
        obtain ⟨z2637, t2638, f2639⟩ := t_add tx3 lit_1
        first | replace f2639 := f2639 (by omega) | clear f2639
        intro x3_1v1282 ex3_1v1282
        have tx3_1v1282 : Ti x3_1v1282 z2637 := by rw [ex3_1v1282]; exact t2638
        exact ih _ _ _ _ _ _ _ tx1 tx2 tx3_1v1282 hI (by omega) (by omega)
      · replace c2636 := c_nle tx1 tr_5v1272 c2636
        refine sX10_tellsApart   (hI := hI) (tx1 := tx3)  (hp := fun r_8v1278 zr_8v1278 tr_8v1278 => ?_)
        refine ⟨fun c2640 => ?_, fun c2640 => ?_⟩
        · replace c2640 := c_eq tr_8v1278 lit_0 c2640
          unfold pX10_tell_48
          obtain ⟨z2641, t2642, f2643⟩ := t_add tx3 lit_1
          first | replace f2643 := f2643 (by omega) | clear f2643
          intro x3_1v1285 ex3_1v1285
          have tx3_1v1285 : Ti x3_1v1285 z2641 := by rw [ex3_1v1285]; exact t2642
          exact ih _ _ _ _ _ _ _ tx1 tx2 tx3_1v1285 hI (by omega) (by omega)
        · replace c2640 := c_neq tr_8v1278 lit_0 c2640
          refine sJ6_bitCount_0f7a4   (hI := hI) (tx0 := tx3)  (hp := fun r_11v1283 zr_11v1283 tr_11v1283 p2644 => ?_)
          unfold pX10_tell_48
          obtain ⟨z2645, t2646, f2647⟩ := t_add tx3 lit_1
          first | replace f2647 := f2647 (by omega) | clear f2647
          intro x3_1v1286 ex3_1v1286
          have tx3_1v1286 : Ti x3_1v1286 z2645 := by rw [ex3_1v1286]; exact t2646
          exact ih _ _ _ _ _ _ _ tr_11v1283 tx3 tx3_1v1286 hI (by omega) (by omega)
set_option maxHeartbeats 4000000 in
set_option maxRecDepth 100000 in
theorem sX10_tell {T D : Int} {k : Nat} {post : Int32 → Wd → Prop}  {w : Wd}   (hI : IX k T D w)  (hp : ∀ (r : Int32) (zr : Int) (w9 : Wd), Ti r zr → IX k T D w9 → post r w9) : pX10_tell   post   w := by
  unfold pX10_tell
  have hk := ix_k hI
  obtain ⟨z2648, t2649⟩ := t_any (w.1 (rl (w.2.2.2.2 0)) 0)
  have f2650 := ixg_r0 hI t2649
  obtain ⟨z2651, t2652, f2653⟩ := t_add t2649 lit_1
  first | replace f2653 := f2653 (by omega) | clear f2653
  intro x1_1v1287 ex1_1v1287
  have tx1_1v1287 : Ti x1_1v1287 z2651 := by rw [ex1_1v1287]; exact t2652
  exact ⟨70000, sX10_tell_14    (hp := hp) 70000 _ _ _ _ _ _ _ tx1_1v1287 lit_0 lit_0 hI (by omega) (by omega)⟩
set_option maxHeartbeats 4000000 in
set_option maxRecDepth 100000 in
theorem sX10_round_46 {T D : Int} {k : Nat} {post : Int32 → Wd → Prop}   (hp : ∀ (r : Int32) (zr : Int) (w9 : Wd), Ti r zr → IX k T D w9 → post r w9) : ∀ (n : Nat) (x4 : Int32) (x5 : Int32) (x6 : Int32) (x7 : Int32) (zx4 : Int) (zx5 : Int) (zx6 : Int) (zx7 : Int) (w : Wd), Ti x4 zx4 → Ti x5 zx5 → Ti x6 zx6 → Ti x7 zx7 → IX k T D w → (0 ≤ zx7 ∧ zx7 ≤ 4096) → (4097 - zx7) < (n : Int) → pX10_round_46   post  n x4 x5 x6 x7 w := by
  intro n
  induction n with
  | zero =>
    intro x4 x5 x6 x7 zx4 zx5 zx6 zx7 w tx4 tx5 tx6 tx7 hI h0 hm
    exact absurd hm (by omega)
  | succ n ih =>
    intro x4 x5 x6 x7 zx4 zx5 zx6 zx7 w tx4 tx5 tx6 tx7 hI h0 hm
    unfold pX10_round_46
    have hk := ix_k hI
    refine sX7_rows   (hI := hI)   (hp := fun r_1v1288 zr_1v1288 tr_1v1288 p2654 => ?_)
    refine ⟨fun c2655 => ?_, fun c2655 => ?_⟩
    · replace c2655 := c_le tr_1v1288 tx7 c2655
      refine ⟨fun c2656 => ?_, fun c2656 => ?_⟩
      · replace c2656 := c_eq tx4 lit_0 c2656
        exact hp _ _ _  tx6 hI 
      · replace c2656 := c_neq tx4 lit_0 c2656
        refine sX10_isRow   (hI := hI) (tx1 := tx5)  (hp := fun r_5v1294 zr_5v1294 tr_5v1294 p2657 => ?_)
        refine ⟨fun c2658 => ?_, fun c2658 => ?_⟩
        · replace c2658 := c_neq tr_5v1294 lit_0 c2658
          refine ⟨vp_of tx5 (by omega) (by omega), ?_⟩
          obtain ⟨z2659, t2660⟩ := t_any (w.2.1 13 x5.toNatClampNeg)
          obtain ⟨z2661, t2662, f2663⟩ := t_sub t2660 lit_1
          first | replace f2663 := f2663 (by omega) | clear f2663
          obtain ⟨z2664, t2665, f2666⟩ := t_sub tx6 t2662
          first | replace f2666 := f2666 (by omega) | clear f2666
          exact hp _ _ _  t2665 hI 
        · replace c2658 := c_eq tr_5v1294 lit_0 c2658
          exact hp _ _ _  tx6 hI 
    · replace c2655 := c_nle tr_1v1288 tx7 c2655
      refine ⟨vp_of tx7 (by omega) (by omega), ?_⟩
      obtain ⟨z2667, t2668⟩ := t_any (w.2.1 13 x7.toNatClampNeg)
      obtain ⟨z2669, t2670, f2671⟩ := t_ite tx6 t2668 t2668 tx6
      intro x6_8v1296 ex6_8v1296
      have tx6_8v1296 : Ti x6_8v1296 z2669 := by rw [ex6_8v1296]; exact t2670
      obtain ⟨z2672, t2673, f2674⟩ := t_add tx7 lit_1
      first | replace f2674 := f2674 (by omega) | clear f2674
      intro x7_9v1297 ex7_9v1297
      have tx7_9v1297 : Ti x7_9v1297 z2672 := by rw [ex7_9v1297]; exact t2673
      exact ih _ _ _ _ _ _ _ _ _ tx4 tx5 tx6_8v1296 tx7_9v1297 hI (by omega) (by omega)
set_option maxHeartbeats 4000000 in
set_option maxRecDepth 100000 in
theorem sX10_round {T D : Int} {k : Nat} {post : Int32 → Wd → Prop} {x1 : Int32} {zx1 : Int} {x2 : Int32} {zx2 : Int} {x3 : Int32} {zx3 : Int} {x4 : Int32} {zx4 : Int} {w : Wd}  (tx1 : Ti x1 zx1) (tx2 : Ti x2 zx2) (tx3 : Ti x3 zx3) (tx4 : Ti x4 zx4) (hI : IX k T D w)  (hp : ∀ (r : Int32) (zr : Int) (w9 : Wd), Ti r zr → IX k T D w9 → post r w9) : pX10_round   post  x1 x2 x3 x4 w := by
  unfold pX10_round
  have hk := ix_k hI
  refine sX10_canCast   (hI := hI) (tx1 := tx1) (tx2 := tx2) (tx3 := tx3)  (hp := fun r_1v1298 zr_1v1298 tr_1v1298 p2675 => ?_)
  refine ⟨fun c2676 => ?_, fun c2676 => ?_⟩
  · replace c2676 := c_eq tr_1v1298 lit_0 c2676
    exact hp _ _ _  lit_m1 hI 
  · replace c2676 := c_neq tr_1v1298 lit_0 c2676
    refine ⟨fun c2677 => ?_, fun c2677 => ?_⟩
    · replace c2677 := c_lt tx4 lit_0 c2677
      exact hp _ _ _  lit_m1 hI 
    · replace c2677 := c_nlt tx4 lit_0 c2677
      refine ⟨fun c2678 => ?_, fun c2678 => ?_⟩
      · replace c2678 := c_le tx4 lit_1 c2678
        refine ⟨vp_of tx1 (by omega) (by omega), ?_⟩
        obtain ⟨z2679, t2680⟩ := t_any (w.2.1 162 x1.toNatClampNeg)
        refine sX10_goRound   (hI := hI) (tx1 := t2680) (tx2 := tx2) (tx3 := tx3)  (hp := fun r_6v1302 zr_6v1302 w_7v1303  tr_6v1302 hIw_7v1303  => ?_)
        exact ⟨70000, sX10_round_46    (hp := hp) 70000 _ _ _ _ _ _ _ _ _ tx4 tr_6v1302 lit_0 lit_0 hIw_7v1303 (by omega) (by omega)⟩
      · replace c2678 := c_nle tx4 lit_1 c2678
        exact hp _ _ _  lit_m1 hI 
set_option maxHeartbeats 4000000 in
set_option maxRecDepth 100000 in
theorem sX10_steady_78 {T D : Int} {k : Nat} {post : Int32 → Wd → Prop}   (hp : ∀ (r : Int32) (zr : Int) (w9 : Wd), Ti r zr → IX k T D w9 → post r w9) : ∀ (n : Nat) (x3 : Int32) (x4 : Int32) (x5 : Int32) (x6 : Int32) (x7 : Int32) (zx3 : Int) (zx4 : Int) (zx5 : Int) (zx6 : Int) (zx7 : Int) (w : Wd), Ti x3 zx3 → Ti x4 zx4 → Ti x5 zx5 → Ti x6 zx6 → Ti x7 zx7 → IX k T D w → (0 ≤ zx7 ∧ zx7 ≤ 4096) → (4097 - zx7) < (n : Int) → pX10_steady_78   post  n x3 x4 x5 x6 x7 w := by
  intro n
  induction n with
  | zero =>
    intro x3 x4 x5 x6 x7 zx3 zx4 zx5 zx6 zx7 w tx3 tx4 tx5 tx6 tx7 hI h0 hm
    exact absurd hm (by omega)
  | succ n ih =>
    intro x3 x4 x5 x6 x7 zx3 zx4 zx5 zx6 zx7 w tx3 tx4 tx5 tx6 tx7 hI h0 hm
    unfold pX10_steady_78
    have hk := ix_k hI
    refine sX7_rows   (hI := hI)   (hp := fun r_1v1304 zr_1v1304 tr_1v1304 p2681 => ?_)
    refine ⟨fun c2682 => ?_, fun c2682 => ?_⟩
    · replace c2682 := c_le tr_1v1304 tx7 c2682
      refine ⟨fun c2683 => ?_, fun c2683 => ?_⟩
      · replace c2683 := c_neq tx3 lit_0 c2683
        exact hp _ _ _  tx6 hI 
      · replace c2683 := c_eq tx3 lit_0 c2683
        exact hp _ _ _  tx4 hI 
    · replace c2682 := c_nle tr_1v1304 tx7 c2682
      refine ⟨vp_of tx7 (by omega) (by omega), ?_⟩
      obtain ⟨z2684, t2685⟩ := t_any (w.2.1 13 x7.toNatClampNeg)
      refine sX10_isRow   (hI := hI) (tx1 := t2685)  (hp := fun r_5v1313 zr_5v1313 tr_5v1313 p2686 => ?_)
      refine ⟨fun c2687 => ?_, fun c2687 => ?_⟩
      · replace c2687 := c_eq tr_5v1313 lit_0 c2687
        unfold pX10_steady_145
        obtain ⟨z2688, t2689, f2690⟩ := t_add tx7 lit_1
        first | replace f2690 := f2690 (by omega) | clear f2690
        intro x7_1v1325 ex7_1v1325
        have tx7_1v1325 : Ti x7_1v1325 z2688 := by rw [ex7_1v1325]; exact t2689
        exact ih _ _ _ _ _ _ _ _ _ _ _ tx3 tx4 tx5 tx6 tx7_1v1325 hI (by omega) (by omega)
      · replace c2687 := c_neq tr_5v1313 lit_0 c2687
        refine ⟨vp_of tx7 (by omega) (by omega), ?_⟩
        refine ⟨vp_of t2685 (by omega) (by omega), ?_⟩
        obtain ⟨z2691, t2692⟩ := t_any (w.2.1 13 (w.2.1 13 x7.toNatClampNeg).toNatClampNeg)
        refine ⟨fun c2693 => ?_, fun c2693 => ?_⟩
        · replace c2693 := c_neq t2692 tx7 c2693
          unfold pX10_steady_145
          obtain ⟨z2694, t2695, f2696⟩ := t_add tx7 lit_1
          first | replace f2696 := f2696 (by omega) | clear f2696
          intro x7_1v1326 ex7_1v1326
          have tx7_1v1326 : Ti x7_1v1326 z2694 := by rw [ex7_1v1326]; exact t2695
          exact ih _ _ _ _ _ _ _ _ _ _ _ tx3 tx4 tx5 tx6 tx7_1v1326 hI (by omega) (by omega)
        · replace c2693 := c_eq t2692 tx7 c2693
          obtain ⟨z2697, t2698, f2699⟩ := t_add tx4 lit_1
          first | replace f2699 := f2699 (by omega) | clear f2699
          intro x4_9v1320 ex4_9v1320
          have tx4_9v1320 : Ti x4_9v1320 z2697 := by rw [ex4_9v1320]; exact t2698
          refine sJ6_bitCount_0f7a4   (hI := hI) (tx0 := tx7)  (hp := fun r_10v1321 zr_10v1321 tr_10v1321 p2700 => ?_)
          refine ⟨fun c2701 => ?_, fun c2701 => ?_⟩
          · replace c2701 := c_le tr_10v1321 tx5 c2701
            unfold pX10_steady_145
            obtain ⟨z2702, t2703, f2704⟩ := t_add tx7 lit_1
            first | replace f2704 := f2704 (by omega) | clear f2704
            intro x7_1v1329 ex7_1v1329
            have tx7_1v1329 : Ti x7_1v1329 z2702 := by rw [ex7_1v1329]; exact t2703
            exact ih _ _ _ _ _ _ _ _ _ _ _ tx3 tx4_9v1320 tx5 tx6 tx7_1v1329 hI (by omega) (by omega)
          · replace c2701 := c_nle tr_10v1321 tx5 c2701
            refine sJ6_bitCount_0f7a4   (hI := hI) (tx0 := tx7)  (hp := fun r_13v1327 zr_13v1327 tr_13v1327 p2705 => ?_)
            unfold pX10_steady_145
            obtain ⟨z2706, t2707, f2708⟩ := t_add tx7 lit_1
            first | replace f2708 := f2708 (by omega) | clear f2708
            intro x7_1v1330 ex7_1v1330
            have tx7_1v1330 : Ti x7_1v1330 z2706 := by rw [ex7_1v1330]; exact t2707
            exact ih _ _ _ _ _ _ _ _ _ _ _ tx3 tx4_9v1320 tr_13v1327 tx7 tx7_1v1330 hI (by omega) (by omega)
set_option maxHeartbeats 4000000 in
set_option maxRecDepth 100000 in
theorem sX10_steady_29 {T D : Int} {k : Nat} {post : Int32 → Wd → Prop}   (hp : ∀ (r : Int32) (zr : Int) (w9 : Wd), Ti r zr → IX k T D w9 → post r w9) : ∀ (n : Nat) (x1 : Int32) (x2 : Int32) (x3 : Int32) (x4 : Int32) (zx1 : Int) (zx2 : Int) (zx3 : Int) (zx4 : Int) (w : Wd), Ti x1 zx1 → Ti x2 zx2 → Ti x3 zx3 → Ti x4 zx4 → IX k T D w → (0 ≤ zx4 ∧ zx4 ≤ 4096) → (4097 - zx4) < (n : Int) → pX10_steady_29   post  n x1 x2 x3 x4 w := by
  intro n
  induction n with
  | zero =>
    intro x1 x2 x3 x4 zx1 zx2 zx3 zx4 w tx1 tx2 tx3 tx4 hI h0 hm
    exact absurd hm (by omega)
  | succ n ih =>
    intro x1 x2 x3 x4 zx1 zx2 zx3 zx4 w tx1 tx2 tx3 tx4 hI h0 hm
    unfold pX10_steady_29
    have hk := ix_k hI
    refine sX7_rows   (hI := hI)   (hp := fun r_1v1331 zr_1v1331 tr_1v1331 p2709 => ?_)
    refine ⟨fun c2710 => ?_, fun c2710 => ?_⟩
    · replace c2710 := c_le tr_1v1331 tx4 c2710
      exact ⟨70000, sX10_steady_78    (hp := hp) 70000 _ _ _ _ _ _ _ _ _ _ _ tx3 lit_0 lit_m1 lit_m1 lit_0 hI (by omega) (by omega)⟩
    · replace c2710 := c_nle tr_1v1331 tx4 c2710
      refine sX1_rowAfter   (hI := hI) (tx1 := tx4) (tx2 := tx1) (tx3 := tx2) (tx4 := lit_0)  (hp := fun r_4v1337 zr_4v1337 w_5v1338  tr_4v1337 hIw_5v1338  => ?_)
      refine ⟨vp_of tx4 (by omega) (by omega), ?_⟩
      intro w_6v1339 ew_6v1339
      have hIw_6v1339 := ixs_A hIw_5v1338 ew_6v1339 (by decide)
      obtain ⟨z2711, t2712, f2713⟩ := t_add tx4 lit_1
      first | replace f2713 := f2713 (by omega) | clear f2713
      intro x4_7v1340 ex4_7v1340
      have tx4_7v1340 : Ti x4_7v1340 z2711 := by rw [ex4_7v1340]; exact t2712
      exact ih _ _ _ _ _ _ _ _ _ tx1 tx2 tx3 tx4_7v1340 hIw_6v1339 (by omega) (by omega)
set_option maxHeartbeats 4000000 in
set_option maxRecDepth 100000 in
theorem sX10_steady {T D : Int} {k : Nat} {post : Int32 → Wd → Prop} {x1 : Int32} {zx1 : Int} {x2 : Int32} {zx2 : Int} {x3 : Int32} {zx3 : Int} {w : Wd}  (tx1 : Ti x1 zx1) (tx2 : Ti x2 zx2) (tx3 : Ti x3 zx3) (hI : IX k T D w)  (hp : ∀ (r : Int32) (zr : Int) (w9 : Wd), Ti r zr → IX k T D w9 → post r w9) : pX10_steady   post  x1 x2 x3 w := by
  unfold pX10_steady
  have hk := ix_k hI
  refine sX10_isHand   (hI := hI) (tx1 := tx1)  (hp := fun r_1v1341 zr_1v1341 tr_1v1341 p2714 => ?_)
  refine ⟨fun c2715 => ?_, fun c2715 => ?_⟩
  · replace c2715 := c_eq tr_1v1341 lit_0 c2715
    exact hp _ _ _  lit_m1 hI 
  · replace c2715 := c_neq tr_1v1341 lit_0 c2715
    refine sX10_isHeat   (hI := hI) (tx0 := tx2)  (hp := fun r_4v1345 zr_4v1345 tr_4v1345 p2716 => ?_)
    refine ⟨fun c2717 => ?_, fun c2717 => ?_⟩
    · replace c2717 := c_eq tr_4v1345 lit_0 c2717
      exact hp _ _ _  lit_m1 hI 
    · replace c2717 := c_neq tr_4v1345 lit_0 c2717
      refine ⟨fun c2718 => ?_, fun c2718 => ?_⟩
      · replace c2718 := c_lt tx3 lit_0 c2718
        exact hp _ _ _  lit_m1 hI 
      · replace c2718 := c_nlt tx3 lit_0 c2718
        refine ⟨fun c2719 => ?_, fun c2719 => ?_⟩
        · replace c2719 := c_le tx3 lit_1 c2719
          exact ⟨70000, sX10_steady_29    (hp := hp) 70000 _ _ _ _ _ _ _ _ _ tx1 tx2 tx3 lit_0 hI (by omega) (by omega)⟩
        · replace c2719 := c_nle tx3 lit_1 c2719
          exact hp _ _ _  lit_m1 hI 
set_option maxHeartbeats 4000000 in
set_option maxRecDepth 100000 in
theorem sX10_against_31 {T D : Int} {k : Nat} {post : Int32 → Wd → Prop}   (hp : ∀ (r : Int32) (zr : Int) (w9 : Wd), Ti r zr → IX k T D w9 → post r w9) : ∀ (n : Nat) (x1 : Int32) (x2 : Int32) (x3 : Int32) (x4 : Int32) (x5 : Int32) (zx1 : Int) (zx2 : Int) (zx3 : Int) (zx4 : Int) (zx5 : Int) (w : Wd), Ti x1 zx1 → Ti x2 zx2 → Ti x3 zx3 → Ti x4 zx4 → Ti x5 zx5 → IX k T D w → (0 ≤ zx5 ∧ zx5 ≤ 4096) → (4097 - zx5) < (n : Int) → pX10_against_31   post  n x1 x2 x3 x4 x5 w := by
  intro n
  induction n with
  | zero =>
    intro x1 x2 x3 x4 x5 zx1 zx2 zx3 zx4 zx5 w tx1 tx2 tx3 tx4 tx5 hI h0 hm
    exact absurd hm (by omega)
  | succ n ih =>
    intro x1 x2 x3 x4 x5 zx1 zx2 zx3 zx4 zx5 w tx1 tx2 tx3 tx4 tx5 hI h0 hm
    unfold pX10_against_31
    have hk := ix_k hI
    refine sX7_rows   (hI := hI)   (hp := fun r_1v1347 zr_1v1347 tr_1v1347 p2720 => ?_)
    refine ⟨fun c2721 => ?_, fun c2721 => ?_⟩
    · replace c2721 := c_le tr_1v1347 tx5 c2721
      exact hp _ _ _  tx4 hI 
    · replace c2721 := c_nle tr_1v1347 tx5 c2721
      refine sX1_rowAfter   (hI := hI) (tx1 := tx5) (tx2 := tx1) (tx3 := tx3) (tx4 := lit_0)  (hp := fun r_4v1354 zr_4v1354 w_5v1355  tr_4v1354 hIw_5v1355  => ?_)
      refine sX1_rowAfter   (hI := hIw_5v1355) (tx1 := tx5) (tx2 := tx2) (tx3 := tx3) (tx4 := lit_0)  (hp := fun r_6v1356 zr_6v1356 w_7v1357  tr_6v1356 hIw_7v1357  => ?_)
      refine ⟨fun c2722 => ?_, fun c2722 => ?_⟩
      · replace c2722 := c_eq tr_4v1354 tr_6v1356 c2722
        unfold pX10_against_73
        obtain ⟨z2723, t2724, f2725⟩ := t_add tx5 lit_1
        first | replace f2725 := f2725 (by omega) | clear f2725
        intro x5_1v1359 ex5_1v1359
        have tx5_1v1359 : Ti x5_1v1359 z2723 := by rw [ex5_1v1359]; exact t2724
        exact ih _ _ _ _ _ _ _ _ _ _ _ tx1 tx2 tx3 tx4 tx5_1v1359 hIw_7v1357 (by omega) (by omega)
      · replace c2722 := c_neq tr_4v1354 tr_6v1356 c2722
        obtain ⟨z2726, t2727, f2728⟩ := t_add tx4 lit_1
        first | replace f2728 := f2728 (by omega) | clear f2728
        intro x4_9v1358 ex4_9v1358
        have tx4_9v1358 : Ti x4_9v1358 z2726 := by rw [ex4_9v1358]; exact t2727
        unfold pX10_against_73
        obtain ⟨z2729, t2730, f2731⟩ := t_add tx5 lit_1
        first | replace f2731 := f2731 (by omega) | clear f2731
        intro x5_1v1360 ex5_1v1360
        have tx5_1v1360 : Ti x5_1v1360 z2729 := by rw [ex5_1v1360]; exact t2730
        exact ih _ _ _ _ _ _ _ _ _ _ _ tx1 tx2 tx3 tx4_9v1358 tx5_1v1360 hIw_7v1357 (by omega) (by omega)
set_option maxHeartbeats 4000000 in
set_option maxRecDepth 100000 in
theorem sX10_against {T D : Int} {k : Nat} {post : Int32 → Wd → Prop} {x1 : Int32} {zx1 : Int} {x2 : Int32} {zx2 : Int} {x3 : Int32} {zx3 : Int} {w : Wd}  (tx1 : Ti x1 zx1) (tx2 : Ti x2 zx2) (tx3 : Ti x3 zx3) (hI : IX k T D w)  (hp : ∀ (r : Int32) (zr : Int) (w9 : Wd), Ti r zr → IX k T D w9 → post r w9) : pX10_against   post  x1 x2 x3 w := by
  unfold pX10_against
  have hk := ix_k hI
  refine sX10_isHand   (hI := hI) (tx1 := tx1)  (hp := fun r_1v1361 zr_1v1361 tr_1v1361 p2732 => ?_)
  refine ⟨fun c2733 => ?_, fun c2733 => ?_⟩
  · replace c2733 := c_eq tr_1v1361 lit_0 c2733
    exact hp _ _ _  lit_m1 hI 
  · replace c2733 := c_neq tr_1v1361 lit_0 c2733
    refine sX10_isHand   (hI := hI) (tx1 := tx2)  (hp := fun r_4v1367 zr_4v1367 tr_4v1367 p2734 => ?_)
    refine ⟨fun c2735 => ?_, fun c2735 => ?_⟩
    · replace c2735 := c_eq tr_4v1367 lit_0 c2735
      exact hp _ _ _  lit_m1 hI 
    · replace c2735 := c_neq tr_4v1367 lit_0 c2735
      refine sX10_isHeat   (hI := hI) (tx0 := tx3)  (hp := fun r_7v1371 zr_7v1371 tr_7v1371 p2736 => ?_)
      refine ⟨fun c2737 => ?_, fun c2737 => ?_⟩
      · replace c2737 := c_neq tr_7v1371 lit_0 c2737
        exact ⟨70000, sX10_against_31    (hp := hp) 70000 _ _ _ _ _ _ _ _ _ _ _ tx1 tx2 tx3 lit_0 lit_0 hI (by omega) (by omega)⟩
      · replace c2737 := c_eq tr_7v1371 lit_0 c2737
        exact hp _ _ _  lit_m1 hI 
set_option maxHeartbeats 4000000 in
set_option maxRecDepth 100000 in
theorem sX1_handCount {T D : Int} {k : Nat} {post : Int32 → Wd → Prop}  {w : Wd}   (hI : IX k T D w)  (hp : ∀ (r : Int32) (zr : Int), Ti r zr → (0 ≤ zr ∧ zr ≤ 4) → post r w) : pX1_handCount   post   w := by
  unfold pX1_handCount
  have hk := ix_k hI
  obtain ⟨z2738, t2739⟩ := t_any (w.1 (rl (w.2.2.2.2 3)) 2)
  have f2740 := ixg_r2 hI t2739
  exact hp _ _ t2739 (by omega)
set_option maxHeartbeats 4000000 in
set_option maxRecDepth 100000 in
theorem sX1_isHeatUsed {T D : Int} {k : Nat} {post : Int32 → Wd → Prop} {x1 : Int32} {zx1 : Int} {w : Wd}  (tx1 : Ti x1 zx1) (hI : IX k T D w)  (hp : ∀ (r : Int32) (zr : Int), Ti r zr → ((zr = 0 ∨ zr = 1)) → post r w) : pX1_isHeatUsed   post  x1 w := by
  unfold pX1_isHeatUsed
  have hk := ix_k hI
  refine sX7_isUsed   (hI := hI) (tx1 := tx1) (tx2 := lit_6)  (hp := fun r_1v1373 zr_1v1373 tr_1v1373 p2741 => ?_)
  refine ⟨nar_ok tr_1v1373 (by omega), ?_⟩
  exact hp _ _ tr_1v1373 (by omega)
set_option maxHeartbeats 4000000 in
set_option maxRecDepth 100000 in
theorem sX9_heatsOf {T D : Int} {k : Nat} {post : Int32 → Wd → Prop} {x1 : Int32} {zx1 : Int} {w : Wd}  (tx1 : Ti x1 zx1) (hI : IX k T D w)  (hp : ∀ (r : Int32) (zr : Int), Ti r zr → (0 ≤ zr ∧ zr ≤ 4) → post r w) : pX9_heatsOf   post  x1 w := by
  unfold pX9_heatsOf
  have hk := ix_k hI
  refine sX1_isHeatUsed   (hI := hI) (tx1 := tx1)  (hp := fun r_1v1375 zr_1v1375 tr_1v1375 p2742 => ?_)
  refine ⟨fun c2743 => ?_, fun c2743 => ?_⟩
  · replace c2743 := c_eq tr_1v1375 lit_0 c2743
    exact hp _ _ lit_1 (by omega)
  · replace c2743 := c_neq tr_1v1375 lit_0 c2743
    exact hp _ _ lit_4 (by omega)
set_option maxHeartbeats 4000000 in
set_option maxRecDepth 100000 in
theorem sX9_waxFrom_112 {T D : Int} {k : Nat} {k97 : Int32 → Int32 → Int32 → Int32 → Int32 → Int32 → Wd → Prop} {M97 : Int} {qX9_waxFrom : (Int32 → Wd → Prop) → Int32 → Int32 → Wd → Prop} {Mq : Int} {post : Int32 → Wd → Prop}  (hk97 : ∀ (x1 : Int32) (x2 : Int32) (x3 : Int32) (x4 : Int32) (x5 : Int32) (x6 : Int32) (zx1 : Int) (zx2 : Int) (zx3 : Int) (zx4 : Int) (zx5 : Int) (zx6 : Int) (w : Wd), Ti x1 zx1 → Ti x2 zx2 → Ti x3 zx3 → Ti x4 zx4 → Ti x5 zx5 → Ti x6 zx6 → IX k T D w → (0 ≤ zx6 ∧ zx6 ≤ 4) → ((zx4 = 0 ∨ (0 ≤ zx3 ∧ zx3 < 12288))) → (1 ≤ zx2 ∧ zx2 ≤ 4) → (zx2 + 1 ≤ Mq) → (5 - zx6) < M97 → k97 x1 x2 x3 x4 x5 x6 w) (hqX9_waxFrom : ∀ (post : Int32 → Wd → Prop) (x1 : Int32) (x2 : Int32) (zx1 : Int) (zx2 : Int) (w : Wd), Ti x1 zx1 → Ti x2 zx2 → IX k T D w → (-1 ≤ zx2 ∧ zx2 ≤ 4) → (zx2 + 1) < Mq → (∀ (r : Int32) (zr : Int) (w9 : Wd), Ti r zr → IX k T D w9 → post r w9) → qX9_waxFrom post x1 x2 w) (hp : ∀ (r : Int32) (zr : Int) (w9 : Wd), Ti r zr → IX k T D w9 → post r w9) : ∀ (n : Nat) (x1 : Int32) (x2 : Int32) (x3 : Int32) (x4 : Int32) (x5 : Int32) (x6 : Int32) (x7 : Int32) (zx1 : Int) (zx2 : Int) (zx3 : Int) (zx4 : Int) (zx5 : Int) (zx6 : Int) (zx7 : Int) (w : Wd), Ti x1 zx1 → Ti x2 zx2 → Ti x3 zx3 → Ti x4 zx4 → Ti x5 zx5 → Ti x6 zx6 → Ti x7 zx7 → IX k T D w → (0 ≤ zx7 ∧ zx7 ≤ 4) → (zx6 ≤ 3) → (0 ≤ zx6 ∧ zx6 ≤ 4) → ((zx4 = 0 ∨ (0 ≤ zx3 ∧ zx3 < 12288))) → (1 ≤ zx2 ∧ zx2 ≤ 4) → ((5 - zx6) ≤ M97) → (zx2 + 1 ≤ Mq) → (5 - zx7) < (n : Int) → pX9_waxFrom_112 k97 qX9_waxFrom post  n x1 x2 x3 x4 x5 x6 x7 w := by
  intro n
  induction n with
  | zero =>
    intro x1 x2 x3 x4 x5 x6 x7 zx1 zx2 zx3 zx4 zx5 zx6 zx7 w tx1 tx2 tx3 tx4 tx5 tx6 tx7 hI h0 h1 h2 h3 h4 h5 h6 hm
    exact absurd hm (by omega)
  | succ n ih =>
    intro x1 x2 x3 x4 x5 x6 x7 zx1 zx2 zx3 zx4 zx5 zx6 zx7 w tx1 tx2 tx3 tx4 tx5 tx6 tx7 hI h0 h1 h2 h3 h4 h5 h6 hm
    unfold pX9_waxFrom_112
    have hk := ix_k hI
    refine sX9_heatsOf   (hI := hI) (tx1 := tx6)  (hp := fun r_1v1377 zr_1v1377 tr_1v1377 p2744 => ?_)
    refine ⟨fun c2745 => ?_, fun c2745 => ?_⟩
    · replace c2745 := c_le tr_1v1377 tx7 c2745
      unfold pX9_waxFrom_174
      obtain ⟨z2746, t2747, f2748⟩ := t_add tx6 lit_1
      first | replace f2748 := f2748 (by omega) | clear f2748
      intro x6_1v1391 ex6_1v1391
      have tx6_1v1391 : Ti x6_1v1391 z2746 := by rw [ex6_1v1391]; exact t2747
      exact hk97 _ _ _ _ _ _ _ _ _ _ _ _ _ tx1 tx2 tx3 tx4 tx5 tx6_1v1391 hI (by omega) (by omega) (by omega) (by omega) (by omega)
    · replace c2745 := c_nle tr_1v1377 tx7 c2745
      obtain ⟨z2749, t2750, f2751⟩ := t_add lit_1 tx7
      first | replace f2751 := f2751 (by omega) | clear f2751
      refine ⟨fun c2752 => ?_, fun c2752 => ?_⟩
      · replace c2752 := c_le tx5 t2750 c2752
        unfold pX9_waxFrom_174
        obtain ⟨z2753, t2754, f2755⟩ := t_add tx6 lit_1
        first | replace f2755 := f2755 (by omega) | clear f2755
        intro x6_1v1392 ex6_1v1392
        have tx6_1v1392 : Ti x6_1v1392 z2753 := by rw [ex6_1v1392]; exact t2754
        exact hk97 _ _ _ _ _ _ _ _ _ _ _ _ _ tx1 tx2 tx3 tx4 tx5 tx6_1v1392 hI (by omega) (by omega) (by omega) (by omega) (by omega)
      · replace c2752 := c_nle tx5 t2750 c2752
        refine sX1_rowAfter   (hI := hI) (tx1 := tx1) (tx2 := tx6) (tx3 := tx7) (tx4 := lit_0)  (hp := fun r_5v1385 zr_5v1385 w_6v1386  tr_5v1385 hIw_6v1386  => ?_)
        obtain ⟨z2756, t2757, f2758⟩ := t_sub tx2 lit_1
        first | replace f2758 := f2758 (by omega) | clear f2758
        refine hqX9_waxFrom _ _ _ _ _ _ tr_5v1385 t2757 hIw_6v1386 (by omega) (by omega) (fun r_7v1387 zr_7v1387 w_8v1388  tr_7v1387 hIw_8v1388  => ?_)
        obtain ⟨z2759, t2760, f2761⟩ := t_add t2750 tr_7v1387
        first | replace f2761 := f2761 (by omega) | clear f2761
        obtain ⟨z2762, t2763, f2764⟩ := t_ite t2760 tx5 t2760 tx5
        intro x5_9v1389 ex5_9v1389
        have tx5_9v1389 : Ti x5_9v1389 z2762 := by rw [ex5_9v1389]; exact t2763
        obtain ⟨z2765, t2766, f2767⟩ := t_add tx7 lit_1
        first | replace f2767 := f2767 (by omega) | clear f2767
        intro x7_10v1390 ex7_10v1390
        have tx7_10v1390 : Ti x7_10v1390 z2765 := by rw [ex7_10v1390]; exact t2766
        exact ih _ _ _ _ _ _ _ _ _ _ _ _ _ _ _ tx1 tx2 tx3 tx4 tx5_9v1389 tx6 tx7_10v1390 hIw_8v1388 (by omega) (by omega) (by omega) (by omega) (by omega) (by omega) (by omega) (by omega)
set_option maxHeartbeats 4000000 in
set_option maxRecDepth 100000 in
theorem sX9_waxFrom_97 {T D : Int} {k : Nat} {qX9_waxFrom : (Int32 → Wd → Prop) → Int32 → Int32 → Wd → Prop} {Mq : Int} {post : Int32 → Wd → Prop}  (hqX9_waxFrom : ∀ (post : Int32 → Wd → Prop) (x1 : Int32) (x2 : Int32) (zx1 : Int) (zx2 : Int) (w : Wd), Ti x1 zx1 → Ti x2 zx2 → IX k T D w → (-1 ≤ zx2 ∧ zx2 ≤ 4) → (zx2 + 1) < Mq → (∀ (r : Int32) (zr : Int) (w9 : Wd), Ti r zr → IX k T D w9 → post r w9) → qX9_waxFrom post x1 x2 w) (hp : ∀ (r : Int32) (zr : Int) (w9 : Wd), Ti r zr → IX k T D w9 → post r w9) : ∀ (n : Nat) (x1 : Int32) (x2 : Int32) (x3 : Int32) (x4 : Int32) (x5 : Int32) (x6 : Int32) (zx1 : Int) (zx2 : Int) (zx3 : Int) (zx4 : Int) (zx5 : Int) (zx6 : Int) (w : Wd), Ti x1 zx1 → Ti x2 zx2 → Ti x3 zx3 → Ti x4 zx4 → Ti x5 zx5 → Ti x6 zx6 → IX k T D w → (0 ≤ zx6 ∧ zx6 ≤ 4) → ((zx4 = 0 ∨ (0 ≤ zx3 ∧ zx3 < 12288))) → (1 ≤ zx2 ∧ zx2 ≤ 4) → (zx2 + 1 ≤ Mq) → (5 - zx6) < (n : Int) → pX9_waxFrom_97  qX9_waxFrom post  n x1 x2 x3 x4 x5 x6 w := by
  intro n
  induction n with
  | zero =>
    intro x1 x2 x3 x4 x5 x6 zx1 zx2 zx3 zx4 zx5 zx6 w tx1 tx2 tx3 tx4 tx5 tx6 hI h0 h1 h2 h3 hm
    exact absurd hm (by omega)
  | succ n ih =>
    intro x1 x2 x3 x4 x5 x6 zx1 zx2 zx3 zx4 zx5 zx6 w tx1 tx2 tx3 tx4 tx5 tx6 hI h0 h1 h2 h3 hm
    unfold pX9_waxFrom_97
    have hk := ix_k hI
    refine sX1_handCount   (hI := hI)   (hp := fun r_1v1393 zr_1v1393 tr_1v1393 p2768 => ?_)
    refine ⟨fun c2769 => ?_, fun c2769 => ?_⟩
    · replace c2769 := c_le tr_1v1393 tx6 c2769
      refine ⟨fun c2770 => ?_, fun c2770 => ?_⟩
      · replace c2770 := c_eq tx4 lit_0 c2770
        exact hp _ _ _  tx5 hI 
      · replace c2770 := c_neq tx4 lit_0 c2770
        refine ⟨vp_of tx3 (by omega) (by omega), ?_⟩
        intro w_5v1396 ew_5v1396
        have hIw_5v1396 := ixs_A hI ew_5v1396 (by decide)
        exact hp _ _ _  tx5 hIw_5v1396 
    · replace c2769 := c_nle tr_1v1393 tx6 c2769
      exact ⟨70000, sX9_waxFrom_112  (M97 := (n : Int)) (hk97 := ih) (hqX9_waxFrom := hqX9_waxFrom) (hp := hp) 70000 _ _ _ _ _ _ _ _ _ _ _ _ _ _ _ tx1 tx2 tx3 tx4 tx5 tx6 lit_0 hI (by omega) (by omega) (by omega) (by omega) (by omega) (by omega) (by omega) (by omega)⟩
set_option maxHeartbeats 4000000 in
set_option maxRecDepth 100000 in
theorem sX9_waxFrom {T D : Int} {k : Nat} {qX9_waxFrom : (Int32 → Wd → Prop) → Int32 → Int32 → Wd → Prop} {Mq : Int} {post : Int32 → Wd → Prop} {x1 : Int32} {zx1 : Int} {x2 : Int32} {zx2 : Int} {w : Wd} (hqX9_waxFrom : ∀ (post : Int32 → Wd → Prop) (x1 : Int32) (x2 : Int32) (zx1 : Int) (zx2 : Int) (w : Wd), Ti x1 zx1 → Ti x2 zx2 → IX k T D w → (-1 ≤ zx2 ∧ zx2 ≤ 4) → (zx2 + 1) < Mq → (∀ (r : Int32) (zr : Int) (w9 : Wd), Ti r zr → IX k T D w9 → post r w9) → qX9_waxFrom post x1 x2 w) (tx1 : Ti x1 zx1) (tx2 : Ti x2 zx2) (hI : IX k T D w) (h0 : -1 ≤ zx2 ∧ zx2 ≤ 4) (h1 : (zx2 + 1) ≤ Mq) (hp : ∀ (r : Int32) (zr : Int) (w9 : Wd), Ti r zr → IX k T D w9 → post r w9) : pX9_waxFrom  qX9_waxFrom post  x1 x2 w := by
  unfold pX9_waxFrom
  have hk := ix_k hI
  obtain ⟨z2771, t2772⟩ := t_any (w.1 60 3)
  refine ⟨fun c2773 => ?_, fun c2773 => ?_⟩
  · replace c2773 := c_neq tx1 t2772 c2773
    refine ⟨fun c2774 => ?_, fun c2774 => ?_⟩
    · replace c2774 := c_le tx2 lit_0 c2774
      exact hp _ _ _  lit_1000 hI 
    · replace c2774 := c_nle tx2 lit_0 c2774
      refine ⟨fun c2775 => ?_, fun c2775 => ?_⟩
      · replace c2775 := c_lt lit_4 tx2 c2775
        exact hp _ _ _  lit_1000 hI 
      · replace c2775 := c_nlt lit_4 tx2 c2775
        refine ⟨fun c2776 => ?_, fun c2776 => ?_⟩
        · replace c2776 := c_lt tx1 lit_0 c2776
          exact hp _ _ _  lit_1000 hI 
        · replace c2776 := c_nlt tx1 lit_0 c2776
          obtain ⟨z2777, t2778⟩ := t_any (w.1 60 4)
          have f2779 := ixg_60_4 hI t2778
          refine ⟨fun c2780 => ?_, fun c2780 => ?_⟩
          · replace c2780 := c_lt tx1 t2778 c2780
            obtain ⟨z2781, t2782, f2783⟩ := t_sub tx2 lit_1
            first | replace f2783 := f2783 (by omega) | clear f2783
            obtain ⟨z2784, t2785, f2786⟩ := t_mulv t2782 t2778
            first | replace f2786 := f2786 (by omega) | clear f2786
            obtain ⟨z2787, t2788, f2789⟩ := t_add t2785 tx1
            first | replace f2789 := f2789 (by omega) | clear f2789
            intro x3_6v1397 ex3_6v1397
            have tx3_6v1397 : Ti x3_6v1397 z2787 := by rw [ex3_6v1397]; exact t2788
            refine ⟨fun c2790 => ?_, fun c2790 => ?_⟩
            · replace c2790 := c_le lit_4 tx2 c2790
              unfold pX9_waxFrom_64
              unfold pX9_waxFrom_65
              refine ⟨fun c2791 => ?_, fun c2791 => ?_⟩
              · replace c2791 := c_eq lit_0 lit_0 c2791
                unfold pX9_waxFrom_89
                exact ⟨70000, sX9_waxFrom_97   (hqX9_waxFrom := hqX9_waxFrom) (hp := hp) 70000 _ _ _ _ _ _ _ _ _ _ _ _ _ tx1 tx2 tx3_6v1397 lit_0 lit_1000 lit_0 hI (by omega) (by omega) (by omega) (by omega) (by omega)⟩
              · replace c2791 := c_neq lit_0 lit_0 c2791
                refine ⟨vp_of tx3_6v1397 (by omega) (by omega), ?_⟩
                obtain ⟨z2792, t2793⟩ := t_any (w.2.1 63 x3_6v1397.toNatClampNeg)
                refine ⟨fun c2794 => ?_, fun c2794 => ?_⟩
                · replace c2794 := c_eq t2793 lit_m1 c2794
                  unfold pX9_waxFrom_89
                  exact ⟨70000, sX9_waxFrom_97   (hqX9_waxFrom := hqX9_waxFrom) (hp := hp) 70000 _ _ _ _ _ _ _ _ _ _ _ _ _ tx1 tx2 tx3_6v1397 lit_0 lit_1000 lit_0 hI (by omega) (by omega) (by omega) (by omega) (by omega)⟩
                · replace c2794 := c_neq t2793 lit_m1 c2794
                  refine ⟨vp_of tx3_6v1397 (by omega) (by omega), ?_⟩
                  exact hp _ _ _  t2793 hI 
            · replace c2790 := c_nle lit_4 tx2 c2790
              refine ⟨fun c2795 => ?_, fun c2795 => ?_⟩
              · replace c2795 := c_le lit_12288 tx3_6v1397 c2795
                unfold pX9_waxFrom_64
                unfold pX9_waxFrom_65
                refine ⟨fun c2796 => ?_, fun c2796 => ?_⟩
                · replace c2796 := c_eq lit_0 lit_0 c2796
                  unfold pX9_waxFrom_89
                  exact ⟨70000, sX9_waxFrom_97   (hqX9_waxFrom := hqX9_waxFrom) (hp := hp) 70000 _ _ _ _ _ _ _ _ _ _ _ _ _ tx1 tx2 tx3_6v1397 lit_0 lit_1000 lit_0 hI (by omega) (by omega) (by omega) (by omega) (by omega)⟩
                · replace c2796 := c_neq lit_0 lit_0 c2796
                  refine ⟨vp_of tx3_6v1397 (by omega) (by omega), ?_⟩
                  obtain ⟨z2797, t2798⟩ := t_any (w.2.1 63 x3_6v1397.toNatClampNeg)
                  refine ⟨fun c2799 => ?_, fun c2799 => ?_⟩
                  · replace c2799 := c_eq t2798 lit_m1 c2799
                    unfold pX9_waxFrom_89
                    exact ⟨70000, sX9_waxFrom_97   (hqX9_waxFrom := hqX9_waxFrom) (hp := hp) 70000 _ _ _ _ _ _ _ _ _ _ _ _ _ tx1 tx2 tx3_6v1397 lit_0 lit_1000 lit_0 hI (by omega) (by omega) (by omega) (by omega) (by omega)⟩
                  · replace c2799 := c_neq t2798 lit_m1 c2799
                    refine ⟨vp_of tx3_6v1397 (by omega) (by omega), ?_⟩
                    exact hp _ _ _  t2798 hI 
              · replace c2795 := c_nle lit_12288 tx3_6v1397 c2795
                unfold pX9_waxFrom_65
                refine ⟨fun c2800 => ?_, fun c2800 => ?_⟩
                · replace c2800 := c_eq lit_1 lit_0 c2800
                  unfold pX9_waxFrom_89
                  exact ⟨70000, sX9_waxFrom_97   (hqX9_waxFrom := hqX9_waxFrom) (hp := hp) 70000 _ _ _ _ _ _ _ _ _ _ _ _ _ tx1 tx2 tx3_6v1397 lit_1 lit_1000 lit_0 hI (by omega) (by omega) (by omega) (by omega) (by omega)⟩
                · replace c2800 := c_neq lit_1 lit_0 c2800
                  refine ⟨vp_of tx3_6v1397 (by omega) (by omega), ?_⟩
                  obtain ⟨z2801, t2802⟩ := t_any (w.2.1 63 x3_6v1397.toNatClampNeg)
                  refine ⟨fun c2803 => ?_, fun c2803 => ?_⟩
                  · replace c2803 := c_eq t2802 lit_m1 c2803
                    unfold pX9_waxFrom_89
                    exact ⟨70000, sX9_waxFrom_97   (hqX9_waxFrom := hqX9_waxFrom) (hp := hp) 70000 _ _ _ _ _ _ _ _ _ _ _ _ _ tx1 tx2 tx3_6v1397 lit_1 lit_1000 lit_0 hI (by omega) (by omega) (by omega) (by omega) (by omega)⟩
                  · replace c2803 := c_neq t2802 lit_m1 c2803
                    refine ⟨vp_of tx3_6v1397 (by omega) (by omega), ?_⟩
                    exact hp _ _ _  t2802 hI 
          · replace c2780 := c_nlt tx1 t2778 c2780
            exact hp _ _ _  lit_1000 hI 
  · replace c2773 := c_eq tx1 t2772 c2773
    exact hp _ _ _  lit_0 hI 
theorem sd9X9_waxFrom {T D : Int} {k : Nat} : ∀ (d : Nat) (post : Int32 → Wd → Prop) (x1 : Int32) (x2 : Int32) (zx1 : Int) (zx2 : Int) (w : Wd), Ti x1 zx1 → Ti x2 zx2 → IX k T D w → (-1 ≤ zx2 ∧ zx2 ≤ 4) → (zx2 + 1) < (d : Int) → (∀ (r : Int32) (zr : Int) (w9 : Wd), Ti r zr → IX k T D w9 → post r w9) → d9X9_waxFrom d post x1 x2 w := by
  intro d
  induction d with
  | zero =>
    intro post x1 x2 zx1 zx2 w tx1 tx2 hI h0 hm hp
    exact absurd hm (by omega)
  | succ d ih =>
    intro post x1 x2 zx1 zx2 w tx1 tx2 hI h0 hm hp
    show pX9_waxFrom (d9X9_waxFrom d) post x1 x2 w
    exact sX9_waxFrom (Mq := (d : Int)) (hqX9_waxFrom := ih) (hI := hI) (tx1 := tx1) (tx2 := tx2) (h0 := h0) (h1 := (by omega)) (hp := hp)
theorem sdX9_waxFrom {T D : Int} {k : Nat} {d : Nat} {post : Int32 → Wd → Prop} {x1 : Int32} {zx1 : Int} {x2 : Int32} {zx2 : Int} {w : Wd} (tx1 : Ti x1 zx1) (tx2 : Ti x2 zx2) (hI : IX k T D w) (h0 : -1 ≤ zx2 ∧ zx2 ≤ 4) (hm : (zx2 + 1) < (d : Int)) (hp : ∀ (r : Int32) (zr : Int) (w9 : Wd), Ti r zr → IX k T D w9 → post r w9) : dX9_waxFrom d post x1 x2 w := sd9X9_waxFrom d post x1 x2 zx1 zx2 w tx1 tx2 hI h0 hm hp
set_option maxHeartbeats 4000000 in
set_option maxRecDepth 100000 in
theorem sX9_firstStep_18 {T D : Int} {k : Nat} {k3 : Int32 → Int32 → Int32 → Int32 → Wd → Prop} {M3 : Int} {post : Int32 → Wd → Prop}  (hk3 : ∀ (x1 : Int32) (x2 : Int32) (x3 : Int32) (x4 : Int32) (zx1 : Int) (zx2 : Int) (zx3 : Int) (zx4 : Int) (w : Wd), Ti x1 zx1 → Ti x2 zx2 → Ti x3 zx3 → Ti x4 zx4 → IX k T D w → (0 ≤ zx4 ∧ zx4 ≤ 4) → (zx2 ≤ 5 ∧ 0 ≤ zx2) → (5 - zx4) < M3 → k3 x1 x2 x3 x4 w) (hp : ∀ (r : Int32) (zr : Int) (w9 : Wd), Ti r zr → IX k T D w9 → post r w9) : ∀ (n : Nat) (x1 : Int32) (x2 : Int32) (x3 : Int32) (x4 : Int32) (x5 : Int32) (zx1 : Int) (zx2 : Int) (zx3 : Int) (zx4 : Int) (zx5 : Int) (w : Wd), Ti x1 zx1 → Ti x2 zx2 → Ti x3 zx3 → Ti x4 zx4 → Ti x5 zx5 → IX k T D w → (0 ≤ zx5 ∧ zx5 ≤ 4) → (zx4 ≤ 3) → (zx2 ≤ 5 ∧ 0 ≤ zx2) → (0 ≤ zx4 ∧ zx4 ≤ 4) → (zx2 ≤ 5 ∧ 0 ≤ zx2) → ((5 - zx4) ≤ M3) → (5 - zx5) < (n : Int) → pX9_firstStep_18 k3  post  n x1 x2 x3 x4 x5 w := by
  intro n
  induction n with
  | zero =>
    intro x1 x2 x3 x4 x5 zx1 zx2 zx3 zx4 zx5 w tx1 tx2 tx3 tx4 tx5 hI h0 h1 h2 h3 h4 h5 hm
    exact absurd hm (by omega)
  | succ n ih =>
    intro x1 x2 x3 x4 x5 zx1 zx2 zx3 zx4 zx5 w tx1 tx2 tx3 tx4 tx5 hI h0 h1 h2 h3 h4 h5 hm
    unfold pX9_firstStep_18
    have hk := ix_k hI
    refine sX9_heatsOf   (hI := hI) (tx1 := tx4)  (hp := fun r_1v1398 zr_1v1398 tr_1v1398 p2804 => ?_)
    refine ⟨fun c2805 => ?_, fun c2805 => ?_⟩
    · replace c2805 := c_le tr_1v1398 tx5 c2805
      obtain ⟨z2806, t2807, f2808⟩ := t_add tx4 lit_1
      first | replace f2808 := f2808 (by omega) | clear f2808
      intro x4_4v1406 ex4_4v1406
      have tx4_4v1406 : Ti x4_4v1406 z2806 := by rw [ex4_4v1406]; exact t2807
      exact hk3 _ _ _ _ _ _ _ _ _ tx1 tx2 tx3 tx4_4v1406 hI (by omega) (by omega) (by omega)
    · replace c2805 := c_nle tr_1v1398 tx5 c2805
      refine sX1_rowAfter   (hI := hI) (tx1 := tx1) (tx2 := tx4) (tx3 := tx5) (tx4 := lit_0)  (hp := fun r_5v1407 zr_5v1407 w_6v1408  tr_5v1407 hIw_6v1408  => ?_)
      obtain ⟨z2809, t2810, f2811⟩ := t_sub tx2 lit_1
      first | replace f2811 := f2811 (by omega) | clear f2811
      refine sdX9_waxFrom tr_5v1407 t2810 hIw_6v1408 (by omega) (by omega) (fun r_7v1409 zr_7v1409 w_8v1410  tr_7v1409 hIw_8v1410  => ?_)
      obtain ⟨z2812, t2813, f2814⟩ := t_add lit_1 tx5
      first | replace f2814 := f2814 (by omega) | clear f2814
      obtain ⟨z2815, t2816, f2817⟩ := t_add t2813 tr_7v1409
      first | replace f2817 := f2817 (by omega) | clear f2817
      refine ⟨fun c2818 => ?_, fun c2818 => ?_⟩
      · replace c2818 := c_neq t2816 tx3 c2818
        obtain ⟨z2819, t2820, f2821⟩ := t_add tx5 lit_1
        first | replace f2821 := f2821 (by omega) | clear f2821
        intro x5_10v1411 ex5_10v1411
        have tx5_10v1411 : Ti x5_10v1411 z2819 := by rw [ex5_10v1411]; exact t2820
        exact ih _ _ _ _ _ _ _ _ _ _ _ tx1 tx2 tx3 tx4 tx5_10v1411 hIw_8v1410 (by omega) (by omega) (by omega) (by omega) (by omega) (by omega) (by omega)
      · replace c2818 := c_eq t2816 tx3 c2818
        obtain ⟨z2822, t2823, f2824⟩ := t_mul tx4 lit_10
        first | replace f2824 := f2824 (by omega) | clear f2824
        obtain ⟨z2825, t2826, f2827⟩ := t_add t2823 tx5
        first | replace f2827 := f2827 (by omega) | clear f2827
        exact hp _ _ _  t2826 hIw_8v1410 
set_option maxHeartbeats 4000000 in
set_option maxRecDepth 100000 in
theorem sX9_firstStep_3 {T D : Int} {k : Nat} {post : Int32 → Wd → Prop}   (hp : ∀ (r : Int32) (zr : Int) (w9 : Wd), Ti r zr → IX k T D w9 → post r w9) : ∀ (n : Nat) (x1 : Int32) (x2 : Int32) (x3 : Int32) (x4 : Int32) (zx1 : Int) (zx2 : Int) (zx3 : Int) (zx4 : Int) (w : Wd), Ti x1 zx1 → Ti x2 zx2 → Ti x3 zx3 → Ti x4 zx4 → IX k T D w → (0 ≤ zx4 ∧ zx4 ≤ 4) → (zx2 ≤ 5 ∧ 0 ≤ zx2) → (5 - zx4) < (n : Int) → pX9_firstStep_3   post  n x1 x2 x3 x4 w := by
  intro n
  induction n with
  | zero =>
    intro x1 x2 x3 x4 zx1 zx2 zx3 zx4 w tx1 tx2 tx3 tx4 hI h0 h1 hm
    exact absurd hm (by omega)
  | succ n ih =>
    intro x1 x2 x3 x4 zx1 zx2 zx3 zx4 w tx1 tx2 tx3 tx4 hI h0 h1 hm
    unfold pX9_firstStep_3
    have hk := ix_k hI
    refine sX1_handCount   (hI := hI)   (hp := fun r_1v1412 zr_1v1412 tr_1v1412 p2828 => ?_)
    refine ⟨fun c2829 => ?_, fun c2829 => ?_⟩
    · replace c2829 := c_le tr_1v1412 tx4 c2829
      exact hp _ _ _  lit_m1 hI 
    · replace c2829 := c_nle tr_1v1412 tx4 c2829
      exact ⟨70000, sX9_firstStep_18  (M3 := (n : Int)) (hk3 := ih)  (hp := hp) 70000 _ _ _ _ _ _ _ _ _ _ _ tx1 tx2 tx3 tx4 lit_0 hI (by omega) (by omega) (by omega) (by omega) (by omega) (by omega) (by omega)⟩
set_option maxHeartbeats 4000000 in
set_option maxRecDepth 100000 in
theorem sX9_firstStep {T D : Int} {k : Nat} {post : Int32 → Wd → Prop} {x1 : Int32} {zx1 : Int} {x2 : Int32} {zx2 : Int} {x3 : Int32} {zx3 : Int} {w : Wd}  (tx1 : Ti x1 zx1) (tx2 : Ti x2 zx2) (tx3 : Ti x3 zx3) (hI : IX k T D w) (h0 : zx2 ≤ 5 ∧ 0 ≤ zx2) (hp : ∀ (r : Int32) (zr : Int) (w9 : Wd), Ti r zr → IX k T D w9 → post r w9) : pX9_firstStep   post  x1 x2 x3 w := by
  unfold pX9_firstStep
  have hk := ix_k hI
  exact ⟨70000, sX9_firstStep_3    (hp := hp) 70000 _ _ _ _ _ _ _ _ _ tx1 tx2 tx3 lit_0 hI (by omega) (by omega) (by omega)⟩
set_option maxHeartbeats 4000000 in
set_option maxRecDepth 100000 in
theorem sX9_layWay_11 {T D : Int} {k : Nat} {post : Wd → Prop}   (hp : ∀ (w9 : Wd), IX k T D w9 → post w9) : ∀ (n : Nat) (x3 : Int32) (x4 : Int32) (x5 : Int32) (zx3 : Int) (zx4 : Int) (zx5 : Int) (w : Wd), Ti x3 zx3 → Ti x4 zx4 → Ti x5 zx5 → IX k T D w → (0 ≤ zx5 ∧ zx5 ≤ 4) → (zx5 + 1) < (n : Int) → pX9_layWay_11   post  n x3 x4 x5 w := by
  intro n
  induction n with
  | zero =>
    intro x3 x4 x5 zx3 zx4 zx5 w tx3 tx4 tx5 hI h0 hm
    exact absurd hm (by omega)
  | succ n ih =>
    intro x3 x4 x5 zx3 zx4 zx5 w tx3 tx4 tx5 hI h0 hm
    unfold pX9_layWay_11
    have hk := ix_k hI
    refine ⟨fun c2830 => ?_, fun c2830 => ?_⟩
    · replace c2830 := c_le tx5 lit_0 c2830
      exact hp  _   hI 
    · replace c2830 := c_nle tx5 lit_0 c2830
      obtain ⟨z2831, t2832⟩ := t_any (w.1 60 3)
      refine ⟨fun c2833 => ?_, fun c2833 => ?_⟩
      · replace c2833 := c_eq tx3 t2832 c2833
        exact hp  _   hI 
      · replace c2833 := c_neq tx3 t2832 c2833
        refine sX9_firstStep   (hI := hI) (tx1 := tx3) (tx2 := tx5) (tx3 := tx4) (h0 := (by omega)) (hp := fun r_3v1414 zr_3v1414 w_4v1415  tr_3v1414 hIw_4v1415  => ?_)
        refine ⟨fun c2834 => ?_, fun c2834 => ?_⟩
        · replace c2834 := c_neq tr_3v1414 lit_m1 c2834
          refine sX4_lay   (hI := hIw_4v1415) (tx1 := tr_3v1414)  (hp := fun  w_6v1416   hIw_6v1416  => ?_)
          obtain ⟨z2835, t2836, f2837⟩ := t_div tr_3v1414 lit_10
          first | replace f2837 := f2837 (by omega) | clear f2837
          obtain ⟨z2838, t2839, f2840⟩ := t_rem tr_3v1414 lit_10
          first | replace f2840 := f2840 (by omega) | clear f2840
          refine sX1_rowAfter   (hI := hIw_6v1416) (tx1 := tx3) (tx2 := t2836) (tx3 := t2839) (tx4 := lit_0)  (hp := fun r_7v1417 zr_7v1417 w_8v1418  tr_7v1417 hIw_8v1418  => ?_)
          obtain ⟨z2841, t2842, f2843⟩ := t_add lit_1 t2839
          first | replace f2843 := f2843 (by omega) | clear f2843
          obtain ⟨z2844, t2845, f2846⟩ := t_sub tx4 t2842
          first | replace f2846 := f2846 (by omega) | clear f2846
          intro x4_9v1419 ex4_9v1419
          have tx4_9v1419 : Ti x4_9v1419 z2844 := by rw [ex4_9v1419]; exact t2845
          obtain ⟨z2847, t2848, f2849⟩ := t_add tx5 lit_m1
          first | replace f2849 := f2849 (by omega) | clear f2849
          intro x5_10v1420 ex5_10v1420
          have tx5_10v1420 : Ti x5_10v1420 z2847 := by rw [ex5_10v1420]; exact t2848
          exact ih _ _ _ _ _ _ _ tr_7v1417 tx4_9v1419 tx5_10v1420 hIw_8v1418 (by omega) (by omega)
        · replace c2834 := c_eq tr_3v1414 lit_m1 c2834
          exact hp  _   hIw_4v1415 
set_option maxHeartbeats 4000000 in
set_option maxRecDepth 100000 in
theorem sX9_layWay {T D : Int} {k : Nat} {post : Wd → Prop} {x1 : Int32} {zx1 : Int} {w : Wd}  (tx1 : Ti x1 zx1) (hI : IX k T D w)  (hp : ∀ (w9 : Wd), IX k T D w9 → post w9) : pX9_layWay   post  x1 w := by
  unfold pX9_layWay
  have hk := ix_k hI
  obtain ⟨z2850, t2851⟩ := t_any (w.1 60 5)
  intro x4_1v1421 ex4_1v1421
  have tx4_1v1421 : Ti x4_1v1421 z2850 := by rw [ex4_1v1421]; exact t2851
  exact ⟨70000, sX9_layWay_11    (hp := hp) 70000 _ _ _ _ _ _ _ tx1 tx4_1v1421 lit_4 hI (by omega) (by omega)⟩
set_option maxHeartbeats 4000000 in
set_option maxRecDepth 100000 in
theorem sX9_seek_53 {T D : Int} {k : Nat} {post : Int32 → Wd → Prop}   (hp : ∀ (r : Int32) (zr : Int) (w9 : Wd), Ti r zr → IX k T D w9 → post r w9) : ∀ (n : Nat) (x3 : Int32) (x4 : Int32) (zx3 : Int) (zx4 : Int) (w : Wd), Ti x3 zx3 → Ti x4 zx4 → IX k T D w → (0 ≤ zx4 ∧ zx4 ≤ 24) → (25 - zx4) < (n : Int) → pX9_seek_53   post  n x3 x4 w := by
  intro n
  induction n with
  | zero =>
    intro x3 x4 zx3 zx4 w tx3 tx4 hI h0 hm
    exact absurd hm (by omega)
  | succ n ih =>
    intro x3 x4 zx3 zx4 w tx3 tx4 hI h0 hm
    unfold pX9_seek_53
    have hk := ix_k hI
    obtain ⟨z2852, t2853⟩ := t_any (w.1 160 0)
    have f2854 := ixg_c0 hI t2853
    refine ⟨fun c2855 => ?_, fun c2855 => ?_⟩
    · replace c2855 := c_le t2853 tx4 c2855
      exact hp _ _ _  tx3 hI 
    · replace c2855 := c_nle t2853 tx4 c2855
      refine ⟨vp_of tx4 (by omega) (by omega), ?_⟩
      obtain ⟨z2856, t2857⟩ := t_any (w.2.1 162 x4.toNatClampNeg)
      refine sdX9_waxFrom t2857 lit_4 hI (by omega) (by omega) (fun r_2v1422 zr_2v1422 w_3v1423  tr_2v1422 hIw_3v1423  => ?_)
      obtain ⟨z2858, t2859⟩ := t_any (w_3v1423.1 60 5)
      refine ⟨fun c2860 => ?_, fun c2860 => ?_⟩
      · replace c2860 := c_le t2859 tr_2v1422 c2860
        unfold pX9_seek_100
        obtain ⟨z2861, t2862, f2863⟩ := t_add tx4 lit_1
        first | replace f2863 := f2863 (by omega) | clear f2863
        intro x4_1v1425 ex4_1v1425
        have tx4_1v1425 : Ti x4_1v1425 z2861 := by rw [ex4_1v1425]; exact t2862
        exact ih _ _ _ _ _ tx3 tx4_1v1425 hIw_3v1423 (by omega) (by omega)
      · replace c2860 := c_nle t2859 tr_2v1422 c2860
        intro w_5v1424 ew_5v1424
        have hIw_5v1424 := ixs_n hIw_3v1423 ew_5v1424 (by unfold nX; omega)
        unfold pX9_seek_100
        obtain ⟨z2864, t2865, f2866⟩ := t_add tx4 lit_1
        first | replace f2866 := f2866 (by omega) | clear f2866
        intro x4_1v1426 ex4_1v1426
        have tx4_1v1426 : Ti x4_1v1426 z2864 := by rw [ex4_1v1426]; exact t2865
        exact ih _ _ _ _ _ tx4 tx4_1v1426 hIw_5v1424 (by omega) (by omega)
set_option maxHeartbeats 4000000 in
set_option maxRecDepth 100000 in
theorem sX9_seek_18 {T D : Int} {k : Nat} {post : Int32 → Wd → Prop}   (hp : ∀ (r : Int32) (zr : Int) (w9 : Wd), Ti r zr → IX k T D w9 → post r w9) : ∀ (n : Nat) (x3 : Int32) (zx3 : Int) (w : Wd), Ti x3 zx3 → IX k T D w → (0 ≤ zx3 ∧ zx3 ≤ 12288) → (12289 - zx3) < (n : Int) → pX9_seek_18   post  n x3 w := by
  intro n
  induction n with
  | zero =>
    intro x3 zx3 w tx3 hI h0 hm
    exact absurd hm (by omega)
  | succ n ih =>
    intro x3 zx3 w tx3 hI h0 hm
    unfold pX9_seek_18
    have hk := ix_k hI
    obtain ⟨z2867, t2868⟩ := t_any (w.1 60 4)
    have f2869 := ixg_60_4 hI t2868
    obtain ⟨z2870, t2871, f2872⟩ := t_mul lit_3 t2868
    first | replace f2872 := f2872 (by omega) | clear f2872
    refine ⟨fun c2873 => ?_, fun c2873 => ?_⟩
    · replace c2873 := c_le t2871 tx3 c2873
      intro w_2v1427 ew_2v1427
      have hIw_2v1427 := ixs_n hI ew_2v1427 (by unfold nX; omega)
      exact ⟨70000, sX9_seek_53    (hp := hp) 70000 _ _ _ _ _ lit_m1 lit_0 hIw_2v1427 (by omega) (by omega)⟩
    · replace c2873 := c_nle t2871 tx3 c2873
      refine ⟨vp_of tx3 (by omega) (by omega), ?_⟩
      intro w_3v1428 ew_3v1428
      have hIw_3v1428 := ixs_A hI ew_3v1428 (by decide)
      obtain ⟨z2874, t2875, f2876⟩ := t_add tx3 lit_1
      first | replace f2876 := f2876 (by omega) | clear f2876
      intro x3_4v1429 ex3_4v1429
      have tx3_4v1429 : Ti x3_4v1429 z2874 := by rw [ex3_4v1429]; exact t2875
      exact ih _ _ _ tx3_4v1429 hIw_3v1428 (by omega) (by omega)
