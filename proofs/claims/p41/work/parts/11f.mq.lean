/-- from which the samples above a come -/
def FO (M r a : Int) (w : Wd) : Prop := ∀ i : Nat, a < (i : Int) → (i : Int) < M → (i : Int) ≠ r → Rg (w.2.1 362 i) 0 (M - 1)
section FOS
variable {M r a b z u : Int} {w w2 w9 : Wd}
theorem fo_0 (h : M ≤ a + 1) : FO M r a w := fun i h1 h2 _ => absurd h2 (by omega)
theorem fo_w (h : FO M r a w) (hb : a ≤ b) : FO M r b w := fun i h1 h2 h3 => h i (by omega) h2 h3
theorem fo_1 {i v : Int32} (h : FO M r a w) (e : w9 = sA w 362 i.toNatClampNeg v) (ti : Ti i a) (hr : a = r) (hb : b = a - 1 ∧ 0 ≤ a) : FO M r b w9 := by
  have q := i_cz ti
  intro j h1 h2 h3
  rw [e, sA_nx (by omega)]
  exact h j (by omega) h2 h3
theorem fo_2 {i v i2 v2 : Int32} (h : FO M r a w) (e : w2 = sA w 362 i.toNatClampNeg v) (ti : Ti i a) (e2 : w9 = sA w2 362 i2.toNatClampNeg v2) (ti2 : Ti i2 a) (tv : Ti v2 z) (h1 : 0 ≤ z) (h2 : z ≤ M - 1) (hb : b = a - 1 ∧ 0 ≤ a) : FO M r b w9 := by
  have q := i_cz ti
  have q2 := i_cz ti2
  intro j k1 k2 k3
  by_cases hj : j = i2.toNatClampNeg
  · rw [hj, e2, sA_at]
    exact Rg.m tv h1 h2
  · rw [e2, sA_nx hj, e, sA_nx (by omega)]
    exact h j (by omega) k2 k3
theorem fo_g {i : Int32} (h : FO M r a w) (ti : Ti i u) (tz : Ti (w.2.1 362 i.toNatClampNeg) z) : (a < u ∧ u < M ∧ u ≠ r ∧ 0 ≤ u) → 0 ≤ z ∧ z ≤ M - 1 := by
  intro k
  have q := i_cz ti
  exact Rg.g (h i.toNatClampNeg (by omega) (by omega) (by omega)) tz
end FOS
set_option maxHeartbeats 4000000 in
set_option maxRecDepth 100000 in
theorem sX11_changesOf_125 {T W H P S M : Int} {k109 : Int32 → Int32 → Int32 → Wd → Prop} {M109 : Int} {post : Int32 → Wd → Prop}  (hk109 : ∀ (x2 : Int32) (x4 : Int32) (x5 : Int32) (zx2 : Int) (zx4 : Int) (zx5 : Int) (w : Wd), Ti x2 zx2 → Ti x4 zx4 → Ti x5 zx5 → IM T W H P S M w → (0 ≤ zx5 ∧ zx5 ≤ M) → (0 ≤ zx2 ∧ zx2 < M) → (FO M zx2 (-1) w) → (M + 1 - zx5) < M109 → k109 x2 x4 x5 w) (hp : ∀ (r : Int32) (zr : Int) (w9 : Wd), Ti r zr → IM T W H P S M w9 → post r w9) : ∀ (n : Nat) (x2 : Int32) (x4 : Int32) (x5 : Int32) (x6 : Int32) (x7 : Int32) (zx2 : Int) (zx4 : Int) (zx5 : Int) (zx6 : Int) (zx7 : Int) (w : Wd), Ti x2 zx2 → Ti x4 zx4 → Ti x5 zx5 → Ti x6 zx6 → Ti x7 zx7 → IM T W H P S M w → (0 ≤ zx7 ∧ zx7 ≤ M) → (0 ≤ zx6 ∧ zx6 < M) → (zx5 < M) → (0 ≤ zx5 ∧ zx5 ≤ M) → (0 ≤ zx2 ∧ zx2 < M) → (FO M zx2 (-1) w) → ((M + 1 - zx5) ≤ M109) → (M + 1 - zx7) < (n : Int) → pX11_changesOf_125 k109  post  n x2 x4 x5 x6 x7 w := by
  intro n
  induction n with
  | zero =>
    intro x2 x4 x5 x6 x7 zx2 zx4 zx5 zx6 zx7 w tx2 tx4 tx5 tx6 tx7 hI h0 h1 h2 h3 h4 h5 h6 hm
    exact absurd hm (by omega)
  | succ n ih =>
    intro x2 x4 x5 x6 x7 zx2 zx4 zx5 zx6 zx7 w tx2 tx4 tx5 tx6 tx7 hI h0 h1 h2 h3 h4 h5 h6 hm
    unfold pX11_changesOf_125
    have hk := im_k hI
    obtain ⟨z1351, t1352⟩ := t_any (w.1 300 63)
    have f1353 := img_63 hI t1352
    refine ⟨fun c1354 => ?_, fun c1354 => ?_⟩
    · replace c1354 := c_le t1352 tx7 c1354
      unfold pX11_changesOf_155
      refine ⟨fun c1355 => ?_, fun c1355 => ?_⟩
      · replace c1355 := c_eq tx6 tx2 c1355
        obtain ⟨z1356, t1357, f1358⟩ := t_add tx5 lit_1
        first | replace f1358 := f1358 (by omega) | clear f1358
        intro x5_2v811 ex5_2v811
        have tx5_2v811 : Ti x5_2v811 z1356 := by rw [ex5_2v811]; exact t1357
        exact hk109 _ _ _ _ _ _ _ tx2 tx4 tx5_2v811 hI (by omega) (by omega) (fo_w h5 (by omega)) (by omega)
      · replace c1355 := c_neq tx6 tx2 c1355
        exact hp _ _ _  lit_m1 hI 
    · replace c1354 := c_nle t1352 tx7 c1354
      refine ⟨fun c1359 => ?_, fun c1359 => ?_⟩
      · replace c1359 := c_eq tx6 tx2 c1359
        unfold pX11_changesOf_155
        refine ⟨fun c1360 => ?_, fun c1360 => ?_⟩
        · replace c1360 := c_eq tx6 tx2 c1360
          obtain ⟨z1361, t1362, f1363⟩ := t_add tx5 lit_1
          first | replace f1363 := f1363 (by omega) | clear f1363
          intro x5_2v812 ex5_2v812
          have tx5_2v812 : Ti x5_2v812 z1361 := by rw [ex5_2v812]; exact t1362
          exact hk109 _ _ _ _ _ _ _ tx2 tx4 tx5_2v812 hI (by omega) (by omega) (fo_w h5 (by omega)) (by omega)
        · replace c1360 := c_neq tx6 tx2 c1360
          exact hp _ _ _  lit_m1 hI 
      · replace c1359 := c_neq tx6 tx2 c1359
        refine ⟨vp_of tx6 (by omega) (by omega), ?_⟩
        obtain ⟨z1364, t1365⟩ := t_any (w.2.1 362 x6.toNatClampNeg)
        have f1366 := fo_g h5 tx6 t1365
        first | replace f1366 := f1366 (by omega) | clear f1366
        intro x6_3v809 ex6_3v809
        have tx6_3v809 : Ti x6_3v809 z1364 := by rw [ex6_3v809]; exact t1365
        obtain ⟨z1367, t1368, f1369⟩ := t_add tx7 lit_1
        first | replace f1369 := f1369 (by omega) | clear f1369
        intro x7_4v810 ex7_4v810
        have tx7_4v810 : Ti x7_4v810 z1367 := by rw [ex7_4v810]; exact t1368
        exact ih _ _ _ _ _ _ _ _ _ _ _ tx2 tx4 tx5 tx6_3v809 tx7_4v810 hI (by omega) (by omega) (by omega) (by omega) (by omega) (fo_w h5 (by omega)) (by omega) (by omega)
set_option maxHeartbeats 4000000 in
set_option maxRecDepth 100000 in
theorem sX11_changesOf_109 {T W H P S M : Int} {post : Int32 → Wd → Prop}   (hp : ∀ (r : Int32) (zr : Int) (w9 : Wd), Ti r zr → IM T W H P S M w9 → post r w9) : ∀ (n : Nat) (x2 : Int32) (x4 : Int32) (x5 : Int32) (zx2 : Int) (zx4 : Int) (zx5 : Int) (w : Wd), Ti x2 zx2 → Ti x4 zx4 → Ti x5 zx5 → IM T W H P S M w → (0 ≤ zx5 ∧ zx5 ≤ M) → (0 ≤ zx2 ∧ zx2 < M) → (FO M zx2 (-1) w) → (M + 1 - zx5) < (n : Int) → pX11_changesOf_109   post  n x2 x4 x5 w := by
  intro n
  induction n with
  | zero =>
    intro x2 x4 x5 zx2 zx4 zx5 w tx2 tx4 tx5 hI h0 h1 h2 hm
    exact absurd hm (by omega)
  | succ n ih =>
    intro x2 x4 x5 zx2 zx4 zx5 w tx2 tx4 tx5 hI h0 h1 h2 hm
    unfold pX11_changesOf_109
    have hk := im_k hI
    obtain ⟨z1370, t1371⟩ := t_any (w.1 300 63)
    have f1372 := img_63 hI t1371
    refine ⟨fun c1373 => ?_, fun c1373 => ?_⟩
    · replace c1373 := c_le t1371 tx5 c1373
      exact hp _ _ _  tx4 hI 
    · replace c1373 := c_nle t1371 tx5 c1373
      exact ⟨70000, sX11_changesOf_125  (M109 := (n : Int)) (hk109 := ih)  (hp := hp) 70000 _ _ _ _ _ _ _ _ _ _ _ tx2 tx4 tx5 tx5 lit_0 hI (by omega) (by omega) (by omega) (by omega) (by omega) (fo_w h2 (by omega)) (by omega) (by omega)⟩
set_option maxHeartbeats 4000000 in
set_option maxRecDepth 100000 in
theorem sX11_changesOf_13 {T W H P S M : Int} {post : Int32 → Wd → Prop}   (hp : ∀ (r : Int32) (zr : Int) (w9 : Wd), Ti r zr → IM T W H P S M w9 → post r w9) : ∀ (n : Nat) (x2 : Int32) (x3 : Int32) (x4 : Int32) (x5 : Int32) (zx2 : Int) (zx3 : Int) (zx4 : Int) (zx5 : Int) (w : Wd), Ti x2 zx2 → Ti x3 zx3 → Ti x4 zx4 → Ti x5 zx5 → IM T W H P S M w → (-1 ≤ zx5 ∧ zx5 < M) → (0 ≤ zx2 ∧ zx2 < M) → (0 ≤ zx3) → (FO M zx2 zx5 w) → (zx5 + 2) < (n : Int) → pX11_changesOf_13   post  n x2 x3 x4 x5 w := by
  intro n
  induction n with
  | zero =>
    intro x2 x3 x4 x5 zx2 zx3 zx4 zx5 w tx2 tx3 tx4 tx5 hI h0 h1 h2 h3 hm
    exact absurd hm (by omega)
  | succ n ih =>
    intro x2 x3 x4 x5 zx2 zx3 zx4 zx5 w tx2 tx3 tx4 tx5 hI h0 h1 h2 h3 hm
    unfold pX11_changesOf_13
    have hk := im_k hI
    refine ⟨fun c1374 => ?_, fun c1374 => ?_⟩
    · replace c1374 := c_lt tx5 lit_0 c1374
      exact ⟨70000, sX11_changesOf_109    (hp := hp) 70000 _ _ _ _ _ _ _ tx2 tx4 lit_0 hI (by omega) (by omega) (fo_w h3 (by omega)) (by omega)⟩
    · replace c1374 := c_nlt tx5 lit_0 c1374
      refine ⟨vp_of tx5 (by omega) (by omega), ?_⟩
      intro w_2v813 ew_2v813
      have hIw_2v813 := ims_A hI ew_2v813 (by decide)
      refine ⟨fun c1375 => ?_, fun c1375 => ?_⟩
      · replace c1375 := c_neq tx5 tx2 c1375
        obtain ⟨z1377, t1378⟩ := t_any (w.1 300 63)
        have f1379 := img_63 hI t1378
        have t1376 : Ti (w_2v813.1 300 63) z1377 := by rw [e1_A ew_2v813]; exact t1378
        obtain ⟨z1380, t1381, f1382⟩ := t_sub t1376 lit_1
        first | replace f1382 := f1382 (by omega) | clear f1382
        refine ⟨nz_of t1381 (by omega), ?_⟩
        obtain ⟨z1383, t1384, f1385⟩ := t_remv tx3 t1381
        first | replace f1385 := f1385 (by omega) | clear f1385
        intro x6_4v814 ex6_4v814
        have tx6_4v814 : Ti x6_4v814 z1383 := by rw [ex6_4v814]; exact t1384
        refine ⟨nz_of t1381 (by omega), ?_⟩
        obtain ⟨z1386, t1387, f1388⟩ := t_divv tx3 t1381
        first | replace f1388 := f1388 (by omega) | clear f1388
        intro x3_5v815 ex3_5v815
        have tx3_5v815 : Ti x3_5v815 z1386 := by rw [ex3_5v815]; exact t1387
        refine ⟨fun c1389 => ?_, fun c1389 => ?_⟩
        · replace c1389 := c_le tx5 tx6_4v814 c1389
          unfold pX11_changesOf_76
          refine ⟨vp_of tx5 (by omega) (by omega), ?_⟩
          intro w_1v816 ew_1v816
          have hIw_1v816 := ims_A hIw_2v813 ew_1v816 (by decide)
          refine ⟨vp_of tx5 (by omega) (by omega), ?_⟩
          obtain ⟨z1390, t1391, f1392⟩ := t_add tx6_4v814 lit_1
          first | replace f1392 := f1392 (by omega) | clear f1392
          have t1393 : Ti (w_1v816.2.1 362 x5.toNatClampNeg) z1390 := by rw [ew_1v816, sA_at]; exact t1391
          obtain ⟨z1394, t1395, f1396⟩ := t_mul lit_7 t1393
          first | replace f1396 := f1396 (by omega) | clear f1396
          obtain ⟨z1397, t1398, f1399⟩ := t_add t1395 tx5
          first | replace f1399 := f1399 (by omega) | clear f1399
          refine ⟨vp_of t1398 (by omega) (by omega), ?_⟩
          obtain ⟨z1400, t1401⟩ := t_any (w_1v816.2.1 363 (((7 : Int32) * (w_1v816.2.1 362 x5.toNatClampNeg)) + x5).toNatClampNeg)
          obtain ⟨z1402, t1403, f1404⟩ := t_add tx4 t1401
          first | replace f1404 := f1404 (by omega) | clear f1404
          intro x4_2v817 ex4_2v817
          have tx4_2v817 : Ti x4_2v817 z1402 := by rw [ex4_2v817]; exact t1403
          unfold pX11_changesOf_100
          obtain ⟨z1405, t1406, f1407⟩ := t_add tx5 lit_m1
          first | replace f1407 := f1407 (by omega) | clear f1407
          intro x5_1v818 ex5_1v818
          have tx5_1v818 : Ti x5_1v818 z1405 := by rw [ex5_1v818]; exact t1406
          exact ih _ _ _ _ _ _ _ _ _ tx2 tx3_5v815 tx4_2v817 tx5_1v818 hIw_1v816 (by omega) (by omega) (by omega) (fo_2 h3 ew_2v813 tx5 ew_1v816 tx5 t1391 (by omega) (by omega) (by omega)) (by omega)
        · replace c1389 := c_nle tx5 tx6_4v814 c1389
          unfold pX11_changesOf_76
          refine ⟨vp_of tx5 (by omega) (by omega), ?_⟩
          intro w_1v819 ew_1v819
          have hIw_1v819 := ims_A hIw_2v813 ew_1v819 (by decide)
          refine ⟨vp_of tx5 (by omega) (by omega), ?_⟩
          have t1408 : Ti (w_1v819.2.1 362 x5.toNatClampNeg) z1383 := by rw [ew_1v819, sA_at]; exact tx6_4v814
          obtain ⟨z1409, t1410, f1411⟩ := t_mul lit_7 t1408
          first | replace f1411 := f1411 (by omega) | clear f1411
          obtain ⟨z1412, t1413, f1414⟩ := t_add t1410 tx5
          first | replace f1414 := f1414 (by omega) | clear f1414
          refine ⟨vp_of t1413 (by omega) (by omega), ?_⟩
          obtain ⟨z1415, t1416⟩ := t_any (w_1v819.2.1 363 (((7 : Int32) * (w_1v819.2.1 362 x5.toNatClampNeg)) + x5).toNatClampNeg)
          obtain ⟨z1417, t1418, f1419⟩ := t_add tx4 t1416
          first | replace f1419 := f1419 (by omega) | clear f1419
          intro x4_2v820 ex4_2v820
          have tx4_2v820 : Ti x4_2v820 z1417 := by rw [ex4_2v820]; exact t1418
          unfold pX11_changesOf_100
          obtain ⟨z1420, t1421, f1422⟩ := t_add tx5 lit_m1
          first | replace f1422 := f1422 (by omega) | clear f1422
          intro x5_1v821 ex5_1v821
          have tx5_1v821 : Ti x5_1v821 z1420 := by rw [ex5_1v821]; exact t1421
          exact ih _ _ _ _ _ _ _ _ _ tx2 tx3_5v815 tx4_2v820 tx5_1v821 hIw_1v819 (by omega) (by omega) (by omega) (fo_2 h3 ew_2v813 tx5 ew_1v819 tx5 tx6_4v814 (by omega) (by omega) (by omega)) (by omega)
      · replace c1375 := c_eq tx5 tx2 c1375
        unfold pX11_changesOf_100
        obtain ⟨z1423, t1424, f1425⟩ := t_add tx5 lit_m1
        first | replace f1425 := f1425 (by omega) | clear f1425
        intro x5_1v822 ex5_1v822
        have tx5_1v822 : Ti x5_1v822 z1423 := by rw [ex5_1v822]; exact t1424
        exact ih _ _ _ _ _ _ _ _ _ tx2 tx3 tx4 tx5_1v822 hIw_2v813 (by omega) (by omega) (by omega) (fo_1 h3 ew_2v813 tx5 (by omega) (by omega)) (by omega)
set_option maxHeartbeats 4000000 in
set_option maxRecDepth 100000 in
theorem sX11_changesOf {T W H P S M : Int} {post : Int32 → Wd → Prop} {x1 : Int32} {zx1 : Int} {x2 : Int32} {zx2 : Int} {w : Wd}  (tx1 : Ti x1 zx1) (tx2 : Ti x2 zx2) (hI : IM T W H P S M w) (h0 : 0 ≤ zx1) (h1 : 0 ≤ zx2 ∧ zx2 < M) (hp : ∀ (r : Int32) (zr : Int) (w9 : Wd), Ti r zr → IM T W H P S M w9 → post r w9) : pX11_changesOf   post  x1 x2 w := by
  unfold pX11_changesOf
  have hk := im_k hI
  obtain ⟨z1426, t1427⟩ := t_any (w.1 300 63)
  have f1428 := img_63 hI t1427
  obtain ⟨z1429, t1430, f1431⟩ := t_sub t1427 lit_1
  first | replace f1431 := f1431 (by omega) | clear f1431
  intro x5_1v823 ex5_1v823
  have tx5_1v823 : Ti x5_1v823 z1429 := by rw [ex5_1v823]; exact t1430
  exact ⟨70000, sX11_changesOf_13    (hp := hp) 70000 _ _ _ _ _ _ _ _ _ tx2 tx1 lit_0 tx5_1v823 hI (by omega) (by omega) (by omega) (fo_0 (by omega)) (by omega)⟩
set_option maxHeartbeats 4000000 in
set_option maxRecDepth 100000 in
theorem sX11_counts {T W H P S M : Int} {post : Int32 → Wd → Prop} {x1 : Int32} {zx1 : Int} {x2 : Int32} {zx2 : Int} {x3 : Int32} {zx3 : Int} {w : Wd}  (tx1 : Ti x1 zx1) (tx2 : Ti x2 zx2) (tx3 : Ti x3 zx3) (hI : IM T W H P S M w) (h0 : 0 ≤ zx1 ∧ zx1 ≤ 39) (hp : ∀ (r : Int32) (zr : Int), Ti r zr → ((zr = 0 ∨ w.2.1 353 x1.toNatClampNeg = x2)) → post r w) : pX11_counts   post  x1 x2 x3 w := by
  unfold pX11_counts
  have hk := im_k hI
  refine ⟨vp_of tx1 (by omega) (by omega), ?_⟩
  obtain ⟨z1432, t1433⟩ := t_any (w.2.1 353 x1.toNatClampNeg)
  refine ⟨fun c1435 => ?_, fun c1435 => ?_⟩
  · replace c1435 := c_neq t1433 tx2 c1435
    exact hp _ _ lit_0 (Or.inl (by omega))
  · replace c1435 := c_eq t1433 tx2 c1435
    refine ⟨vp_of tx1 (by omega) (by omega), ?_⟩
    obtain ⟨z1436, t1437⟩ := t_any (w.2.1 357 x1.toNatClampNeg)
    refine ⟨fun c1439 => ?_, fun c1439 => ?_⟩
    · replace c1439 := c_lt tx3 t1437 c1439
      exact hp _ _ lit_0 (Or.inl (by omega))
    · replace c1439 := c_nlt tx3 t1437 c1439
      refine ⟨vp_of tx1 (by omega) (by omega), ?_⟩
      obtain ⟨z1440, t1441⟩ := t_any (w.2.1 358 x1.toNatClampNeg)
      refine ⟨fun c1443 => ?_, fun c1443 => ?_⟩
      · replace c1443 := c_lt t1441 lit_0 c1443
        exact hp _ _ lit_1 (Or.inr (cq_eq t1433 tx2 (by omega)))
      · replace c1443 := c_nlt t1441 lit_0 c1443
        refine ⟨vp_of tx1 (by omega) (by omega), ?_⟩
        refine ⟨fun c1444 => ?_, fun c1444 => ?_⟩
        · replace c1444 := c_le t1441 tx3 c1444
          exact hp _ _ lit_0 (Or.inl (by omega))
        · replace c1444 := c_nle t1441 tx3 c1444
          exact hp _ _ lit_1 (Or.inr (cq_eq t1433 tx2 (by omega)))
set_option maxHeartbeats 4000000 in
set_option maxRecDepth 100000 in
theorem sX11_laySamples_92 {T W H P S M : Int} {k70 : Int32 → Wd → Prop} {M70 : Int} {post : Wd → Prop}  (hk70 : ∀ (x2 : Int32) (zx2 : Int) (w : Wd), Ti x2 zx2 → IM T W H P S M w → (0 ≤ zx2 ∧ zx2 ≤ 7) → (8 - zx2) < M70 → k70 x2 w) (hp : ∀ (w9 : Wd) (M9 : Int), IM T W H P S M9 w9 → post w9) : ∀ (n : Nat) (x2 : Int32) (x3 : Int32) (x4 : Int32) (zx2 : Int) (zx3 : Int) (zx4 : Int) (w : Wd), Ti x2 zx2 → Ti x3 zx3 → Ti x4 zx4 → IM T W H P S M w → (0 ≤ zx4 ∧ zx4 ≤ 7) → (zx2 ≤ 6) → (0 ≤ zx2 ∧ zx2 ≤ 7) → ((8 - zx2) ≤ M70) → (8 - zx4) < (n : Int) → pX11_laySamples_92 k70  post  n x2 x3 x4 w := by
  intro n
  induction n with
  | zero =>
    intro x2 x3 x4 zx2 zx3 zx4 w tx2 tx3 tx4 hI h0 h1 h2 h3 hm
    exact absurd hm (by omega)
  | succ n ih =>
    intro x2 x3 x4 zx2 zx3 zx4 w tx2 tx3 tx4 hI h0 h1 h2 h3 hm
    unfold pX11_laySamples_92
    have hk := im_k hI
    obtain ⟨z1445, t1446⟩ := t_any (w.1 300 63)
    have f1447 := img_63 hI t1446
    refine ⟨fun c1448 => ?_, fun c1448 => ?_⟩
    · replace c1448 := c_le t1446 tx4 c1448
      obtain ⟨z1449, t1450, f1451⟩ := t_add tx2 lit_1
      first | replace f1451 := f1451 (by omega) | clear f1451
      intro x2_2v824 ex2_2v824
      have tx2_2v824 : Ti x2_2v824 z1449 := by rw [ex2_2v824]; exact t1450
      exact hk70 _ _ _ tx2_2v824 hI (by omega) (by omega)
    · replace c1448 := c_nle t1446 tx4 c1448
      refine ⟨vp_of tx4 (by omega) (by omega), ?_⟩
      obtain ⟨z1452, t1453⟩ := t_any (x3 &&& ((w.2.1 361 x4.toNatClampNeg) ^^^ (-1 : Int32)))
      refine sX11_bitsOf   (hI := hI) (tx0 := t1453)  (hp := fun r_3v825 zr_3v825 tr_3v825 => ?_)
      refine ⟨vp_of tx4 (by omega) (by omega), ?_⟩
      obtain ⟨z1454, t1455⟩ := t_any ((w.2.1 361 x4.toNatClampNeg) &&& (x3 ^^^ (-1 : Int32)))
      refine sX11_bitsOf   (hI := hI) (tx0 := t1455)  (hp := fun r_5v831 zr_5v831 tr_5v831 => ?_)
      obtain ⟨z1456, t1457, f1458⟩ := t_mul lit_7 tx2
      first | replace f1458 := f1458 (by omega) | clear f1458
      obtain ⟨z1459, t1460, f1461⟩ := t_add t1457 tx4
      first | replace f1461 := f1461 (by omega) | clear f1461
      refine ⟨vp_of t1460 (by omega) (by omega), ?_⟩
      intro w_7v835 ew_7v835
      have hIw_7v835 := ims_A hI ew_7v835 (by decide)
      obtain ⟨z1462, t1463, f1464⟩ := t_add tx4 lit_1
      first | replace f1464 := f1464 (by omega) | clear f1464
      intro x4_8v836 ex4_8v836
      have tx4_8v836 : Ti x4_8v836 z1462 := by rw [ex4_8v836]; exact t1463
      exact ih _ _ _ _ _ _ _ tx2 tx3 tx4_8v836 hIw_7v835 (by omega) (by omega) (by omega) (by omega) (by omega)
set_option maxHeartbeats 4000000 in
set_option maxRecDepth 100000 in
theorem sX11_laySamples_70 {T W H P S M : Int} {post : Wd → Prop}   (hp : ∀ (w9 : Wd) (M9 : Int), IM T W H P S M9 w9 → post w9) : ∀ (n : Nat) (x2 : Int32) (zx2 : Int) (w : Wd), Ti x2 zx2 → IM T W H P S M w → (0 ≤ zx2 ∧ zx2 ≤ 7) → (8 - zx2) < (n : Int) → pX11_laySamples_70   post  n x2 w := by
  intro n
  induction n with
  | zero =>
    intro x2 zx2 w tx2 hI h0 hm
    exact absurd hm (by omega)
  | succ n ih =>
    intro x2 zx2 w tx2 hI h0 hm
    unfold pX11_laySamples_70
    have hk := im_k hI
    obtain ⟨z1465, t1466⟩ := t_any (w.1 300 63)
    have f1467 := img_63 hI t1466
    refine ⟨fun c1468 => ?_, fun c1468 => ?_⟩
    · replace c1468 := c_le t1466 tx2 c1468
      exact hp  _ _  hI 
    · replace c1468 := c_nle t1466 tx2 c1468
      refine ⟨vp_of tx2 (by omega) (by omega), ?_⟩
      obtain ⟨z1469, t1470⟩ := t_any (w.2.1 361 x2.toNatClampNeg)
      refine sX11_turnedRow   (hI := hI) (tx1 := t1470)  (hp := fun r_2v837 zr_2v837 tr_2v837 => ?_)
      exact ⟨70000, sX11_laySamples_92  (M70 := (n : Int)) (hk70 := ih)  (hp := hp) 70000 _ _ _ _ _ _ _ tx2 tr_2v837 lit_0 hI (by omega) (by omega) (by omega) (by omega) (by omega)⟩
set_option maxHeartbeats 4000000 in
set_option maxRecDepth 100000 in
theorem sX11_laySamples_7 {T W H P S : Int} {post : Wd → Prop}   (hp : ∀ (w9 : Wd) (M9 : Int), IM T W H P S M9 w9 → post w9) : ∀ (n : Nat) (x1 : Int32) (x2 : Int32) (zx1 : Int) (zx2 : Int) (w : Wd), Ti x1 zx1 → Ti x2 zx2 → IMe T W H P S w → (0 ≤ zx2 ∧ zx2 ≤ 40) → (41 - zx2) < (n : Int) → pX11_laySamples_7   post  n x1 x2 w := by
  intro n
  induction n with
  | zero =>
    intro x1 x2 zx1 zx2 w tx1 tx2 hI h0 hm
    obtain ⟨M, hI⟩ := hI
    exact absurd hm (by omega)
  | succ n ih =>
    intro x1 x2 zx1 zx2 w tx1 tx2 hI h0 hm
    obtain ⟨M, hI⟩ := hI
    unfold pX11_laySamples_7
    have hk := im_k hI
    obtain ⟨z1472, t1473⟩ := t_any (w.1 300 58)
    have f1474 := img_58 hI t1473
    refine ⟨fun c1475 => ?_, fun c1475 => ?_⟩
    · replace c1475 := c_le t1473 tx2 c1475
      unfold pX11_laySamples_68
      exact ⟨70000, sX11_laySamples_70    (hp := hp) 70000 _ _ _ lit_0 hI (by omega) (by omega)⟩
    · replace c1475 := c_nle t1473 tx2 c1475
      obtain ⟨z1476, t1477⟩ := t_any (w.1 300 63)
      have f1478 := img_63 hI t1477
      refine ⟨fun c1479 => ?_, fun c1479 => ?_⟩
      · replace c1479 := c_le lit_7 t1477 c1479
        unfold pX11_laySamples_68
        exact ⟨70000, sX11_laySamples_70    (hp := hp) 70000 _ _ _ lit_0 hI (by omega) (by omega)⟩
      · replace c1479 := c_nle lit_7 t1477 c1479
        refine sX11_counts   (hI := hI) (tx1 := tx2) (tx2 := lit_0) (tx3 := tx1) (h0 := (by omega)) (hp := fun r_3v839 zr_3v839 tr_3v839 p1480 => ?_)
        refine ⟨fun c1481 => ?_, fun c1481 => ?_⟩
        · replace c1481 := c_neq tr_3v839 lit_0 c1481
          refine ⟨vp_of tx2 (by omega) (by omega), ?_⟩
          refine ⟨vp_of t1477 (by omega) (by omega), ?_⟩
          intro w_6v843 ew_6v843
          have hIw_6v843 := ims_A hI ew_6v843 (by decide)
          intro w_7v844 ew_7v844
          have t1482 : Ti (w_6v843.1 300 63) z1476 := by rw [e1_A ew_6v843]; exact t1477
          obtain ⟨z1483, t1484, f1485⟩ := t_add t1482 lit_1
          first | replace f1485 := f1485 (by omega) | clear f1485
          have hIw_7v844 := ims_63 hIw_6v843 ew_7v844 t1484 (by omega) (by omega)
          unfold pX11_laySamples_62
          obtain ⟨z1486, t1487, f1488⟩ := t_add tx2 lit_1
          first | replace f1488 := f1488 (by omega) | clear f1488
          intro x2_1v845 ex2_1v845
          have tx2_1v845 : Ti x2_1v845 z1486 := by rw [ex2_1v845]; exact t1487
          exact ih _ _ _ _ _ tx1 tx2_1v845 ⟨_, hIw_7v844⟩ (by omega) (by omega)
        · replace c1481 := c_eq tr_3v839 lit_0 c1481
          unfold pX11_laySamples_62
          obtain ⟨z1489, t1490, f1491⟩ := t_add tx2 lit_1
          first | replace f1491 := f1491 (by omega) | clear f1491
          intro x2_1v846 ex2_1v846
          have tx2_1v846 : Ti x2_1v846 z1489 := by rw [ex2_1v846]; exact t1490
          exact ih _ _ _ _ _ tx1 tx2_1v846 ⟨_, hI⟩ (by omega) (by omega)
set_option maxHeartbeats 4000000 in
set_option maxRecDepth 100000 in
theorem sX11_laySamples {T W H P S M : Int} {post : Wd → Prop} {x1 : Int32} {zx1 : Int} {w : Wd}  (tx1 : Ti x1 zx1) (hI : IM T W H P S M w)  (hp : ∀ (w9 : Wd) (M9 : Int), IM T W H P S M9 w9 → post w9) : pX11_laySamples   post  x1 w := by
  unfold pX11_laySamples
  have hk := im_k hI
  intro w_1v847 ew_1v847
  have hIw_1v847 := ims_63 hI ew_1v847 lit_0 (by omega) (by omega)
  exact ⟨70000, sX11_laySamples_7    (hp := hp) 70000 _ _ _ _ _ tx1 lit_0 ⟨_, hIw_1v847⟩ (by omega) (by omega)⟩
set_option maxHeartbeats 4000000 in
set_option maxRecDepth 100000 in
theorem sX11_tree_143 {T W H P S M : Int} {k76 : Int32 → Int32 → Int32 → Int32 → Int32 → Int32 → Wd → Prop} {M76 : Int} {post : Int32 → Wd → Prop}  (hk76 : ∀ (x1 : Int32) (x2 : Int32) (x4 : Int32) (x5 : Int32) (x6 : Int32) (x7 : Int32) (zx1 : Int) (zx2 : Int) (zx4 : Int) (zx5 : Int) (zx6 : Int) (zx7 : Int) (w : Wd), Ti x1 zx1 → Ti x2 zx2 → Ti x4 zx4 → Ti x5 zx5 → Ti x6 zx6 → Ti x7 zx7 → IM T W H P S M w → (0 ≤ zx7) → (zx7 ≤ 2147483647 ∧ zx4 ≤ 2147483647) → (0 ≤ zx1 ∧ zx1 < M) → (2147483648 - zx7) < M76 → k76 x1 x2 x4 x5 x6 x7 w) (hp : ∀ (r : Int32) (zr : Int) (w9 : Wd) (M9 : Int), Ti r zr → IM T W H P S M9 w9 → post r w9) : ∀ (n : Nat) (x1 : Int32) (x2 : Int32) (x4 : Int32) (x6 : Int32) (x7 : Int32) (x8 : Int32) (x9 : Int32) (zx1 : Int) (zx2 : Int) (zx4 : Int) (zx6 : Int) (zx7 : Int) (zx8 : Int) (zx9 : Int) (w : Wd), Ti x1 zx1 → Ti x2 zx2 → Ti x4 zx4 → Ti x6 zx6 → Ti x7 zx7 → Ti x8 zx8 → Ti x9 zx9 → IM T W H P S M w → (0 ≤ zx9 ∧ zx9 ≤ 7) → (zx7 < zx4 ∧ zx4 ≤ 2147483647) → (0 ≤ zx7) → (zx7 ≤ 2147483647 ∧ zx4 ≤ 2147483647) → (0 ≤ zx1 ∧ zx1 < M) → ((2147483648 - zx7) ≤ M76) → (8 - zx9) < (n : Int) → pX11_tree_143 k76  post  n x1 x2 x4 x6 x7 x8 x9 w := by
  intro n
  induction n with
  | zero =>
    intro x1 x2 x4 x6 x7 x8 x9 zx1 zx2 zx4 zx6 zx7 zx8 zx9 w tx1 tx2 tx4 tx6 tx7 tx8 tx9 hI h0 h1 h2 h3 h4 h5 hm
    exact absurd hm (by omega)
  | succ n ih =>
    intro x1 x2 x4 x6 x7 x8 x9 zx1 zx2 zx4 zx6 zx7 zx8 zx9 w tx1 tx2 tx4 tx6 tx7 tx8 tx9 hI h0 h1 h2 h3 h4 h5 hm
    unfold pX11_tree_143
    have hk := im_k hI
    obtain ⟨z1492, t1493⟩ := t_any (w.1 300 63)
    have f1494 := img_63 hI t1493
    refine ⟨fun c1495 => ?_, fun c1495 => ?_⟩
    · replace c1495 := c_le t1493 tx9 c1495
      unfold pX11_tree_172
      unfold pX11_tree_176
      obtain ⟨z1496, t1497, f1498⟩ := t_add tx7 lit_1
      first | replace f1498 := f1498 (by omega) | clear f1498
      intro x7_1v850 ex7_1v850
      have tx7_1v850 : Ti x7_1v850 z1496 := by rw [ex7_1v850]; exact t1497
      have f1499 := t_rng tx4
      exact hk76 _ _ _ _ _ _ _ _ _ _ _ _ _ tx1 tx2 tx4 tx8 tx6 tx7_1v850 hI (by omega) (by omega) (by omega) (by omega)
    · replace c1495 := c_nle t1493 tx9 c1495
      refine ⟨vp_of tx9 (by omega) (by omega), ?_⟩
      refine ⟨vp_of tx9 (by omega) (by omega), ?_⟩
      intro w_2v848 ew_2v848
      have hIw_2v848 := ims_A hI ew_2v848 (by decide)
      obtain ⟨z1500, t1501, f1502⟩ := t_add tx9 lit_1
      first | replace f1502 := f1502 (by omega) | clear f1502
      intro x9_3v849 ex9_3v849
      have tx9_3v849 : Ti x9_3v849 z1500 := by rw [ex9_3v849]; exact t1501
      exact ih _ _ _ _ _ _ _ _ _ _ _ _ _ _ _ tx1 tx2 tx4 tx6 tx7 tx8 tx9_3v849 hIw_2v848 (by omega) (by omega) (by omega) (by omega) (by omega) (by omega) (by omega)
set_option maxHeartbeats 4000000 in
set_option maxRecDepth 100000 in
theorem sX11_tree_76 {T W H P S M : Int} {post : Int32 → Wd → Prop}   (hp : ∀ (r : Int32) (zr : Int) (w9 : Wd) (M9 : Int), Ti r zr → IM T W H P S M9 w9 → post r w9) : ∀ (n : Nat) (x1 : Int32) (x2 : Int32) (x4 : Int32) (x5 : Int32) (x6 : Int32) (x7 : Int32) (zx1 : Int) (zx2 : Int) (zx4 : Int) (zx5 : Int) (zx6 : Int) (zx7 : Int) (w : Wd), Ti x1 zx1 → Ti x2 zx2 → Ti x4 zx4 → Ti x5 zx5 → Ti x6 zx6 → Ti x7 zx7 → IM T W H P S M w → (0 ≤ zx7) → (zx7 ≤ 2147483647 ∧ zx4 ≤ 2147483647) → (0 ≤ zx1 ∧ zx1 < M) → (2147483648 - zx7) < (n : Int) → pX11_tree_76   post  n x1 x2 x4 x5 x6 x7 w := by
  intro n
  induction n with
  | zero =>
    intro x1 x2 x4 x5 x6 x7 zx1 zx2 zx4 zx5 zx6 zx7 w tx1 tx2 tx4 tx5 tx6 tx7 hI h0 h1 h2 hm
    exact absurd hm (by omega)
  | succ n ih =>
    intro x1 x2 x4 x5 x6 x7 zx1 zx2 zx4 zx5 zx6 zx7 w tx1 tx2 tx4 tx5 tx6 tx7 hI h0 h1 h2 hm
    unfold pX11_tree_76
    have hk := im_k hI
    refine ⟨fun c1503 => ?_, fun c1503 => ?_⟩
    · replace c1503 := c_le tx4 tx7 c1503
      intro w_2v851 ew_2v851
      obtain ⟨z1504, t1505⟩ := t_any (w.1 300 63)
      have f1506 := img_63 hI t1505
      have hIw_2v851 := ims_48 hI ew_2v851 t1505 (by omega) (by omega)
      refine ⟨fun c1507 => ?_, fun c1507 => ?_⟩
      · replace c1507 := c_neq tx2 lit_0 c1507
        exact hp _ _ _ _ tx6 hIw_2v851 
      · replace c1507 := c_eq tx2 lit_0 c1507
        exact hp _ _ _ _ tx5 hIw_2v851 
    · replace c1503 := c_nle tx4 tx7 c1503
      refine sX11_changesOf   (hI := hI) (tx1 := tx7) (tx2 := tx1) (h0 := (by omega)) (h1 := (by omega)) (hp := fun r_4v852 zr_4v852 w_5v853  tr_4v852 hIw_5v853  => ?_)
      refine ⟨fun c1508 => ?_, fun c1508 => ?_⟩
      · replace c1508 := c_lt tr_4v852 lit_0 c1508
        unfold pX11_tree_176
        obtain ⟨z1509, t1510, f1511⟩ := t_add tx7 lit_1
        first | replace f1511 := f1511 (by omega) | clear f1511
        intro x7_1v854 ex7_1v854
        have tx7_1v854 : Ti x7_1v854 z1509 := by rw [ex7_1v854]; exact t1510
        have f1512 := t_rng tx4
        exact ih _ _ _ _ _ _ _ _ _ _ _ _ _ tx1 tx2 tx4 tx5 tx6 tx7_1v854 hIw_5v853 (by omega) (by omega) (by omega) (by omega)
      · replace c1508 := c_nlt tr_4v852 lit_0 c1508
        refine ⟨fun c1513 => ?_, fun c1513 => ?_⟩
        · replace c1513 := c_lt tx5 lit_0 c1513
          unfold pX11_tree_112
          refine ⟨fun c1514 => ?_, fun c1514 => ?_⟩
          · replace c1514 := c_lt tx5 lit_0 c1514
            unfold pX11_tree_124
            unfold pX11_tree_132
            refine ⟨fun c1515 => ?_, fun c1515 => ?_⟩
            · replace c1515 := c_neq lit_1 lit_1 c1515
              unfold pX11_tree_172
              unfold pX11_tree_176
              obtain ⟨z1516, t1517, f1518⟩ := t_add tx7 lit_1
              first | replace f1518 := f1518 (by omega) | clear f1518
              intro x7_1v855 ex7_1v855
              have tx7_1v855 : Ti x7_1v855 z1516 := by rw [ex7_1v855]; exact t1517
              have f1519 := t_rng tx4
              exact ih _ _ _ _ _ _ _ _ _ _ _ _ _ tx1 tx2 tx4 tr_4v852 lit_1 tx7_1v855 hIw_5v853 (by omega) (by omega) (by omega) (by omega)
            · replace c1515 := c_eq lit_1 lit_1 c1515
              exact ⟨70000, sX11_tree_143  (M76 := (n : Int)) (hk76 := ih)  (hp := hp) 70000 _ _ _ _ _ _ _ _ _ _ _ _ _ _ _ tx1 tx2 tx4 lit_1 tx7 tr_4v852 lit_0 hIw_5v853 (by omega) (by omega) (by omega) (by omega) (by omega) (by omega) (by omega)⟩
          · replace c1514 := c_nlt tx5 lit_0 c1514
            refine ⟨fun c1520 => ?_, fun c1520 => ?_⟩
            · replace c1520 := c_le tx5 tr_4v852 c1520
              unfold pX11_tree_132
              obtain ⟨z1521, t1522, f1523⟩ := t_add tx6 lit_1
              first | replace f1523 := f1523 (by omega) | clear f1523
              refine ⟨fun c1524 => ?_, fun c1524 => ?_⟩
              · replace c1524 := c_neq t1522 lit_1 c1524
                unfold pX11_tree_172
                unfold pX11_tree_176
                obtain ⟨z1525, t1526, f1527⟩ := t_add tx7 lit_1
                first | replace f1527 := f1527 (by omega) | clear f1527
                intro x7_1v856 ex7_1v856
                have tx7_1v856 : Ti x7_1v856 z1525 := by rw [ex7_1v856]; exact t1526
                have f1528 := t_rng tx4
                exact ih _ _ _ _ _ _ _ _ _ _ _ _ _ tx1 tx2 tx4 tr_4v852 t1522 tx7_1v856 hIw_5v853 (by omega) (by omega) (by omega) (by omega)
              · replace c1524 := c_eq t1522 lit_1 c1524
                exact ⟨70000, sX11_tree_143  (M76 := (n : Int)) (hk76 := ih)  (hp := hp) 70000 _ _ _ _ _ _ _ _ _ _ _ _ _ _ _ tx1 tx2 tx4 t1522 tx7 tr_4v852 lit_0 hIw_5v853 (by omega) (by omega) (by omega) (by omega) (by omega) (by omega) (by omega)⟩
            · replace c1520 := c_nle tx5 tr_4v852 c1520
              unfold pX11_tree_124
              unfold pX11_tree_132
              refine ⟨fun c1529 => ?_, fun c1529 => ?_⟩
              · replace c1529 := c_neq lit_1 lit_1 c1529
                unfold pX11_tree_172
                unfold pX11_tree_176
                obtain ⟨z1530, t1531, f1532⟩ := t_add tx7 lit_1
                first | replace f1532 := f1532 (by omega) | clear f1532
                intro x7_1v857 ex7_1v857
                have tx7_1v857 : Ti x7_1v857 z1530 := by rw [ex7_1v857]; exact t1531
                have f1533 := t_rng tx4
                exact ih _ _ _ _ _ _ _ _ _ _ _ _ _ tx1 tx2 tx4 tr_4v852 lit_1 tx7_1v857 hIw_5v853 (by omega) (by omega) (by omega) (by omega)
              · replace c1529 := c_eq lit_1 lit_1 c1529
                exact ⟨70000, sX11_tree_143  (M76 := (n : Int)) (hk76 := ih)  (hp := hp) 70000 _ _ _ _ _ _ _ _ _ _ _ _ _ _ _ tx1 tx2 tx4 lit_1 tx7 tr_4v852 lit_0 hIw_5v853 (by omega) (by omega) (by omega) (by omega) (by omega) (by omega) (by omega)⟩
        · replace c1513 := c_nlt tx5 lit_0 c1513
          refine ⟨fun c1534 => ?_, fun c1534 => ?_⟩
          · replace c1534 := c_le tr_4v852 tx5 c1534
            unfold pX11_tree_112
            refine ⟨fun c1535 => ?_, fun c1535 => ?_⟩
            · replace c1535 := c_lt tx5 lit_0 c1535
              unfold pX11_tree_124
              unfold pX11_tree_132
              refine ⟨fun c1536 => ?_, fun c1536 => ?_⟩
              · replace c1536 := c_neq lit_1 lit_1 c1536
                unfold pX11_tree_172
                unfold pX11_tree_176
                obtain ⟨z1537, t1538, f1539⟩ := t_add tx7 lit_1
                first | replace f1539 := f1539 (by omega) | clear f1539
                intro x7_1v858 ex7_1v858
                have tx7_1v858 : Ti x7_1v858 z1537 := by rw [ex7_1v858]; exact t1538
                have f1540 := t_rng tx4
                exact ih _ _ _ _ _ _ _ _ _ _ _ _ _ tx1 tx2 tx4 tr_4v852 lit_1 tx7_1v858 hIw_5v853 (by omega) (by omega) (by omega) (by omega)
              · replace c1536 := c_eq lit_1 lit_1 c1536
                exact ⟨70000, sX11_tree_143  (M76 := (n : Int)) (hk76 := ih)  (hp := hp) 70000 _ _ _ _ _ _ _ _ _ _ _ _ _ _ _ tx1 tx2 tx4 lit_1 tx7 tr_4v852 lit_0 hIw_5v853 (by omega) (by omega) (by omega) (by omega) (by omega) (by omega) (by omega)⟩
            · replace c1535 := c_nlt tx5 lit_0 c1535
              refine ⟨fun c1541 => ?_, fun c1541 => ?_⟩
              · replace c1541 := c_le tx5 tr_4v852 c1541
                unfold pX11_tree_132
                obtain ⟨z1542, t1543, f1544⟩ := t_add tx6 lit_1
                first | replace f1544 := f1544 (by omega) | clear f1544
                refine ⟨fun c1545 => ?_, fun c1545 => ?_⟩
                · replace c1545 := c_neq t1543 lit_1 c1545
                  unfold pX11_tree_172
                  unfold pX11_tree_176
                  obtain ⟨z1546, t1547, f1548⟩ := t_add tx7 lit_1
                  first | replace f1548 := f1548 (by omega) | clear f1548
                  intro x7_1v859 ex7_1v859
                  have tx7_1v859 : Ti x7_1v859 z1546 := by rw [ex7_1v859]; exact t1547
                  have f1549 := t_rng tx4
                  exact ih _ _ _ _ _ _ _ _ _ _ _ _ _ tx1 tx2 tx4 tr_4v852 t1543 tx7_1v859 hIw_5v853 (by omega) (by omega) (by omega) (by omega)
                · replace c1545 := c_eq t1543 lit_1 c1545
                  exact ⟨70000, sX11_tree_143  (M76 := (n : Int)) (hk76 := ih)  (hp := hp) 70000 _ _ _ _ _ _ _ _ _ _ _ _ _ _ _ tx1 tx2 tx4 t1543 tx7 tr_4v852 lit_0 hIw_5v853 (by omega) (by omega) (by omega) (by omega) (by omega) (by omega) (by omega)⟩
              · replace c1541 := c_nle tx5 tr_4v852 c1541
                unfold pX11_tree_124
                unfold pX11_tree_132
                refine ⟨fun c1550 => ?_, fun c1550 => ?_⟩
                · replace c1550 := c_neq lit_1 lit_1 c1550
                  unfold pX11_tree_172
                  unfold pX11_tree_176
                  obtain ⟨z1551, t1552, f1553⟩ := t_add tx7 lit_1
                  first | replace f1553 := f1553 (by omega) | clear f1553
                  intro x7_1v860 ex7_1v860
                  have tx7_1v860 : Ti x7_1v860 z1551 := by rw [ex7_1v860]; exact t1552
                  have f1554 := t_rng tx4
                  exact ih _ _ _ _ _ _ _ _ _ _ _ _ _ tx1 tx2 tx4 tr_4v852 lit_1 tx7_1v860 hIw_5v853 (by omega) (by omega) (by omega) (by omega)
                · replace c1550 := c_eq lit_1 lit_1 c1550
                  exact ⟨70000, sX11_tree_143  (M76 := (n : Int)) (hk76 := ih)  (hp := hp) 70000 _ _ _ _ _ _ _ _ _ _ _ _ _ _ _ tx1 tx2 tx4 lit_1 tx7 tr_4v852 lit_0 hIw_5v853 (by omega) (by omega) (by omega) (by omega) (by omega) (by omega) (by omega)⟩
          · replace c1534 := c_nle tr_4v852 tx5 c1534
            unfold pX11_tree_176
            obtain ⟨z1555, t1556, f1557⟩ := t_add tx7 lit_1
            first | replace f1557 := f1557 (by omega) | clear f1557
            intro x7_1v861 ex7_1v861
            have tx7_1v861 : Ti x7_1v861 z1555 := by rw [ex7_1v861]; exact t1556
            have f1558 := t_rng tx4
            exact ih _ _ _ _ _ _ _ _ _ _ _ _ _ tx1 tx2 tx4 tx5 tx6 tx7_1v861 hIw_5v853 (by omega) (by omega) (by omega) (by omega)
set_option maxHeartbeats 4000000 in
set_option maxRecDepth 100000 in
theorem sX11_tree_41 {T W H P S M : Int} {post : Int32 → Wd → Prop}   (hp : ∀ (r : Int32) (zr : Int) (w9 : Wd) (M9 : Int), Ti r zr → IM T W H P S M9 w9 → post r w9) : ∀ (n : Nat) (x1 : Int32) (x2 : Int32) (x4 : Int32) (x5 : Int32) (zx1 : Int) (zx2 : Int) (zx4 : Int) (zx5 : Int) (w : Wd), Ti x1 zx1 → Ti x2 zx2 → Ti x4 zx4 → Ti x5 zx5 → IM T W H P S M w → (0 ≤ zx5 ∧ zx5 ≤ 7) → (0 ≤ zx1 ∧ zx1 < M) → (8 - zx5) < (n : Int) → pX11_tree_41   post  n x1 x2 x4 x5 w := by
  intro n
  induction n with
  | zero =>
    intro x1 x2 x4 x5 zx1 zx2 zx4 zx5 w tx1 tx2 tx4 tx5 hI h0 h1 hm
    exact absurd hm (by omega)
  | succ n ih =>
    intro x1 x2 x4 x5 zx1 zx2 zx4 zx5 w tx1 tx2 tx4 tx5 hI h0 h1 hm
    unfold pX11_tree_41
    have hk := im_k hI
    obtain ⟨z1559, t1560⟩ := t_any (w.1 300 63)
    have f1561 := img_63 hI t1560
    refine ⟨fun c1562 => ?_, fun c1562 => ?_⟩
    · replace c1562 := c_le t1560 tx5 c1562
      have f1563 := t_rng tx4
      exact ⟨2147483649, sX11_tree_76    (hp := hp) 2147483649 _ _ _ _ _ _ _ _ _ _ _ _ _ tx1 tx2 tx4 lit_m1 lit_0 lit_0 hI (by omega) (by omega) (by omega) (by omega)⟩
    · replace c1562 := c_nle t1560 tx5 c1562
      obtain ⟨z1564, t1565, f1566⟩ := t_sub t1560 lit_1
      first | replace f1566 := f1566 (by omega) | clear f1566
      obtain ⟨z1567, t1568, f1569⟩ := t_mulv tx4 t1565
      first | replace f1569 := f1569 (by omega) | clear f1569
      intro x4_2v862 ex4_2v862
      have tx4_2v862 : Ti x4_2v862 z1567 := by rw [ex4_2v862]; exact t1568
      obtain ⟨z1570, t1571, f1572⟩ := t_add tx5 lit_1
      first | replace f1572 := f1572 (by omega) | clear f1572
      intro x5_3v863 ex5_3v863
      have tx5_3v863 : Ti x5_3v863 z1570 := by rw [ex5_3v863]; exact t1571
      exact ih _ _ _ _ _ _ _ _ _ tx1 tx2 tx4_2v862 tx5_3v863 hI (by omega) (by omega) (by omega)
set_option maxHeartbeats 4000000 in
set_option maxRecDepth 100000 in
theorem sX11_tree {T W H P S M : Int} {post : Int32 → Wd → Prop} {x1 : Int32} {zx1 : Int} {x2 : Int32} {zx2 : Int} {x3 : Int32} {zx3 : Int} {w : Wd}  (tx1 : Ti x1 zx1) (tx2 : Ti x2 zx2) (tx3 : Ti x3 zx3) (hI : IM T W H P S M w)  (hp : ∀ (r : Int32) (zr : Int) (w9 : Wd) (M9 : Int), Ti r zr → IM T W H P S M9 w9 → post r w9) : pX11_tree   post  x1 x2 x3 w := by
  unfold pX11_tree
  have hk := im_k hI
  intro w_1v864 ew_1v864
  have hIw_1v864 := ims_48 hI ew_1v864 lit_0 (by omega) (by omega)
  refine sX11_laySamples   (hI := hIw_1v864) (tx1 := tx3)  (hp := fun  w_2v865 g1573  hIw_2v865  => ?_)
  have f1574 := im_k hIw_2v865
  obtain ⟨z1575, t1576⟩ := t_any (w_2v865.1 300 63)
  have f1577 := img_63 hIw_2v865 t1576
  obtain ⟨z1578, t1579, f1580⟩ := t_sub t1576 lit_1
  first | replace f1580 := f1580 (by omega) | clear f1580
  refine sX11_isIn   (hI := hIw_2v865) (tx0 := tx1) (tx1 := lit_0) (tx2 := t1579)  (hp := fun r_3v866 zr_3v866 tr_3v866 p1581 p1582 => ?_)
  refine ⟨fun c1583 => ?_, fun c1583 => ?_⟩
  · replace c1583 := c_eq tr_3v866 lit_0 c1583
    exact hp _ _ _ _ lit_m1 hIw_2v865 
  · replace c1583 := c_neq tr_3v866 lit_0 c1583
    refine sX11_isIn   (hI := hIw_2v865) (tx0 := tx2) (tx1 := lit_0) (tx2 := lit_1)  (hp := fun r_6v870 zr_6v870 tr_6v870 p1584 p1585 => ?_)
    refine ⟨fun c1586 => ?_, fun c1586 => ?_⟩
    · replace c1586 := c_neq tr_6v870 lit_0 c1586
      exact ⟨70000, sX11_tree_41    (hp := hp) 70000 _ _ _ _ _ _ _ _ _ tx1 tx2 lit_1 lit_1 hIw_2v865 (by omega) (by omega) (by omega)⟩
    · replace c1586 := c_eq tr_6v870 lit_0 c1586
      exact hp _ _ _ _ lit_m1 hIw_2v865 
set_option maxHeartbeats 4000000 in
set_option maxRecDepth 100000 in
theorem sX11_centre_46 {T W H P S M : Int} {k31 : Int32 → Int32 → Int32 → Int32 → Wd → Prop} {M31 : Int} {post : Int32 → Wd → Prop}  (hk31 : ∀ (x1 : Int32) (x3 : Int32) (x4 : Int32) (x5 : Int32) (zx1 : Int) (zx3 : Int) (zx4 : Int) (zx5 : Int) (w : Wd), Ti x1 zx1 → Ti x3 zx3 → Ti x4 zx4 → Ti x5 zx5 → IM T W H P S M w → (0 ≤ zx5 ∧ zx5 ≤ 7) → (8 - zx5) < M31 → k31 x1 x3 x4 x5 w) (hp : ∀ (r : Int32) (zr : Int) (w9 : Wd) (M9 : Int), Ti r zr → IM T W H P S M9 w9 → post r w9) : ∀ (n : Nat) (x1 : Int32) (x3 : Int32) (x4 : Int32) (x5 : Int32) (x6 : Int32) (x7 : Int32) (zx1 : Int) (zx3 : Int) (zx4 : Int) (zx5 : Int) (zx6 : Int) (zx7 : Int) (w : Wd), Ti x1 zx1 → Ti x3 zx3 → Ti x4 zx4 → Ti x5 zx5 → Ti x6 zx6 → Ti x7 zx7 → IM T W H P S M w → (0 ≤ zx7 ∧ zx7 ≤ 7) → (zx5 ≤ 6) → (0 ≤ zx5 ∧ zx5 ≤ 7) → ((8 - zx5) ≤ M31) → (8 - zx7) < (n : Int) → pX11_centre_46 k31  post  n x1 x3 x4 x5 x6 x7 w := by
  intro n
  induction n with
  | zero =>
    intro x1 x3 x4 x5 x6 x7 zx1 zx3 zx4 zx5 zx6 zx7 w tx1 tx3 tx4 tx5 tx6 tx7 hI h0 h1 h2 h3 hm
    exact absurd hm (by omega)
  | succ n ih =>
    intro x1 x3 x4 x5 x6 x7 zx1 zx3 zx4 zx5 zx6 zx7 w tx1 tx3 tx4 tx5 tx6 tx7 hI h0 h1 h2 h3 hm
    unfold pX11_centre_46
    have hk := im_k hI
    obtain ⟨z1587, t1588⟩ := t_any (w.1 300 63)
    have f1589 := img_63 hI t1588
    refine ⟨fun c1590 => ?_, fun c1590 => ?_⟩
    · replace c1590 := c_le t1588 tx7 c1590
      refine ⟨fun c1591 => ?_, fun c1591 => ?_⟩
      · replace c1591 := c_lt tx3 lit_0 c1591
        unfold pX11_centre_100
        unfold pX11_centre_107
        obtain ⟨z1592, t1593, f1594⟩ := t_add tx5 lit_1
        first | replace f1594 := f1594 (by omega) | clear f1594
        intro x5_1v873 ex5_1v873
        have tx5_1v873 : Ti x5_1v873 z1592 := by rw [ex5_1v873]; exact t1593
        exact hk31 _ _ _ _ _ _ _ _ _ tx1 tx5 tx6 tx5_1v873 hI (by omega) (by omega)
      · replace c1591 := c_nlt tx3 lit_0 c1591
        refine ⟨fun c1595 => ?_, fun c1595 => ?_⟩
        · replace c1595 := c_lt tx6 tx4 c1595
          unfold pX11_centre_100
          unfold pX11_centre_107
          obtain ⟨z1596, t1597, f1598⟩ := t_add tx5 lit_1
          first | replace f1598 := f1598 (by omega) | clear f1598
          intro x5_1v874 ex5_1v874
          have tx5_1v874 : Ti x5_1v874 z1596 := by rw [ex5_1v874]; exact t1597
          exact hk31 _ _ _ _ _ _ _ _ _ tx1 tx5 tx6 tx5_1v874 hI (by omega) (by omega)
        · replace c1595 := c_nlt tx6 tx4 c1595
          unfold pX11_centre_107
          obtain ⟨z1599, t1600, f1601⟩ := t_add tx5 lit_1
          first | replace f1601 := f1601 (by omega) | clear f1601
          intro x5_1v875 ex5_1v875
          have tx5_1v875 : Ti x5_1v875 z1599 := by rw [ex5_1v875]; exact t1600
          exact hk31 _ _ _ _ _ _ _ _ _ tx1 tx3 tx4 tx5_1v875 hI (by omega) (by omega)
    · replace c1590 := c_nle t1588 tx7 c1590
      refine ⟨fun c1602 => ?_, fun c1602 => ?_⟩
      · replace c1602 := c_eq tx7 tx5 c1602
        unfold pX11_centre_80
        obtain ⟨z1603, t1604, f1605⟩ := t_add tx7 lit_1
        first | replace f1605 := f1605 (by omega) | clear f1605
        intro x7_1v876 ex7_1v876
        have tx7_1v876 : Ti x7_1v876 z1603 := by rw [ex7_1v876]; exact t1604
        exact ih _ _ _ _ _ _ _ _ _ _ _ _ _ tx1 tx3 tx4 tx5 tx6 tx7_1v876 hI (by omega) (by omega) (by omega) (by omega) (by omega)
      · replace c1602 := c_neq tx7 tx5 c1602
        obtain ⟨z1606, t1607, f1608⟩ := t_mul lit_7 tx5
        first | replace f1608 := f1608 (by omega) | clear f1608
        obtain ⟨z1609, t1610, f1611⟩ := t_add t1607 tx7
        first | replace f1611 := f1611 (by omega) | clear f1611
        refine ⟨vp_of t1610 (by omega) (by omega), ?_⟩
        obtain ⟨z1612, t1613⟩ := t_any (w.2.1 363 (((7 : Int32) * x5) + x7).toNatClampNeg)
        obtain ⟨z1615, t1616, f1617⟩ := t_add tx6 t1613
        first | replace f1617 := f1617 (by omega) | clear f1617
        intro x6_5v872 ex6_5v872
        have tx6_5v872 : Ti x6_5v872 z1615 := by rw [ex6_5v872]; exact t1616
        unfold pX11_centre_80
        obtain ⟨z1618, t1619, f1620⟩ := t_add tx7 lit_1
        first | replace f1620 := f1620 (by omega) | clear f1620
        intro x7_1v877 ex7_1v877
        have tx7_1v877 : Ti x7_1v877 z1618 := by rw [ex7_1v877]; exact t1619
        exact ih _ _ _ _ _ _ _ _ _ _ _ _ _ tx1 tx3 tx4 tx5 tx6_5v872 tx7_1v877 hI (by omega) (by omega) (by omega) (by omega) (by omega)
set_option maxHeartbeats 4000000 in
set_option maxRecDepth 100000 in
theorem sX11_centre_31 {T W H P S M : Int} {post : Int32 → Wd → Prop}   (hp : ∀ (r : Int32) (zr : Int) (w9 : Wd) (M9 : Int), Ti r zr → IM T W H P S M9 w9 → post r w9) : ∀ (n : Nat) (x1 : Int32) (x3 : Int32) (x4 : Int32) (x5 : Int32) (zx1 : Int) (zx3 : Int) (zx4 : Int) (zx5 : Int) (w : Wd), Ti x1 zx1 → Ti x3 zx3 → Ti x4 zx4 → Ti x5 zx5 → IM T W H P S M w → (0 ≤ zx5 ∧ zx5 ≤ 7) → (8 - zx5) < (n : Int) → pX11_centre_31   post  n x1 x3 x4 x5 w := by
  intro n
  induction n with
  | zero =>
    intro x1 x3 x4 x5 zx1 zx3 zx4 zx5 w tx1 tx3 tx4 tx5 hI h0 hm
    exact absurd hm (by omega)
  | succ n ih =>
    intro x1 x3 x4 x5 zx1 zx3 zx4 zx5 w tx1 tx3 tx4 tx5 hI h0 hm
    unfold pX11_centre_31
    have hk := im_k hI
    obtain ⟨z1621, t1622⟩ := t_any (w.1 300 63)
    have f1623 := img_63 hI t1622
    refine ⟨fun c1624 => ?_, fun c1624 => ?_⟩
    · replace c1624 := c_le t1622 tx5 c1624
      refine ⟨fun c1625 => ?_, fun c1625 => ?_⟩
      · replace c1625 := c_neq tx1 lit_0 c1625
        exact hp _ _ _ _ tx4 hI 
      · replace c1625 := c_eq tx1 lit_0 c1625
        exact hp _ _ _ _ tx3 hI 
    · replace c1624 := c_nle t1622 tx5 c1624
      exact ⟨70000, sX11_centre_46  (M31 := (n : Int)) (hk31 := ih)  (hp := hp) 70000 _ _ _ _ _ _ _ _ _ _ _ _ _ tx1 tx3 tx4 tx5 lit_0 lit_0 hI (by omega) (by omega) (by omega) (by omega) (by omega)⟩
set_option maxHeartbeats 4000000 in
set_option maxRecDepth 100000 in
theorem sX11_centre {T W H P S M : Int} {post : Int32 → Wd → Prop} {x1 : Int32} {zx1 : Int} {x2 : Int32} {zx2 : Int} {w : Wd}  (tx1 : Ti x1 zx1) (tx2 : Ti x2 zx2) (hI : IM T W H P S M w)  (hp : ∀ (r : Int32) (zr : Int) (w9 : Wd) (M9 : Int), Ti r zr → IM T W H P S M9 w9 → post r w9) : pX11_centre   post  x1 x2 w := by
  unfold pX11_centre
  have hk := im_k hI
  refine sX11_laySamples   (hI := hI) (tx1 := tx2)  (hp := fun  w_1v878 g1626  hIw_1v878  => ?_)
  have f1627 := im_k hIw_1v878
  obtain ⟨z1628, t1629⟩ := t_any (w_1v878.1 300 63)
  have f1630 := img_63 hIw_1v878 t1629
  refine ⟨fun c1631 => ?_, fun c1631 => ?_⟩
  · replace c1631 := c_eq t1629 lit_0 c1631
    exact hp _ _ _ _ lit_m1 hIw_1v878 
  · replace c1631 := c_neq t1629 lit_0 c1631
    refine sX11_isIn   (hI := hIw_1v878) (tx0 := tx1) (tx1 := lit_0) (tx2 := lit_1)  (hp := fun r_3v879 zr_3v879 tr_3v879 p1632 p1633 => ?_)
    refine ⟨fun c1634 => ?_, fun c1634 => ?_⟩
    · replace c1634 := c_neq tr_3v879 lit_0 c1634
      exact ⟨70000, sX11_centre_31    (hp := hp) 70000 _ _ _ _ _ _ _ _ _ tx1 lit_m1 lit_0 lit_0 hIw_1v878 (by omega) (by omega)⟩
    · replace c1634 := c_eq tr_3v879 lit_0 c1634
      exact hp _ _ _ _ lit_m1 hIw_1v878 
set_option maxHeartbeats 4000000 in
set_option maxRecDepth 100000 in
theorem sX11_layClans_140 {T W H P S M : Int} {k35 : Int32 → Int32 → Int32 → Wd → Prop} {M35 : Int} {M25 : Int} {post : Wd → Prop}  (hk35 : ∀ (x1 : Int32) (x2 : Int32) (x3 : Int32) (zx1 : Int) (zx2 : Int) (zx3 : Int) (w : Wd), Ti x1 zx1 → Ti x2 zx2 → Ti x3 zx3 → IM T W H P S M w → (0 ≤ zx3 ∧ zx3 ≤ 7) → (zx2 ≤ 6) → (0 ≤ zx2 ∧ zx2 ≤ 7) → ((8 - zx2) ≤ M25) → (8 - zx3) < M35 → k35 x1 x2 x3 w) (hp : ∀ (w9 : Wd), IM T W H P S M w9 → post w9) : ∀ (n : Nat) (x1 : Int32) (x2 : Int32) (x3 : Int32) (x4 : Int32) (x5 : Int32) (x6 : Int32) (zx1 : Int) (zx2 : Int) (zx3 : Int) (zx4 : Int) (zx5 : Int) (zx6 : Int) (w : Wd), Ti x1 zx1 → Ti x2 zx2 → Ti x3 zx3 → Ti x4 zx4 → Ti x5 zx5 → Ti x6 zx6 → IM T W H P S M w → (0 ≤ zx6 ∧ zx6 ≤ 7) → (zx3 < zx2) → (0 ≤ zx3) → (0 ≤ zx3 ∧ zx3 ≤ 7) → (zx2 ≤ 6) → (0 ≤ zx2 ∧ zx2 ≤ 7) → ((8 - zx2) ≤ M25) → ((8 - zx3) ≤ M35) → (8 - zx6) < (n : Int) → pX11_layClans_140 k35  post  n x1 x2 x3 x4 x5 x6 w := by
  intro n
  induction n with
  | zero =>
    intro x1 x2 x3 x4 x5 x6 zx1 zx2 zx3 zx4 zx5 zx6 w tx1 tx2 tx3 tx4 tx5 tx6 hI h0 h1 h2 h3 h4 h5 h6 h7 hm
    exact absurd hm (by omega)
  | succ n ih =>
    intro x1 x2 x3 x4 x5 x6 zx1 zx2 zx3 zx4 zx5 zx6 w tx1 tx2 tx3 tx4 tx5 tx6 hI h0 h1 h2 h3 h4 h5 h6 h7 hm
    unfold pX11_layClans_140
    have hk := im_k hI
    obtain ⟨z1635, t1636⟩ := t_any (w.1 300 63)
    have f1637 := img_63 hI t1636
    refine ⟨fun c1638 => ?_, fun c1638 => ?_⟩
    · replace c1638 := c_le t1636 tx6 c1638
      unfold pX11_layClans_176
      obtain ⟨z1639, t1640, f1641⟩ := t_add tx3 lit_1
      first | replace f1641 := f1641 (by omega) | clear f1641
      intro x3_1v882 ex3_1v882
      have tx3_1v882 : Ti x3_1v882 z1639 := by rw [ex3_1v882]; exact t1640
      exact hk35 _ _ _ _ _ _ _ tx1 tx2 tx3_1v882 hI (by omega) (by omega) (by omega) (by omega) (by omega)
    · replace c1638 := c_nle t1636 tx6 c1638
      refine ⟨vp_of tx6 (by omega) (by omega), ?_⟩
      obtain ⟨z1642, t1643⟩ := t_any (w.2.1 365 x6.toNatClampNeg)
      refine ⟨fun c1645 => ?_, fun c1645 => ?_⟩
      · replace c1645 := c_neq t1643 tx5 c1645
        unfold pX11_layClans_170
        obtain ⟨z1646, t1647, f1648⟩ := t_add tx6 lit_1
        first | replace f1648 := f1648 (by omega) | clear f1648
        intro x6_1v883 ex6_1v883
        have tx6_1v883 : Ti x6_1v883 z1646 := by rw [ex6_1v883]; exact t1647
        exact ih _ _ _ _ _ _ _ _ _ _ _ _ _ tx1 tx2 tx3 tx4 tx5 tx6_1v883 hI (by omega) (by omega) (by omega) (by omega) (by omega) (by omega) (by omega) (by omega) (by omega)
      · replace c1645 := c_eq t1643 tx5 c1645
        refine ⟨vp_of tx6 (by omega) (by omega), ?_⟩
        intro w_3v881 ew_3v881
        have hIw_3v881 := ims_A hI ew_3v881 (by decide)
        unfold pX11_layClans_170
        obtain ⟨z1649, t1650, f1651⟩ := t_add tx6 lit_1
        first | replace f1651 := f1651 (by omega) | clear f1651
        intro x6_1v884 ex6_1v884
        have tx6_1v884 : Ti x6_1v884 z1649 := by rw [ex6_1v884]; exact t1650
        exact ih _ _ _ _ _ _ _ _ _ _ _ _ _ tx1 tx2 tx3 tx4 tx5 tx6_1v884 hIw_3v881 (by omega) (by omega) (by omega) (by omega) (by omega) (by omega) (by omega) (by omega) (by omega)
set_option maxHeartbeats 4000000 in
set_option maxRecDepth 100000 in
theorem sX11_layClans_35 {T W H P S M : Int} {k25 : Int32 → Int32 → Wd → Prop} {M25 : Int} {post : Wd → Prop}  (hk25 : ∀ (x1 : Int32) (x2 : Int32) (zx1 : Int) (zx2 : Int) (w : Wd), Ti x1 zx1 → Ti x2 zx2 → IM T W H P S M w → (0 ≤ zx2 ∧ zx2 ≤ 7) → (8 - zx2) < M25 → k25 x1 x2 w) (hp : ∀ (w9 : Wd), IM T W H P S M w9 → post w9) : ∀ (n : Nat) (x1 : Int32) (x2 : Int32) (x3 : Int32) (zx1 : Int) (zx2 : Int) (zx3 : Int) (w : Wd), Ti x1 zx1 → Ti x2 zx2 → Ti x3 zx3 → IM T W H P S M w → (0 ≤ zx3 ∧ zx3 ≤ 7) → (zx2 ≤ 6) → (0 ≤ zx2 ∧ zx2 ≤ 7) → ((8 - zx2) ≤ M25) → (8 - zx3) < (n : Int) → pX11_layClans_35 k25  post  n x1 x2 x3 w := by
  intro n
  induction n with
  | zero =>
    intro x1 x2 x3 zx1 zx2 zx3 w tx1 tx2 tx3 hI h0 h1 h2 h3 hm
    exact absurd hm (by omega)
  | succ n ih =>
    intro x1 x2 x3 zx1 zx2 zx3 w tx1 tx2 tx3 hI h0 h1 h2 h3 hm
    unfold pX11_layClans_35
    have hk := im_k hI
    refine ⟨fun c1652 => ?_, fun c1652 => ?_⟩
    · replace c1652 := c_le tx2 tx3 c1652
      obtain ⟨z1653, t1654, f1655⟩ := t_add tx2 lit_1
      first | replace f1655 := f1655 (by omega) | clear f1655
      intro x2_2v885 ex2_2v885
      have tx2_2v885 : Ti x2_2v885 z1653 := by rw [ex2_2v885]; exact t1654
      exact hk25 _ _ _ _ _ tx1 tx2_2v885 hI (by omega) (by omega)
    · replace c1652 := c_nle tx2 tx3 c1652
      obtain ⟨z1656, t1657, f1658⟩ := t_mul lit_7 tx2
      first | replace f1658 := f1658 (by omega) | clear f1658
      obtain ⟨z1659, t1660, f1661⟩ := t_add t1657 tx3
      first | replace f1661 := f1661 (by omega) | clear f1661
      refine ⟨vp_of t1660 (by omega) (by omega), ?_⟩
      obtain ⟨z1662, t1663⟩ := t_any (w.2.1 363 (((7 : Int32) * x2) + x3).toNatClampNeg)
      refine ⟨fun c1665 => ?_, fun c1665 => ?_⟩
      · replace c1665 := c_le t1663 tx1 c1665
        unfold pX11_layClans_73
        refine ⟨vp_of tx2 (by omega) (by omega), ?_⟩
        refine ⟨vp_of tx3 (by omega) (by omega), ?_⟩
        obtain ⟨z1666, t1667⟩ := t_any (w.2.1 365 x3.toNatClampNeg)
        obtain ⟨z1669, t1670⟩ := t_any (w.2.1 365 x2.toNatClampNeg)
        refine ⟨fun c1672 => ?_, fun c1672 => ?_⟩
        · replace c1672 := c_le t1667 t1670 c1672
          refine ⟨vp_of tx3 (by omega) (by omega), ?_⟩
          unfold pX11_layClans_103
          refine ⟨vp_of tx2 (by omega) (by omega), ?_⟩
          refine ⟨vp_of tx3 (by omega) (by omega), ?_⟩
          refine ⟨fun c1673 => ?_, fun c1673 => ?_⟩
          · replace c1673 := c_le t1667 t1670 c1673
            refine ⟨vp_of tx2 (by omega) (by omega), ?_⟩
            unfold pX11_layClans_135
            exact ⟨70000, sX11_layClans_140  (M35 := (n : Int)) (hk35 := ih)  (hp := hp) 70000 _ _ _ _ _ _ _ _ _ _ _ _ _ tx1 tx2 tx3 t1667 t1670 lit_0 hI (by omega) (by omega) (by omega) (by omega) (by omega) (by omega) (by omega) (by omega) (by omega)⟩
          · replace c1673 := c_nle t1667 t1670 c1673
            refine ⟨vp_of tx3 (by omega) (by omega), ?_⟩
            unfold pX11_layClans_135
            exact ⟨70000, sX11_layClans_140  (M35 := (n : Int)) (hk35 := ih)  (hp := hp) 70000 _ _ _ _ _ _ _ _ _ _ _ _ _ tx1 tx2 tx3 t1667 t1667 lit_0 hI (by omega) (by omega) (by omega) (by omega) (by omega) (by omega) (by omega) (by omega) (by omega)⟩
        · replace c1672 := c_nle t1667 t1670 c1672
          refine ⟨vp_of tx2 (by omega) (by omega), ?_⟩
          unfold pX11_layClans_103
          refine ⟨vp_of tx2 (by omega) (by omega), ?_⟩
          refine ⟨vp_of tx3 (by omega) (by omega), ?_⟩
          refine ⟨fun c1674 => ?_, fun c1674 => ?_⟩
          · replace c1674 := c_le t1667 t1670 c1674
            refine ⟨vp_of tx2 (by omega) (by omega), ?_⟩
            unfold pX11_layClans_135
            exact ⟨70000, sX11_layClans_140  (M35 := (n : Int)) (hk35 := ih)  (hp := hp) 70000 _ _ _ _ _ _ _ _ _ _ _ _ _ tx1 tx2 tx3 t1670 t1670 lit_0 hI (by omega) (by omega) (by omega) (by omega) (by omega) (by omega) (by omega) (by omega) (by omega)⟩
          · replace c1674 := c_nle t1667 t1670 c1674
            refine ⟨vp_of tx3 (by omega) (by omega), ?_⟩
            unfold pX11_layClans_135
            exact ⟨70000, sX11_layClans_140  (M35 := (n : Int)) (hk35 := ih)  (hp := hp) 70000 _ _ _ _ _ _ _ _ _ _ _ _ _ tx1 tx2 tx3 t1670 t1667 lit_0 hI (by omega) (by omega) (by omega) (by omega) (by omega) (by omega) (by omega) (by omega) (by omega)⟩
      · replace c1665 := c_nle t1663 tx1 c1665
        obtain ⟨z1675, t1676, f1677⟩ := t_mul lit_7 tx3
        first | replace f1677 := f1677 (by omega) | clear f1677
        obtain ⟨z1678, t1679, f1680⟩ := t_add t1676 tx2
        first | replace f1680 := f1680 (by omega) | clear f1680
        refine ⟨vp_of t1679 (by omega) (by omega), ?_⟩
        obtain ⟨z1681, t1682⟩ := t_any (w.2.1 363 (((7 : Int32) * x3) + x2).toNatClampNeg)
        refine ⟨fun c1684 => ?_, fun c1684 => ?_⟩
        · replace c1684 := c_le t1682 tx1 c1684
          unfold pX11_layClans_73
          refine ⟨vp_of tx2 (by omega) (by omega), ?_⟩
          refine ⟨vp_of tx3 (by omega) (by omega), ?_⟩
          obtain ⟨z1685, t1686⟩ := t_any (w.2.1 365 x3.toNatClampNeg)
          obtain ⟨z1688, t1689⟩ := t_any (w.2.1 365 x2.toNatClampNeg)
          refine ⟨fun c1691 => ?_, fun c1691 => ?_⟩
          · replace c1691 := c_le t1686 t1689 c1691
            refine ⟨vp_of tx3 (by omega) (by omega), ?_⟩
            unfold pX11_layClans_103
            refine ⟨vp_of tx2 (by omega) (by omega), ?_⟩
            refine ⟨vp_of tx3 (by omega) (by omega), ?_⟩
            refine ⟨fun c1692 => ?_, fun c1692 => ?_⟩
            · replace c1692 := c_le t1686 t1689 c1692
              refine ⟨vp_of tx2 (by omega) (by omega), ?_⟩
              unfold pX11_layClans_135
              exact ⟨70000, sX11_layClans_140  (M35 := (n : Int)) (hk35 := ih)  (hp := hp) 70000 _ _ _ _ _ _ _ _ _ _ _ _ _ tx1 tx2 tx3 t1686 t1689 lit_0 hI (by omega) (by omega) (by omega) (by omega) (by omega) (by omega) (by omega) (by omega) (by omega)⟩
            · replace c1692 := c_nle t1686 t1689 c1692
              refine ⟨vp_of tx3 (by omega) (by omega), ?_⟩
              unfold pX11_layClans_135
              exact ⟨70000, sX11_layClans_140  (M35 := (n : Int)) (hk35 := ih)  (hp := hp) 70000 _ _ _ _ _ _ _ _ _ _ _ _ _ tx1 tx2 tx3 t1686 t1686 lit_0 hI (by omega) (by omega) (by omega) (by omega) (by omega) (by omega) (by omega) (by omega) (by omega)⟩
          · replace c1691 := c_nle t1686 t1689 c1691
            refine ⟨vp_of tx2 (by omega) (by omega), ?_⟩
            unfold pX11_layClans_103
            refine ⟨vp_of tx2 (by omega) (by omega), ?_⟩
            refine ⟨vp_of tx3 (by omega) (by omega), ?_⟩
            refine ⟨fun c1693 => ?_, fun c1693 => ?_⟩
            · replace c1693 := c_le t1686 t1689 c1693
              refine ⟨vp_of tx2 (by omega) (by omega), ?_⟩
              unfold pX11_layClans_135
              exact ⟨70000, sX11_layClans_140  (M35 := (n : Int)) (hk35 := ih)  (hp := hp) 70000 _ _ _ _ _ _ _ _ _ _ _ _ _ tx1 tx2 tx3 t1689 t1689 lit_0 hI (by omega) (by omega) (by omega) (by omega) (by omega) (by omega) (by omega) (by omega) (by omega)⟩
            · replace c1693 := c_nle t1686 t1689 c1693
              refine ⟨vp_of tx3 (by omega) (by omega), ?_⟩
              unfold pX11_layClans_135
              exact ⟨70000, sX11_layClans_140  (M35 := (n : Int)) (hk35 := ih)  (hp := hp) 70000 _ _ _ _ _ _ _ _ _ _ _ _ _ tx1 tx2 tx3 t1689 t1686 lit_0 hI (by omega) (by omega) (by omega) (by omega) (by omega) (by omega) (by omega) (by omega) (by omega)⟩
        · replace c1684 := c_nle t1682 tx1 c1684
          unfold pX11_layClans_176
          obtain ⟨z1694, t1695, f1696⟩ := t_add tx3 lit_1
          first | replace f1696 := f1696 (by omega) | clear f1696
          intro x3_1v886 ex3_1v886
          have tx3_1v886 : Ti x3_1v886 z1694 := by rw [ex3_1v886]; exact t1695
          exact ih _ _ _ _ _ _ _ tx1 tx2 tx3_1v886 hI (by omega) (by omega) (by omega) (by omega) (by omega)
set_option maxHeartbeats 4000000 in
set_option maxRecDepth 100000 in
theorem sX11_layClans_25 {T W H P S M : Int} {post : Wd → Prop}   (hp : ∀ (w9 : Wd), IM T W H P S M w9 → post w9) : ∀ (n : Nat) (x1 : Int32) (x2 : Int32) (zx1 : Int) (zx2 : Int) (w : Wd), Ti x1 zx1 → Ti x2 zx2 → IM T W H P S M w → (0 ≤ zx2 ∧ zx2 ≤ 7) → (8 - zx2) < (n : Int) → pX11_layClans_25   post  n x1 x2 w := by
  intro n
  induction n with
  | zero =>
    intro x1 x2 zx1 zx2 w tx1 tx2 hI h0 hm
    exact absurd hm (by omega)
  | succ n ih =>
    intro x1 x2 zx1 zx2 w tx1 tx2 hI h0 hm
    unfold pX11_layClans_25
    have hk := im_k hI
    obtain ⟨z1697, t1698⟩ := t_any (w.1 300 63)
    have f1699 := img_63 hI t1698
    refine ⟨fun c1700 => ?_, fun c1700 => ?_⟩
    · replace c1700 := c_le t1698 tx2 c1700
      exact hp  _   hI 
    · replace c1700 := c_nle t1698 tx2 c1700
      exact ⟨70000, sX11_layClans_35  (M25 := (n : Int)) (hk25 := ih)  (hp := hp) 70000 _ _ _ _ _ _ _ tx1 tx2 lit_0 hI (by omega) (by omega) (by omega) (by omega) (by omega)⟩
set_option maxHeartbeats 4000000 in
set_option maxRecDepth 100000 in
theorem sX11_layClans_2 {T W H P S M : Int} {post : Wd → Prop}   (hp : ∀ (w9 : Wd), IM T W H P S M w9 → post w9) : ∀ (n : Nat) (x1 : Int32) (x2 : Int32) (zx1 : Int) (zx2 : Int) (w : Wd), Ti x1 zx1 → Ti x2 zx2 → IM T W H P S M w → (0 ≤ zx2 ∧ zx2 ≤ 7) → (8 - zx2) < (n : Int) → pX11_layClans_2   post  n x1 x2 w := by
  intro n
  induction n with
  | zero =>
    intro x1 x2 zx1 zx2 w tx1 tx2 hI h0 hm
    exact absurd hm (by omega)
  | succ n ih =>
    intro x1 x2 zx1 zx2 w tx1 tx2 hI h0 hm
    unfold pX11_layClans_2
    have hk := im_k hI
    obtain ⟨z1701, t1702⟩ := t_any (w.1 300 63)
    have f1703 := img_63 hI t1702
    refine ⟨fun c1704 => ?_, fun c1704 => ?_⟩
    · replace c1704 := c_le t1702 tx2 c1704
      exact ⟨70000, sX11_layClans_25    (hp := hp) 70000 _ _ _ _ _ tx1 lit_0 hI (by omega) (by omega)⟩
    · replace c1704 := c_nle t1702 tx2 c1704
      refine ⟨vp_of tx2 (by omega) (by omega), ?_⟩
      intro w_2v887 ew_2v887
      have hIw_2v887 := ims_A hI ew_2v887 (by decide)
      obtain ⟨z1705, t1706, f1707⟩ := t_add tx2 lit_1
      first | replace f1707 := f1707 (by omega) | clear f1707
      intro x2_3v888 ex2_3v888
      have tx2_3v888 : Ti x2_3v888 z1705 := by rw [ex2_3v888]; exact t1706
      exact ih _ _ _ _ _ tx1 tx2_3v888 hIw_2v887 (by omega) (by omega)
set_option maxHeartbeats 4000000 in
set_option maxRecDepth 100000 in
theorem sX11_layClans {T W H P S M : Int} {post : Wd → Prop} {x1 : Int32} {zx1 : Int} {w : Wd}  (tx1 : Ti x1 zx1) (hI : IM T W H P S M w)  (hp : ∀ (w9 : Wd), IM T W H P S M w9 → post w9) : pX11_layClans   post  x1 w := by
  unfold pX11_layClans
  have hk := im_k hI
  exact ⟨70000, sX11_layClans_2    (hp := hp) 70000 _ _ _ _ _ tx1 lit_0 hI (by omega) (by omega)⟩
set_option maxHeartbeats 4000000 in
set_option maxRecDepth 100000 in
theorem sX11_clans_55 {T W H P S M : Int} {k40 : Int32 → Int32 → Int32 → Int32 → Wd → Prop} {M40 : Int} {post : Int32 → Wd → Prop}  (hk40 : ∀ (x2 : Int32) (x4 : Int32) (x5 : Int32) (x6 : Int32) (zx2 : Int) (zx4 : Int) (zx5 : Int) (zx6 : Int) (w : Wd), Ti x2 zx2 → Ti x4 zx4 → Ti x5 zx5 → Ti x6 zx6 → IM T W H P S M w → (0 ≤ zx6 ∧ zx6 ≤ 7) → (8 - zx6) < M40 → k40 x2 x4 x5 x6 w) (hp : ∀ (r : Int32) (zr : Int) (w9 : Wd) (M9 : Int), Ti r zr → IM T W H P S M9 w9 → post r w9) : ∀ (n : Nat) (x2 : Int32) (x4 : Int32) (x5 : Int32) (x6 : Int32) (x7 : Int32) (x8 : Int32) (zx2 : Int) (zx4 : Int) (zx5 : Int) (zx6 : Int) (zx7 : Int) (zx8 : Int) (w : Wd), Ti x2 zx2 → Ti x4 zx4 → Ti x5 zx5 → Ti x6 zx6 → Ti x7 zx7 → Ti x8 zx8 → IM T W H P S M w → (0 ≤ zx8 ∧ zx8 ≤ 7) → (zx6 ≤ 6) → (0 ≤ zx6 ∧ zx6 ≤ 7) → ((8 - zx6) ≤ M40) → (8 - zx8) < (n : Int) → pX11_clans_55 k40  post  n x2 x4 x5 x6 x7 x8 w := by
  intro n
  induction n with
  | zero =>
    intro x2 x4 x5 x6 x7 x8 zx2 zx4 zx5 zx6 zx7 zx8 w tx2 tx4 tx5 tx6 tx7 tx8 hI h0 h1 h2 h3 hm
    exact absurd hm (by omega)
  | succ n ih =>
    intro x2 x4 x5 x6 x7 x8 zx2 zx4 zx5 zx6 zx7 zx8 w tx2 tx4 tx5 tx6 tx7 tx8 hI h0 h1 h2 h3 hm
    unfold pX11_clans_55
    have hk := im_k hI
    obtain ⟨z1708, t1709⟩ := t_any (w.1 300 63)
    have f1710 := img_63 hI t1709
    refine ⟨fun c1711 => ?_, fun c1711 => ?_⟩
    · replace c1711 := c_le t1709 tx8 c1711
      refine ⟨fun c1712 => ?_, fun c1712 => ?_⟩
      · replace c1712 := c_le tx7 lit_0 c1712
        unfold pX11_clans_104
        obtain ⟨z1713, t1714, f1715⟩ := t_add tx4 lit_0
        first | replace f1715 := f1715 (by omega) | clear f1715
        intro x4_1v889 ex4_1v889
        have tx4_1v889 : Ti x4_1v889 z1713 := by rw [ex4_1v889]; exact t1714
        refine ⟨fun c1716 => ?_, fun c1716 => ?_⟩
        · replace c1716 := c_le tx7 tx5 c1716
          unfold pX11_clans_118
          obtain ⟨z1717, t1718, f1719⟩ := t_add tx6 lit_1
          first | replace f1719 := f1719 (by omega) | clear f1719
          intro x6_1v890 ex6_1v890
          have tx6_1v890 : Ti x6_1v890 z1717 := by rw [ex6_1v890]; exact t1718
          exact hk40 _ _ _ _ _ _ _ _ _ tx2 tx4_1v889 tx5 tx6_1v890 hI (by omega) (by omega)
        · replace c1716 := c_nle tx7 tx5 c1716
          unfold pX11_clans_118
          obtain ⟨z1720, t1721, f1722⟩ := t_add tx6 lit_1
          first | replace f1722 := f1722 (by omega) | clear f1722
          intro x6_1v891 ex6_1v891
          have tx6_1v891 : Ti x6_1v891 z1720 := by rw [ex6_1v891]; exact t1721
          exact hk40 _ _ _ _ _ _ _ _ _ tx2 tx4_1v889 tx7 tx6_1v891 hI (by omega) (by omega)
      · replace c1712 := c_nle tx7 lit_0 c1712
        unfold pX11_clans_104
        obtain ⟨z1723, t1724, f1725⟩ := t_add tx4 lit_1
        first | replace f1725 := f1725 (by omega) | clear f1725
        intro x4_1v892 ex4_1v892
        have tx4_1v892 : Ti x4_1v892 z1723 := by rw [ex4_1v892]; exact t1724
        refine ⟨fun c1726 => ?_, fun c1726 => ?_⟩
        · replace c1726 := c_le tx7 tx5 c1726
          unfold pX11_clans_118
          obtain ⟨z1727, t1728, f1729⟩ := t_add tx6 lit_1
          first | replace f1729 := f1729 (by omega) | clear f1729
          intro x6_1v893 ex6_1v893
          have tx6_1v893 : Ti x6_1v893 z1727 := by rw [ex6_1v893]; exact t1728
          exact hk40 _ _ _ _ _ _ _ _ _ tx2 tx4_1v892 tx5 tx6_1v893 hI (by omega) (by omega)
        · replace c1726 := c_nle tx7 tx5 c1726
          unfold pX11_clans_118
          obtain ⟨z1730, t1731, f1732⟩ := t_add tx6 lit_1
          first | replace f1732 := f1732 (by omega) | clear f1732
          intro x6_1v894 ex6_1v894
          have tx6_1v894 : Ti x6_1v894 z1730 := by rw [ex6_1v894]; exact t1731
          exact hk40 _ _ _ _ _ _ _ _ _ tx2 tx4_1v892 tx7 tx6_1v894 hI (by omega) (by omega)
    · replace c1711 := c_nle t1709 tx8 c1711
      refine ⟨vp_of tx8 (by omega) (by omega), ?_⟩
      obtain ⟨z1733, t1734⟩ := t_any (w.2.1 365 x8.toNatClampNeg)
      refine ⟨fun c1736 => ?_, fun c1736 => ?_⟩
      · replace c1736 := c_neq t1734 tx6 c1736
        unfold pX11_clans_83
        obtain ⟨z1737, t1738, f1739⟩ := t_add tx7 lit_0
        first | replace f1739 := f1739 (by omega) | clear f1739
        intro x7_1v895 ex7_1v895
        have tx7_1v895 : Ti x7_1v895 z1737 := by rw [ex7_1v895]; exact t1738
        obtain ⟨z1740, t1741, f1742⟩ := t_add tx8 lit_1
        first | replace f1742 := f1742 (by omega) | clear f1742
        intro x8_2v896 ex8_2v896
        have tx8_2v896 : Ti x8_2v896 z1740 := by rw [ex8_2v896]; exact t1741
        exact ih _ _ _ _ _ _ _ _ _ _ _ _ _ tx2 tx4 tx5 tx6 tx7_1v895 tx8_2v896 hI (by omega) (by omega) (by omega) (by omega) (by omega)
      · replace c1736 := c_eq t1734 tx6 c1736
        unfold pX11_clans_83
        obtain ⟨z1743, t1744, f1745⟩ := t_add tx7 lit_1
        first | replace f1745 := f1745 (by omega) | clear f1745
        intro x7_1v897 ex7_1v897
        have tx7_1v897 : Ti x7_1v897 z1743 := by rw [ex7_1v897]; exact t1744
        obtain ⟨z1746, t1747, f1748⟩ := t_add tx8 lit_1
        first | replace f1748 := f1748 (by omega) | clear f1748
        intro x8_2v898 ex8_2v898
        have tx8_2v898 : Ti x8_2v898 z1746 := by rw [ex8_2v898]; exact t1747
        exact ih _ _ _ _ _ _ _ _ _ _ _ _ _ tx2 tx4 tx5 tx6 tx7_1v897 tx8_2v898 hI (by omega) (by omega) (by omega) (by omega) (by omega)
set_option maxHeartbeats 4000000 in
set_option maxRecDepth 100000 in
theorem sX11_clans_40 {T W H P S M : Int} {post : Int32 → Wd → Prop}   (hp : ∀ (r : Int32) (zr : Int) (w9 : Wd) (M9 : Int), Ti r zr → IM T W H P S M9 w9 → post r w9) : ∀ (n : Nat) (x2 : Int32) (x4 : Int32) (x5 : Int32) (x6 : Int32) (zx2 : Int) (zx4 : Int) (zx5 : Int) (zx6 : Int) (w : Wd), Ti x2 zx2 → Ti x4 zx4 → Ti x5 zx5 → Ti x6 zx6 → IM T W H P S M w → (0 ≤ zx6 ∧ zx6 ≤ 7) → (8 - zx6) < (n : Int) → pX11_clans_40   post  n x2 x4 x5 x6 w := by
  intro n
  induction n with
  | zero =>
    intro x2 x4 x5 x6 zx2 zx4 zx5 zx6 w tx2 tx4 tx5 tx6 hI h0 hm
    exact absurd hm (by omega)
  | succ n ih =>
    intro x2 x4 x5 x6 zx2 zx4 zx5 zx6 w tx2 tx4 tx5 tx6 hI h0 hm
    unfold pX11_clans_40
    have hk := im_k hI
    obtain ⟨z1749, t1750⟩ := t_any (w.1 300 63)
    have f1751 := img_63 hI t1750
    refine ⟨fun c1752 => ?_, fun c1752 => ?_⟩
    · replace c1752 := c_le t1750 tx6 c1752
      refine ⟨fun c1753 => ?_, fun c1753 => ?_⟩
      · replace c1753 := c_neq tx2 lit_0 c1753
        exact hp _ _ _ _ tx5 hI 
      · replace c1753 := c_eq tx2 lit_0 c1753
        exact hp _ _ _ _ tx4 hI 
    · replace c1752 := c_nle t1750 tx6 c1752
      exact ⟨70000, sX11_clans_55  (M40 := (n : Int)) (hk40 := ih)  (hp := hp) 70000 _ _ _ _ _ _ _ _ _ _ _ _ _ tx2 tx4 tx5 tx6 lit_0 lit_0 hI (by omega) (by omega) (by omega) (by omega) (by omega)⟩
set_option maxHeartbeats 4000000 in
set_option maxRecDepth 100000 in
theorem sX11_clans {T W H P S M : Int} {post : Int32 → Wd → Prop} {x1 : Int32} {zx1 : Int} {x2 : Int32} {zx2 : Int} {x3 : Int32} {zx3 : Int} {w : Wd}  (tx1 : Ti x1 zx1) (tx2 : Ti x2 zx2) (tx3 : Ti x3 zx3) (hI : IM T W H P S M w)  (hp : ∀ (r : Int32) (zr : Int) (w9 : Wd) (M9 : Int), Ti r zr → IM T W H P S M9 w9 → post r w9) : pX11_clans   post  x1 x2 x3 w := by
  unfold pX11_clans
  have hk := im_k hI
  refine sX11_isIn   (hI := hI) (tx0 := tx1) (tx1 := lit_0) (tx2 := lit_24)  (hp := fun r_1v899 zr_1v899 tr_1v899 p1754 p1755 => ?_)
  refine ⟨fun c1756 => ?_, fun c1756 => ?_⟩
  · replace c1756 := c_eq tr_1v899 lit_0 c1756
    exact hp _ _ _ _ lit_m1 hI 
  · replace c1756 := c_neq tr_1v899 lit_0 c1756
    refine sX11_isIn   (hI := hI) (tx0 := tx2) (tx1 := lit_0) (tx2 := lit_1)  (hp := fun r_4v905 zr_4v905 tr_4v905 p1757 p1758 => ?_)
    refine ⟨fun c1759 => ?_, fun c1759 => ?_⟩
    · replace c1759 := c_neq tr_4v905 lit_0 c1759
      refine sX11_laySamples   (hI := hI) (tx1 := tx3)  (hp := fun  w_7v909 g1760  hIw_7v909  => ?_)
      have f1761 := im_k hIw_7v909
      refine sX11_layClans   (hI := hIw_7v909) (tx1 := tx1)  (hp := fun  w_8v910   hIw_8v910  => ?_)
      exact ⟨70000, sX11_clans_40    (hp := hp) 70000 _ _ _ _ _ _ _ _ _ tx2 lit_0 lit_0 lit_0 hIw_8v910 (by omega) (by omega)⟩
    · replace c1759 := c_eq tr_4v905 lit_0 c1759
      exact hp _ _ _ _ lit_m1 hI 
set_option maxHeartbeats 4000000 in
set_option maxRecDepth 100000 in
theorem sX11_origin_37 {T W H P S M : Int} {k19 : Int32 → Int32 → Int32 → Int32 → Int32 → Wd → Prop} {M19 : Int} {post : Int32 → Wd → Prop} {w : Wd} (hk19 : ∀ (x1 : Int32) (x2 : Int32) (x3 : Int32) (x4 : Int32) (x5 : Int32) (zx1 : Int) (zx2 : Int) (zx3 : Int) (zx4 : Int) (zx5 : Int), Ti x1 zx1 → Ti x2 zx2 → Ti x3 zx3 → Ti x4 zx4 → Ti x5 zx5 → IM T W H P S M w → (0 ≤ zx5 ∧ zx5 ≤ 12) → (13 - zx5) < M19 → k19 x1 x2 x3 x4 x5 w) (hp : ∀ (r : Int32) (zr : Int), Ti r zr → post r w) : ∀ (n : Nat) (x1 : Int32) (x2 : Int32) (x3 : Int32) (x4 : Int32) (x5 : Int32) (x6 : Int32) (x7 : Int32) (x8 : Int32) (zx1 : Int) (zx2 : Int) (zx3 : Int) (zx4 : Int) (zx5 : Int) (zx6 : Int) (zx7 : Int) (zx8 : Int), Ti x1 zx1 → Ti x2 zx2 → Ti x3 zx3 → Ti x4 zx4 → Ti x5 zx5 → Ti x6 zx6 → Ti x7 zx7 → Ti x8 zx8 → IM T W H P S M w → (0 ≤ zx8 ∧ zx8 ≤ 40) → (zx5 < W) → (0 ≤ zx5 ∧ zx5 ≤ 12) → ((13 - zx5) ≤ M19) → (41 - zx8) < (n : Int) → pX11_origin_37 k19  post  n x1 x2 x3 x4 x5 x6 x7 x8 w := by
  intro n
  induction n with
  | zero =>
    intro x1 x2 x3 x4 x5 x6 x7 x8 zx1 zx2 zx3 zx4 zx5 zx6 zx7 zx8  tx1 tx2 tx3 tx4 tx5 tx6 tx7 tx8 hI h0 h1 h2 h3 hm
    exact absurd hm (by omega)
  | succ n ih =>
    intro x1 x2 x3 x4 x5 x6 x7 x8 zx1 zx2 zx3 zx4 zx5 zx6 zx7 zx8  tx1 tx2 tx3 tx4 tx5 tx6 tx7 tx8 hI h0 h1 h2 h3 hm
    unfold pX11_origin_37
    have hk := im_k hI
    obtain ⟨z1762, t1763⟩ := t_any (w.1 300 58)
    have f1764 := img_58 hI t1763
    refine ⟨fun c1765 => ?_, fun c1765 => ?_⟩
    · replace c1765 := c_le t1763 tx8 c1765
      obtain ⟨z1766, t1767, f1768⟩ := t_mul lit_2 tx6
      first | replace f1768 := f1768 (by omega) | clear f1768
      refine ⟨fun c1769 => ?_, fun c1769 => ?_⟩
      · replace c1769 := c_le t1767 tx7 c1769
        unfold pX11_origin_136
        refine ⟨fun c1770 => ?_, fun c1770 => ?_⟩
        · replace c1770 := c_le t1767 tx7 c1770
          unfold pX11_origin_156
          obtain ⟨z1771, t1772, f1773⟩ := t_add tx4 t1767
          first | replace f1773 := f1773 (by omega) | clear f1773
          intro x4_1v916 ex4_1v916
          have tx4_1v916 : Ti x4_1v916 z1771 := by rw [ex4_1v916]; exact t1772
          obtain ⟨z1774, t1775, f1776⟩ := t_add tx5 lit_1
          first | replace f1776 := f1776 (by omega) | clear f1776
          intro x5_2v917 ex5_2v917
          have tx5_2v917 : Ti x5_2v917 z1774 := by rw [ex5_2v917]; exact t1775
          exact hk19 _ _ _ _ _ _ _ _ _ _  tx1 tx2 tx3 tx4_1v916 tx5_2v917 hI (by omega) (by omega)
        · replace c1770 := c_nle t1767 tx7 c1770
          unfold pX11_origin_156
          obtain ⟨z1777, t1778, f1779⟩ := t_add tx4 tx7
          first | replace f1779 := f1779 (by omega) | clear f1779
          intro x4_1v918 ex4_1v918
          have tx4_1v918 : Ti x4_1v918 z1777 := by rw [ex4_1v918]; exact t1778
          obtain ⟨z1780, t1781, f1782⟩ := t_add tx5 lit_1
          first | replace f1782 := f1782 (by omega) | clear f1782
          intro x5_2v919 ex5_2v919
          have tx5_2v919 : Ti x5_2v919 z1780 := by rw [ex5_2v919]; exact t1781
          exact hk19 _ _ _ _ _ _ _ _ _ _  tx1 tx2 tx3 tx4_1v918 tx5_2v919 hI (by omega) (by omega)
      · replace c1769 := c_nle t1767 tx7 c1769
        obtain ⟨z1783, t1784, f1785⟩ := t_shlW hI tx5
        first | replace f1785 := f1785 (by omega) | clear f1785
        obtain ⟨z1786, t1787, f1788⟩ := t_orW hI tx3 t1784
        first | replace f1788 := f1788 (by omega) | clear f1788
        intro x3_3v911 ex3_3v911
        have tx3_3v911 : Ti x3_3v911 z1786 := by rw [ex3_3v911]; exact t1787
        unfold pX11_origin_136
        refine ⟨fun c1789 => ?_, fun c1789 => ?_⟩
        · replace c1789 := c_le t1767 tx7 c1789
          unfold pX11_origin_156
          obtain ⟨z1790, t1791, f1792⟩ := t_add tx4 t1767
          first | replace f1792 := f1792 (by omega) | clear f1792
          intro x4_1v920 ex4_1v920
          have tx4_1v920 : Ti x4_1v920 z1790 := by rw [ex4_1v920]; exact t1791
          obtain ⟨z1793, t1794, f1795⟩ := t_add tx5 lit_1
          first | replace f1795 := f1795 (by omega) | clear f1795
          intro x5_2v921 ex5_2v921
          have tx5_2v921 : Ti x5_2v921 z1793 := by rw [ex5_2v921]; exact t1794
          exact hk19 _ _ _ _ _ _ _ _ _ _  tx1 tx2 tx3_3v911 tx4_1v920 tx5_2v921 hI (by omega) (by omega)
        · replace c1789 := c_nle t1767 tx7 c1789
          unfold pX11_origin_156
          obtain ⟨z1796, t1797, f1798⟩ := t_add tx4 tx7
          first | replace f1798 := f1798 (by omega) | clear f1798
          intro x4_1v922 ex4_1v922
          have tx4_1v922 : Ti x4_1v922 z1796 := by rw [ex4_1v922]; exact t1797
          obtain ⟨z1799, t1800, f1801⟩ := t_add tx5 lit_1
          first | replace f1801 := f1801 (by omega) | clear f1801
          intro x5_2v923 ex5_2v923
          have tx5_2v923 : Ti x5_2v923 z1799 := by rw [ex5_2v923]; exact t1800
          exact hk19 _ _ _ _ _ _ _ _ _ _  tx1 tx2 tx3_3v911 tx4_1v922 tx5_2v923 hI (by omega) (by omega)
    · replace c1765 := c_nle t1763 tx8 c1765
      refine sX11_counts   (hI := hI) (tx1 := tx8) (tx2 := lit_0) (tx3 := tx2) (h0 := (by omega)) (hp := fun r_4v912 zr_4v912 tr_4v912 p1802 => ?_)
      refine ⟨fun c1803 => ?_, fun c1803 => ?_⟩
      · replace c1803 := c_neq tr_4v912 lit_0 c1803
        refine ⟨vp_of tx8 (by omega) (by omega), ?_⟩
        obtain ⟨z1804, t1805⟩ := t_any (w.2.1 355 x8.toNatClampNeg)
        refine ⟨fun c1807 => ?_, fun c1807 => ?_⟩
        · replace c1807 := c_neq t1805 lit_1 c1807
          refine ⟨vp_of tx8 (by omega) (by omega), ?_⟩
          unfold pX11_origin_92
          obtain ⟨z1808, t1809, f1810⟩ := t_and (x := ((w.2.1 354 x8.toNatClampNeg) >>> (x5 &&& 31))) lit_1 (by decide)
          refine ⟨fun c1811 => ?_, fun c1811 => ?_⟩
          · replace c1811 := c_neq t1809 lit_1 c1811
            obtain ⟨z1812, t1813, f1814⟩ := t_add tx7 lit_1
            first | replace f1814 := f1814 (by omega) | clear f1814
            intro x7_2v926 ex7_2v926
            have tx7_2v926 : Ti x7_2v926 z1812 := by rw [ex7_2v926]; exact t1813
            unfold pX11_origin_114
            obtain ⟨z1815, t1816, f1817⟩ := t_add tx8 lit_1
            first | replace f1817 := f1817 (by omega) | clear f1817
            intro x8_1v928 ex8_1v928
            have tx8_1v928 : Ti x8_1v928 z1815 := by rw [ex8_1v928]; exact t1816
            exact ih _ _ _ _ _ _ _ _ _ _ _ _ _ _ _ _  tx1 tx2 tx3 tx4 tx5 tx6 tx7_2v926 tx8_1v928 hI (by omega) (by omega) (by omega) (by omega) (by omega)
          · replace c1811 := c_eq t1809 lit_1 c1811
            obtain ⟨z1818, t1819, f1820⟩ := t_add tx6 lit_1
            first | replace f1820 := f1820 (by omega) | clear f1820
            intro x6_3v927 ex6_3v927
            have tx6_3v927 : Ti x6_3v927 z1818 := by rw [ex6_3v927]; exact t1819
            unfold pX11_origin_114
            obtain ⟨z1821, t1822, f1823⟩ := t_add tx8 lit_1
            first | replace f1823 := f1823 (by omega) | clear f1823
            intro x8_1v929 ex8_1v929
            have tx8_1v929 : Ti x8_1v929 z1821 := by rw [ex8_1v929]; exact t1822
            exact ih _ _ _ _ _ _ _ _ _ _ _ _ _ _ _ _  tx1 tx2 tx3 tx4 tx5 tx6_3v927 tx7 tx8_1v929 hI (by omega) (by omega) (by omega) (by omega) (by omega)
        · replace c1807 := c_eq t1805 lit_1 c1807
          refine ⟨vp_of tx8 (by omega) (by omega), ?_⟩
          obtain ⟨z1824, t1825⟩ := t_any (w.2.1 354 x8.toNatClampNeg)
          refine sX11_turnedRow   (hI := hI) (tx1 := t1825)  (hp := fun r_8v924 zr_8v924 tr_8v924 => ?_)
          unfold pX11_origin_92
          obtain ⟨z1827, t1828, f1829⟩ := t_and (x := (r_8v924 >>> (x5 &&& 31))) lit_1 (by decide)
          refine ⟨fun c1830 => ?_, fun c1830 => ?_⟩
          · replace c1830 := c_neq t1828 lit_1 c1830
            obtain ⟨z1831, t1832, f1833⟩ := t_add tx7 lit_1
            first | replace f1833 := f1833 (by omega) | clear f1833
            intro x7_2v930 ex7_2v930
            have tx7_2v930 : Ti x7_2v930 z1831 := by rw [ex7_2v930]; exact t1832
            unfold pX11_origin_114
            obtain ⟨z1834, t1835, f1836⟩ := t_add tx8 lit_1
            first | replace f1836 := f1836 (by omega) | clear f1836
            intro x8_1v932 ex8_1v932
            have tx8_1v932 : Ti x8_1v932 z1834 := by rw [ex8_1v932]; exact t1835
            exact ih _ _ _ _ _ _ _ _ _ _ _ _ _ _ _ _  tx1 tx2 tx3 tx4 tx5 tx6 tx7_2v930 tx8_1v932 hI (by omega) (by omega) (by omega) (by omega) (by omega)
          · replace c1830 := c_eq t1828 lit_1 c1830
            obtain ⟨z1837, t1838, f1839⟩ := t_add tx6 lit_1
            first | replace f1839 := f1839 (by omega) | clear f1839
            intro x6_3v931 ex6_3v931
            have tx6_3v931 : Ti x6_3v931 z1837 := by rw [ex6_3v931]; exact t1838
            unfold pX11_origin_114
            obtain ⟨z1840, t1841, f1842⟩ := t_add tx8 lit_1
            first | replace f1842 := f1842 (by omega) | clear f1842
            intro x8_1v933 ex8_1v933
            have tx8_1v933 : Ti x8_1v933 z1840 := by rw [ex8_1v933]; exact t1841
            exact ih _ _ _ _ _ _ _ _ _ _ _ _ _ _ _ _  tx1 tx2 tx3 tx4 tx5 tx6_3v931 tx7 tx8_1v933 hI (by omega) (by omega) (by omega) (by omega) (by omega)
      · replace c1803 := c_eq tr_4v912 lit_0 c1803
        unfold pX11_origin_114
        obtain ⟨z1843, t1844, f1845⟩ := t_add tx8 lit_1
        first | replace f1845 := f1845 (by omega) | clear f1845
        intro x8_1v934 ex8_1v934
        have tx8_1v934 : Ti x8_1v934 z1843 := by rw [ex8_1v934]; exact t1844
        exact ih _ _ _ _ _ _ _ _ _ _ _ _ _ _ _ _  tx1 tx2 tx3 tx4 tx5 tx6 tx7 tx8_1v934 hI (by omega) (by omega) (by omega) (by omega) (by omega)
set_option maxHeartbeats 4000000 in
set_option maxRecDepth 100000 in
theorem sX11_origin_19 {T W H P S M : Int} {post : Int32 → Wd → Prop} {w : Wd}  (hp : ∀ (r : Int32) (zr : Int), Ti r zr → post r w) : ∀ (n : Nat) (x1 : Int32) (x2 : Int32) (x3 : Int32) (x4 : Int32) (x5 : Int32) (zx1 : Int) (zx2 : Int) (zx3 : Int) (zx4 : Int) (zx5 : Int), Ti x1 zx1 → Ti x2 zx2 → Ti x3 zx3 → Ti x4 zx4 → Ti x5 zx5 → IM T W H P S M w → (0 ≤ zx5 ∧ zx5 ≤ 12) → (13 - zx5) < (n : Int) → pX11_origin_19   post  n x1 x2 x3 x4 x5 w := by
  intro n
  induction n with
  | zero =>
    intro x1 x2 x3 x4 x5 zx1 zx2 zx3 zx4 zx5  tx1 tx2 tx3 tx4 tx5 hI h0 hm
    exact absurd hm (by omega)
  | succ n ih =>
    intro x1 x2 x3 x4 x5 zx1 zx2 zx3 zx4 zx5  tx1 tx2 tx3 tx4 tx5 hI h0 hm
    unfold pX11_origin_19
    have hk := im_k hI
    refine sX11_width   (hI := hI)   (hp := fun r_1v935 zr_1v935 tr_1v935 p1846 => ?_)
    refine ⟨fun c1847 => ?_, fun c1847 => ?_⟩
    · replace c1847 := c_le tr_1v935 tx5 c1847
      refine ⟨fun c1848 => ?_, fun c1848 => ?_⟩
      · replace c1848 := c_neq tx1 lit_0 c1848
        exact hp _ _ tx4 
      · replace c1848 := c_eq tx1 lit_0 c1848
        exact hp _ _ tx3 
    · replace c1847 := c_nle tr_1v935 tx5 c1847
      exact ⟨70000, sX11_origin_37  (M19 := (n : Int)) (hk19 := ih)  (hp := hp) 70000 _ _ _ _ _ _ _ _ _ _ _ _ _ _ _ _  tx1 tx2 tx3 tx4 tx5 lit_0 lit_0 lit_0 hI (by omega) (by omega) (by omega) (by omega) (by omega)⟩
set_option maxHeartbeats 4000000 in
set_option maxRecDepth 100000 in
theorem sX11_origin {T W H P S M : Int} {post : Int32 → Wd → Prop} {x1 : Int32} {zx1 : Int} {x2 : Int32} {zx2 : Int} {w : Wd}  (tx1 : Ti x1 zx1) (tx2 : Ti x2 zx2) (hI : IM T W H P S M w)  (hp : ∀ (r : Int32) (zr : Int), Ti r zr → post r w) : pX11_origin   post  x1 x2 w := by
  unfold pX11_origin
  have hk := im_k hI
  refine sX11_isIn   (hI := hI) (tx0 := tx1) (tx1 := lit_0) (tx2 := lit_1)  (hp := fun r_1v937 zr_1v937 tr_1v937 p1849 p1850 => ?_)
  refine ⟨fun c1851 => ?_, fun c1851 => ?_⟩
  · replace c1851 := c_neq tr_1v937 lit_0 c1851
    exact ⟨70000, sX11_origin_19    (hp := hp) 70000 _ _ _ _ _ _ _ _ _ _  tx1 tx2 lit_0 lit_0 lit_0 hI (by omega) (by omega)⟩
  · replace c1851 := c_eq tr_1v937 lit_0 c1851
    exact hp _ _ lit_m1 
set_option maxHeartbeats 4000000 in
set_option maxRecDepth 100000 in
theorem sX11_isFalse {T W H P S M : Int} {post : Int32 → Wd → Prop} {x1 : Int32} {zx1 : Int} {w : Wd}  (tx1 : Ti x1 zx1) (hI : IM T W H P S M w) (h0 : 0 ≤ zx1 ∧ zx1 ≤ 39) (hp : ∀ (r : Int32) (zr : Int), Ti r zr → post r w) : pX11_isFalse   post  x1 w := by
  unfold pX11_isFalse
  have hk := im_k hI
  refine ⟨vp_of tx1 (by omega) (by omega), ?_⟩
  obtain ⟨z1852, t1853⟩ := t_any (w.2.1 355 x1.toNatClampNeg)
  refine sX11_isSeal   (hI := hI) (tx1 := t1853)  (hp := fun r_1v939 zr_1v939 tr_1v939 p1855 => ?_)
  refine ⟨fun c1856 => ?_, fun c1856 => ?_⟩
  · replace c1856 := c_neq tr_1v939 lit_0 c1856
    refine ⟨vp_of tx1 (by omega) (by omega), ?_⟩
    refine ⟨vp_of tx1 (by omega) (by omega), ?_⟩
    refine sX11_rowOf   (hI := hI) (tx1 := t1853) (h0 := (by omega)) (hp := fun r_4v945 zr_4v945 tr_4v945 p1857 => ?_)
    refine sX11_turnedRow   (hI := hI) (tx1 := tr_4v945)  (hp := fun r_6v949 zr_6v949 tr_6v949 => ?_)
    obtain ⟨z1858, t1859⟩ := t_any ((w.2.1 354 x1.toNatClampNeg) &&& (r_6v949 ^^^ (-1 : Int32)))
    refine ⟨fun c1860 => ?_, fun c1860 => ?_⟩
    · replace c1860 := c_neq t1859 lit_0 c1860
      exact hp _ _ lit_1 
    · replace c1860 := c_eq t1859 lit_0 c1860
      refine ⟨vp_of tx1 (by omega) (by omega), ?_⟩
      refine ⟨vp_of tx1 (by omega) (by omega), ?_⟩
      obtain ⟨z1861, t1862, f1863⟩ := t_mul lit_4 t1853
      first | replace f1863 := f1863 (by omega) | clear f1863
      obtain ⟨z1864, t1865, f1866⟩ := t_add t1862 lit_3
      first | replace f1866 := f1866 (by omega) | clear f1866
      refine ⟨vp_of t1865 (by omega) (by omega), ?_⟩
      obtain ⟨z1867, t1868⟩ := t_any (w.2.1 341 (((4 : Int32) * (w.2.1 355 x1.toNatClampNeg)) + (3 : Int32)).toNatClampNeg)
      obtain ⟨z1870, t1871⟩ := t_any (w.2.1 356 x1.toNatClampNeg)
      refine ⟨fun c1873 => ?_, fun c1873 => ?_⟩
      · replace c1873 := c_le t1868 t1871 c1873
        exact hp _ _ lit_0 
      · replace c1873 := c_nle t1868 t1871 c1873
        exact hp _ _ lit_1 
  · replace c1856 := c_eq tr_1v939 lit_0 c1856
    exact hp _ _ lit_1 
set_option maxHeartbeats 4000000 in
set_option maxRecDepth 100000 in
theorem sX11_falses_9 {T W H P S M : Int} {post : Int32 → Wd → Prop}   (hp : ∀ (r : Int32) (zr : Int) (w9 : Wd), Ti r zr → IM T W H P S M w9 → post r w9) : ∀ (n : Nat) (x1 : Int32) (x2 : Int32) (x3 : Int32) (zx1 : Int) (zx2 : Int) (zx3 : Int) (w : Wd), Ti x1 zx1 → Ti x2 zx2 → Ti x3 zx3 → IM T W H P S M w → (0 ≤ zx3 ∧ zx3 ≤ 40) → (Rg (w.1 300 48) 0 8) → (41 - zx3) < (n : Int) → pX11_falses_9   post  n x1 x2 x3 w := by
  intro n
  induction n with
  | zero =>
    intro x1 x2 x3 zx1 zx2 zx3 w tx1 tx2 tx3 hI h0 h1 hm
    exact absurd hm (by omega)
  | succ n ih =>
    intro x1 x2 x3 zx1 zx2 zx3 w tx1 tx2 tx3 hI h0 h1 hm
    unfold pX11_falses_9
    have hk := im_k hI
    obtain ⟨z1874, t1875⟩ := t_any (w.1 300 48)
    have f1876 := img_48 hI t1875
    have f1877 := Rg.g h1 t1875
    obtain ⟨z1878, t1879⟩ := t_any (w.1 300 58)
    have f1880 := img_58 hI t1879
    refine ⟨fun c1881 => ?_, fun c1881 => ?_⟩
    · replace c1881 := c_le t1879 tx3 c1881
      exact hp _ _ _  tx2 hI 
    · replace c1881 := c_nle t1879 tx3 c1881
      refine sX11_counts   (hI := hI) (tx1 := tx3) (tx2 := lit_1) (tx3 := tx1) (h0 := (by omega)) (hp := fun r_2v951 zr_2v951 tr_2v951 p1882 => ?_)
      refine ⟨fun c1883 => ?_, fun c1883 => ?_⟩
      · replace c1883 := c_eq tr_2v951 lit_0 c1883
        unfold pX11_falses_73
        obtain ⟨z1884, t1885, f1886⟩ := t_add tx3 lit_1
        first | replace f1886 := f1886 (by omega) | clear f1886
        intro x3_1v963 ex3_1v963
        have tx3_1v963 : Ti x3_1v963 z1884 := by rw [ex3_1v963]; exact t1885
        exact ih _ _ _ _ _ _ _ tx1 tx2 tx3_1v963 hI (by omega) (Rg.m t1875 (by omega) (by omega)) (by omega)
      · replace c1883 := c_neq tr_2v951 lit_0 c1883
        refine sX11_isFalse   (hI := hI) (tx1 := tx3) (h0 := (by omega)) (hp := fun r_5v958 zr_5v958 tr_5v958 => ?_)
        refine ⟨fun c1887 => ?_, fun c1887 => ?_⟩
        · replace c1887 := c_neq tr_5v958 lit_0 c1887
          obtain ⟨z1888, t1889, f1890⟩ := t_add tx2 lit_1
          first | replace f1890 := f1890 (by omega) | clear f1890
          intro x2_8v964 ex2_8v964
          have tx2_8v964 : Ti x2_8v964 z1888 := by rw [ex2_8v964]; exact t1889
          refine ⟨fun c1891 => ?_, fun c1891 => ?_⟩
          · replace c1891 := c_neq t1875 lit_8 c1891
            refine ⟨vp_of t1875 (by omega) (by omega), ?_⟩
            intro w_10v965 ew_10v965
            have hIw_10v965 := ims_A hI ew_10v965 (by decide)
            intro w_11v966 ew_11v966
            have t1892 : Ti (w_10v965.1 300 48) z1874 := by rw [e1_A ew_10v965]; exact t1875
            obtain ⟨z1893, t1894, f1895⟩ := t_add t1892 lit_1
            first | replace f1895 := f1895 (by omega) | clear f1895
            have hIw_11v966 := ims_48 hIw_10v965 ew_11v966 t1894 (by omega) (by omega)
            unfold pX11_falses_73
            obtain ⟨z1896, t1897, f1898⟩ := t_add tx3 lit_1
            first | replace f1898 := f1898 (by omega) | clear f1898
            intro x3_1v967 ex3_1v967
            have tx3_1v967 : Ti x3_1v967 z1896 := by rw [ex3_1v967]; exact t1897
            have t1899 : Ti (w_11v966.1 300 48) z1893 := by rw [ew_11v966, sI_at]; exact t1894
            exact ih _ _ _ _ _ _ _ tx1 tx2_8v964 tx3_1v967 hIw_11v966 (by omega) (Rg.m t1899 (by omega) (by omega)) (by omega)
          · replace c1891 := c_eq t1875 lit_8 c1891
            unfold pX11_falses_73
            obtain ⟨z1900, t1901, f1902⟩ := t_add tx3 lit_1
            first | replace f1902 := f1902 (by omega) | clear f1902
            intro x3_1v968 ex3_1v968
            have tx3_1v968 : Ti x3_1v968 z1900 := by rw [ex3_1v968]; exact t1901
            exact ih _ _ _ _ _ _ _ tx1 tx2_8v964 tx3_1v968 hI (by omega) (Rg.m t1875 (by omega) (by omega)) (by omega)
        · replace c1887 := c_eq tr_5v958 lit_0 c1887
          unfold pX11_falses_73
          obtain ⟨z1903, t1904, f1905⟩ := t_add tx3 lit_1
          first | replace f1905 := f1905 (by omega) | clear f1905
          intro x3_1v969 ex3_1v969
          have tx3_1v969 : Ti x3_1v969 z1903 := by rw [ex3_1v969]; exact t1904
          exact ih _ _ _ _ _ _ _ tx1 tx2 tx3_1v969 hI (by omega) (Rg.m t1875 (by omega) (by omega)) (by omega)
