set_option maxHeartbeats 4000000 in
set_option maxRecDepth 100000 in
theorem sX11_tree_41 {T W H P S M : Int} {post : Int32 → Wd → Prop}   (hp : ∀ (r : Int32) (zr : Int) (w9 : Wd) (M9 : Int), Ti r zr → IM T W H P S M9 w9 → post r w9) : ∀ (n : Nat) (x1 : Int32) (x2 : Int32) (x4 : Int32) (x5 : Int32) (zx1 : Int) (zx2 : Int) (zx4 : Int) (zx5 : Int) (w : Wd), Ti x1 zx1 → Ti x2 zx2 → Ti x4 zx4 → Ti x5 zx5 → IM T W H P S M w → (0 ≤ zx5 ∧ zx5 ≤ 7) → (0 ≤ zx1 ∧ zx1 < M) → (8 - zx5) < (n : Int) → pX11_tree_41   post  n x1 x2 x4 x5 w := by
  intro n
  induction n with
  | zero =>
    intro x1 x2 x4 x5 zx1 zx2 zx4 zx5 w tx1 tx2 tx4 tx5 hI h0 h1 hm
    exact absurd hm (by omega)
  | succ n ih =>
    intro x1 x2 x4 x5 zx1 zx2 zx4 zx5 w tx1 tx2 tx4 tx5 hI h0 h1 hm
    unfold pX11_tree_41
    have hk := im_k hI
    obtain ⟨z1301, t1302⟩ := t_any (w.1 300 63)
    have f1303 := img_63 hI t1302
    refine ⟨fun c1304 => ?_, fun c1304 => ?_⟩
    · replace c1304 := c_le t1302 tx5 c1304
      have f1305 := t_rng tx4
      exact ⟨2147483649, sX11_tree_76    (hp := hp) 2147483649 _ _ _ _ _ _ _ _ _ _ _ _ _ tx1 tx2 tx4 lit_m1 lit_0 lit_0 hI (by omega) (by omega) (by omega) (by omega)⟩
    · replace c1304 := c_nle t1302 tx5 c1304
      obtain ⟨z1306, t1307, f1308⟩ := t_sub t1302 lit_1
      first | replace f1308 := f1308 (by omega) | clear f1308
      obtain ⟨z1309, t1310, f1311⟩ := t_mulv tx4 t1307
      first | replace f1311 := f1311 (by omega) | clear f1311
      intro x4_2v809 ex4_2v809
      have tx4_2v809 : Ti x4_2v809 z1309 := by rw [ex4_2v809]; exact t1310
      obtain ⟨z1312, t1313, f1314⟩ := t_add tx5 lit_1
      first | replace f1314 := f1314 (by omega) | clear f1314
      intro x5_3v810 ex5_3v810
      have tx5_3v810 : Ti x5_3v810 z1312 := by rw [ex5_3v810]; exact t1313
      exact ih _ _ _ _ _ _ _ _ _ tx1 tx2 tx4_2v809 tx5_3v810 hI (by omega) (by omega) (by omega)
set_option maxHeartbeats 4000000 in
set_option maxRecDepth 100000 in
theorem sX11_tree {T W H P S M : Int} {post : Int32 → Wd → Prop} {x1 : Int32} {zx1 : Int} {x2 : Int32} {zx2 : Int} {x3 : Int32} {zx3 : Int} {w : Wd}  (tx1 : Ti x1 zx1) (tx2 : Ti x2 zx2) (tx3 : Ti x3 zx3) (hI : IM T W H P S M w)  (hp : ∀ (r : Int32) (zr : Int) (w9 : Wd) (M9 : Int), Ti r zr → IM T W H P S M9 w9 → post r w9) : pX11_tree   post  x1 x2 x3 w := by
  unfold pX11_tree
  have hk := im_k hI
  intro w_1v811 ew_1v811
  have hIw_1v811 := ims_48 hI ew_1v811 lit_0 (by omega) (by omega)
  refine sX11_laySamples   (hI := hIw_1v811) (tx1 := tx3)  (hp := fun  w_2v812 g1315  hIw_2v812  => ?_)
  have f1316 := im_k hIw_2v812
  obtain ⟨z1317, t1318⟩ := t_any (w_2v812.1 300 63)
  have f1319 := img_63 hIw_2v812 t1318
  obtain ⟨z1320, t1321, f1322⟩ := t_sub t1318 lit_1
  first | replace f1322 := f1322 (by omega) | clear f1322
  refine sX11_isIn   (hI := hIw_2v812) (tx0 := tx1) (tx1 := lit_0) (tx2 := t1321)  (hp := fun r_3v813 zr_3v813 tr_3v813 p1323 p1324 => ?_)
  refine ⟨fun c1325 => ?_, fun c1325 => ?_⟩
  · replace c1325 := c_eq tr_3v813 lit_0 c1325
    exact hp _ _ _ _ lit_m1 hIw_2v812 
  · replace c1325 := c_neq tr_3v813 lit_0 c1325
    refine sX11_isIn   (hI := hIw_2v812) (tx0 := tx2) (tx1 := lit_0) (tx2 := lit_1)  (hp := fun r_6v817 zr_6v817 tr_6v817 p1326 p1327 => ?_)
    refine ⟨fun c1328 => ?_, fun c1328 => ?_⟩
    · replace c1328 := c_neq tr_6v817 lit_0 c1328
      exact ⟨70000, sX11_tree_41    (hp := hp) 70000 _ _ _ _ _ _ _ _ _ tx1 tx2 lit_1 lit_1 hIw_2v812 (by omega) (by omega) (by omega)⟩
    · replace c1328 := c_eq tr_6v817 lit_0 c1328
      exact hp _ _ _ _ lit_m1 hIw_2v812 
set_option maxHeartbeats 4000000 in
set_option maxRecDepth 100000 in
theorem sX11_centre_46 {T W H P S M : Int} {k31 : Int32 → Int32 → Int32 → Int32 → Wd → Prop} {M31 : Int} {post : Int32 → Wd → Prop}  (hk31 : ∀ (x1 : Int32) (x3 : Int32) (x4 : Int32) (x5 : Int32) (zx1 : Int) (zx3 : Int) (zx4 : Int) (zx5 : Int) (w : Wd), Ti x1 zx1 → Ti x3 zx3 → Ti x4 zx4 → Ti x5 zx5 → IM T W H P S M w → (0 ≤ zx5 ∧ zx5 ≤ 7) → (8 - zx5) < M31 → k31 x1 x3 x4 x5 w) (hp : ∀ (r : Int32) (zr : Int) (w9 : Wd) (M9 : Int), Ti r zr → IM T W H P S M9 w9 → post r w9) : ∀ (n : Nat) (x1 : Int32) (x3 : Int32) (x4 : Int32) (x5 : Int32) (x6 : Int32) (x7 : Int32) (zx1 : Int) (zx3 : Int) (zx4 : Int) (zx5 : Int) (zx6 : Int) (zx7 : Int) (w : Wd), Ti x1 zx1 → Ti x3 zx3 → Ti x4 zx4 → Ti x5 zx5 → Ti x6 zx6 → Ti x7 zx7 → IM T W H P S M w → (0 ≤ zx7 ∧ zx7 ≤ 7) → (zx5 ≤ 6) → (0 ≤ zx5 ∧ zx5 ≤ 7) → ((8 - zx5) ≤ M31) → (8 - zx7) < (n : Int) → pX11_centre_46 k31  post  n x1 x3 x4 x5 x6 x7 w := by
  intro n
  induction n with
  | zero =>
    intro x1 x3 x4 x5 x6 x7 zx1 zx3 zx4 zx5 zx6 zx7 w tx1 tx3 tx4 tx5 tx6 tx7 hI h0 h1 h2 h3 hm
    exact absurd hm (by omega)
  | succ n ih =>
    intro x1 x3 x4 x5 x6 x7 zx1 zx3 zx4 zx5 zx6 zx7 w tx1 tx3 tx4 tx5 tx6 tx7 hI h0 h1 h2 h3 hm
    unfold pX11_centre_46
    have hk := im_k hI
    obtain ⟨z1329, t1330⟩ := t_any (w.1 300 63)
    have f1331 := img_63 hI t1330
    refine ⟨fun c1332 => ?_, fun c1332 => ?_⟩
    · replace c1332 := c_le t1330 tx7 c1332
      refine ⟨fun c1333 => ?_, fun c1333 => ?_⟩
      · replace c1333 := c_lt tx3 lit_0 c1333
        unfold pX11_centre_100
        unfold pX11_centre_107
        obtain ⟨z1334, t1335, f1336⟩ := t_add tx5 lit_1
        first | replace f1336 := f1336 (by omega) | clear f1336
        intro x5_1v820 ex5_1v820
        have tx5_1v820 : Ti x5_1v820 z1334 := by rw [ex5_1v820]; exact t1335
        exact hk31 _ _ _ _ _ _ _ _ _ tx1 tx5 tx6 tx5_1v820 hI (by omega) (by omega)
      · replace c1333 := c_nlt tx3 lit_0 c1333
        refine ⟨fun c1337 => ?_, fun c1337 => ?_⟩
        · replace c1337 := c_lt tx6 tx4 c1337
          unfold pX11_centre_100
          unfold pX11_centre_107
          obtain ⟨z1338, t1339, f1340⟩ := t_add tx5 lit_1
          first | replace f1340 := f1340 (by omega) | clear f1340
          intro x5_1v821 ex5_1v821
          have tx5_1v821 : Ti x5_1v821 z1338 := by rw [ex5_1v821]; exact t1339
          exact hk31 _ _ _ _ _ _ _ _ _ tx1 tx5 tx6 tx5_1v821 hI (by omega) (by omega)
        · replace c1337 := c_nlt tx6 tx4 c1337
          unfold pX11_centre_107
          obtain ⟨z1341, t1342, f1343⟩ := t_add tx5 lit_1
          first | replace f1343 := f1343 (by omega) | clear f1343
          intro x5_1v822 ex5_1v822
          have tx5_1v822 : Ti x5_1v822 z1341 := by rw [ex5_1v822]; exact t1342
          exact hk31 _ _ _ _ _ _ _ _ _ tx1 tx3 tx4 tx5_1v822 hI (by omega) (by omega)
    · replace c1332 := c_nle t1330 tx7 c1332
      refine ⟨fun c1344 => ?_, fun c1344 => ?_⟩
      · replace c1344 := c_eq tx7 tx5 c1344
        unfold pX11_centre_80
        obtain ⟨z1345, t1346, f1347⟩ := t_add tx7 lit_1
        first | replace f1347 := f1347 (by omega) | clear f1347
        intro x7_1v823 ex7_1v823
        have tx7_1v823 : Ti x7_1v823 z1345 := by rw [ex7_1v823]; exact t1346
        exact ih _ _ _ _ _ _ _ _ _ _ _ _ _ tx1 tx3 tx4 tx5 tx6 tx7_1v823 hI (by omega) (by omega) (by omega) (by omega) (by omega)
      · replace c1344 := c_neq tx7 tx5 c1344
        obtain ⟨z1348, t1349, f1350⟩ := t_mul lit_7 tx5
        first | replace f1350 := f1350 (by omega) | clear f1350
        obtain ⟨z1351, t1352, f1353⟩ := t_add t1349 tx7
        first | replace f1353 := f1353 (by omega) | clear f1353
        refine ⟨vp_of t1352 (by omega) (by omega), ?_⟩
        obtain ⟨z1354, t1355⟩ := t_any (w.2.1 363 (((7 : Int32) * x5) + x7).toNatClampNeg)
        obtain ⟨z1357, t1358, f1359⟩ := t_add tx6 t1355
        first | replace f1359 := f1359 (by omega) | clear f1359
        intro x6_5v819 ex6_5v819
        have tx6_5v819 : Ti x6_5v819 z1357 := by rw [ex6_5v819]; exact t1358
        unfold pX11_centre_80
        obtain ⟨z1360, t1361, f1362⟩ := t_add tx7 lit_1
        first | replace f1362 := f1362 (by omega) | clear f1362
        intro x7_1v824 ex7_1v824
        have tx7_1v824 : Ti x7_1v824 z1360 := by rw [ex7_1v824]; exact t1361
        exact ih _ _ _ _ _ _ _ _ _ _ _ _ _ tx1 tx3 tx4 tx5 tx6_5v819 tx7_1v824 hI (by omega) (by omega) (by omega) (by omega) (by omega)
set_option maxHeartbeats 4000000 in
set_option maxRecDepth 100000 in
theorem sX11_centre_31 {T W H P S M : Int} {post : Int32 → Wd → Prop}   (hp : ∀ (r : Int32) (zr : Int) (w9 : Wd) (M9 : Int), Ti r zr → IM T W H P S M9 w9 → post r w9) : ∀ (n : Nat) (x1 : Int32) (x3 : Int32) (x4 : Int32) (x5 : Int32) (zx1 : Int) (zx3 : Int) (zx4 : Int) (zx5 : Int) (w : Wd), Ti x1 zx1 → Ti x3 zx3 → Ti x4 zx4 → Ti x5 zx5 → IM T W H P S M w → (0 ≤ zx5 ∧ zx5 ≤ 7) → (8 - zx5) < (n : Int) → pX11_centre_31   post  n x1 x3 x4 x5 w := by
  intro n
  induction n with
  | zero =>
    intro x1 x3 x4 x5 zx1 zx3 zx4 zx5 w tx1 tx3 tx4 tx5 hI h0 hm
    exact absurd hm (by omega)
  | succ n ih =>
    intro x1 x3 x4 x5 zx1 zx3 zx4 zx5 w tx1 tx3 tx4 tx5 hI h0 hm
    unfold pX11_centre_31
    have hk := im_k hI
    obtain ⟨z1363, t1364⟩ := t_any (w.1 300 63)
    have f1365 := img_63 hI t1364
    refine ⟨fun c1366 => ?_, fun c1366 => ?_⟩
    · replace c1366 := c_le t1364 tx5 c1366
      refine ⟨fun c1367 => ?_, fun c1367 => ?_⟩
      · replace c1367 := c_neq tx1 lit_0 c1367
        exact hp _ _ _ _ tx4 hI 
      · replace c1367 := c_eq tx1 lit_0 c1367
        exact hp _ _ _ _ tx3 hI 
    · replace c1366 := c_nle t1364 tx5 c1366
      exact ⟨70000, sX11_centre_46  (M31 := (n : Int)) (hk31 := ih)  (hp := hp) 70000 _ _ _ _ _ _ _ _ _ _ _ _ _ tx1 tx3 tx4 tx5 lit_0 lit_0 hI (by omega) (by omega) (by omega) (by omega) (by omega)⟩
set_option maxHeartbeats 4000000 in
set_option maxRecDepth 100000 in
theorem sX11_centre {T W H P S M : Int} {post : Int32 → Wd → Prop} {x1 : Int32} {zx1 : Int} {x2 : Int32} {zx2 : Int} {w : Wd}  (tx1 : Ti x1 zx1) (tx2 : Ti x2 zx2) (hI : IM T W H P S M w)  (hp : ∀ (r : Int32) (zr : Int) (w9 : Wd) (M9 : Int), Ti r zr → IM T W H P S M9 w9 → post r w9) : pX11_centre   post  x1 x2 w := by
  unfold pX11_centre
  have hk := im_k hI
  refine sX11_laySamples   (hI := hI) (tx1 := tx2)  (hp := fun  w_1v825 g1368  hIw_1v825  => ?_)
  have f1369 := im_k hIw_1v825
  obtain ⟨z1370, t1371⟩ := t_any (w_1v825.1 300 63)
  have f1372 := img_63 hIw_1v825 t1371
  refine ⟨fun c1373 => ?_, fun c1373 => ?_⟩
  · replace c1373 := c_eq t1371 lit_0 c1373
    exact hp _ _ _ _ lit_m1 hIw_1v825 
  · replace c1373 := c_neq t1371 lit_0 c1373
    refine sX11_isIn   (hI := hIw_1v825) (tx0 := tx1) (tx1 := lit_0) (tx2 := lit_1)  (hp := fun r_3v826 zr_3v826 tr_3v826 p1374 p1375 => ?_)
    refine ⟨fun c1376 => ?_, fun c1376 => ?_⟩
    · replace c1376 := c_neq tr_3v826 lit_0 c1376
      exact ⟨70000, sX11_centre_31    (hp := hp) 70000 _ _ _ _ _ _ _ _ _ tx1 lit_m1 lit_0 lit_0 hIw_1v825 (by omega) (by omega)⟩
    · replace c1376 := c_eq tr_3v826 lit_0 c1376
      exact hp _ _ _ _ lit_m1 hIw_1v825 
set_option maxHeartbeats 4000000 in
set_option maxRecDepth 100000 in
theorem sX11_layClans_140 {T W H P S M : Int} {k35 : Int32 → Int32 → Int32 → Wd → Prop} {M35 : Int} {M25 : Int} {post : Wd → Prop}  (hk35 : ∀ (x1 : Int32) (x2 : Int32) (x3 : Int32) (zx1 : Int) (zx2 : Int) (zx3 : Int) (w : Wd), Ti x1 zx1 → Ti x2 zx2 → Ti x3 zx3 → IM T W H P S M w → (0 ≤ zx3 ∧ zx3 ≤ 7) → (zx2 ≤ 6) → (0 ≤ zx2 ∧ zx2 ≤ 7) → ((8 - zx2) ≤ M25) → (8 - zx3) < M35 → k35 x1 x2 x3 w) (hp : ∀ (w9 : Wd), IM T W H P S M w9 → post w9) : ∀ (n : Nat) (x1 : Int32) (x2 : Int32) (x3 : Int32) (x4 : Int32) (x5 : Int32) (x6 : Int32) (zx1 : Int) (zx2 : Int) (zx3 : Int) (zx4 : Int) (zx5 : Int) (zx6 : Int) (w : Wd), Ti x1 zx1 → Ti x2 zx2 → Ti x3 zx3 → Ti x4 zx4 → Ti x5 zx5 → Ti x6 zx6 → IM T W H P S M w → (0 ≤ zx6 ∧ zx6 ≤ 7) → (zx3 < zx2) → (0 ≤ zx3) → (0 ≤ zx3 ∧ zx3 ≤ 7) → (zx2 ≤ 6) → (0 ≤ zx2 ∧ zx2 ≤ 7) → ((8 - zx2) ≤ M25) → ((8 - zx3) ≤ M35) → (8 - zx6) < (n : Int) → pX11_layClans_140 k35  post  n x1 x2 x3 x4 x5 x6 w := by
  intro n
  induction n with
  | zero =>
    intro x1 x2 x3 x4 x5 x6 zx1 zx2 zx3 zx4 zx5 zx6 w tx1 tx2 tx3 tx4 tx5 tx6 hI h0 h1 h2 h3 h4 h5 h6 h7 hm
    exact absurd hm (by omega)
  | succ n ih =>
    intro x1 x2 x3 x4 x5 x6 zx1 zx2 zx3 zx4 zx5 zx6 w tx1 tx2 tx3 tx4 tx5 tx6 hI h0 h1 h2 h3 h4 h5 h6 h7 hm
    unfold pX11_layClans_140
    have hk := im_k hI
    obtain ⟨z1377, t1378⟩ := t_any (w.1 300 63)
    have f1379 := img_63 hI t1378
    refine ⟨fun c1380 => ?_, fun c1380 => ?_⟩
    · replace c1380 := c_le t1378 tx6 c1380
      unfold pX11_layClans_176
      obtain ⟨z1381, t1382, f1383⟩ := t_add tx3 lit_1
      first | replace f1383 := f1383 (by omega) | clear f1383
      intro x3_1v829 ex3_1v829
      have tx3_1v829 : Ti x3_1v829 z1381 := by rw [ex3_1v829]; exact t1382
      exact hk35 _ _ _ _ _ _ _ tx1 tx2 tx3_1v829 hI (by omega) (by omega) (by omega) (by omega) (by omega)
    · replace c1380 := c_nle t1378 tx6 c1380
      refine ⟨vp_of tx6 (by omega) (by omega), ?_⟩
      obtain ⟨z1384, t1385⟩ := t_any (w.2.1 365 x6.toNatClampNeg)
      refine ⟨fun c1387 => ?_, fun c1387 => ?_⟩
      · replace c1387 := c_neq t1385 tx5 c1387
        unfold pX11_layClans_170
        obtain ⟨z1388, t1389, f1390⟩ := t_add tx6 lit_1
        first | replace f1390 := f1390 (by omega) | clear f1390
        intro x6_1v830 ex6_1v830
        have tx6_1v830 : Ti x6_1v830 z1388 := by rw [ex6_1v830]; exact t1389
        exact ih _ _ _ _ _ _ _ _ _ _ _ _ _ tx1 tx2 tx3 tx4 tx5 tx6_1v830 hI (by omega) (by omega) (by omega) (by omega) (by omega) (by omega) (by omega) (by omega) (by omega)
      · replace c1387 := c_eq t1385 tx5 c1387
        refine ⟨vp_of tx6 (by omega) (by omega), ?_⟩
        intro w_3v828 ew_3v828
        have hIw_3v828 := ims_A hI ew_3v828 (by decide)
        unfold pX11_layClans_170
        obtain ⟨z1391, t1392, f1393⟩ := t_add tx6 lit_1
        first | replace f1393 := f1393 (by omega) | clear f1393
        intro x6_1v831 ex6_1v831
        have tx6_1v831 : Ti x6_1v831 z1391 := by rw [ex6_1v831]; exact t1392
        exact ih _ _ _ _ _ _ _ _ _ _ _ _ _ tx1 tx2 tx3 tx4 tx5 tx6_1v831 hIw_3v828 (by omega) (by omega) (by omega) (by omega) (by omega) (by omega) (by omega) (by omega) (by omega)
set_option maxHeartbeats 4000000 in
set_option maxRecDepth 100000 in
theorem sX11_layClans_35 {T W H P S M : Int} {k25 : Int32 → Int32 → Wd → Prop} {M25 : Int} {post : Wd → Prop}  (hk25 : ∀ (x1 : Int32) (x2 : Int32) (zx1 : Int) (zx2 : Int) (w : Wd), Ti x1 zx1 → Ti x2 zx2 → IM T W H P S M w → (0 ≤ zx2 ∧ zx2 ≤ 7) → (8 - zx2) < M25 → k25 x1 x2 w) (hp : ∀ (w9 : Wd), IM T W H P S M w9 → post w9) : ∀ (n : Nat) (x1 : Int32) (x2 : Int32) (x3 : Int32) (zx1 : Int) (zx2 : Int) (zx3 : Int) (w : Wd), Ti x1 zx1 → Ti x2 zx2 → Ti x3 zx3 → IM T W H P S M w → (0 ≤ zx3 ∧ zx3 ≤ 7) → (zx2 ≤ 6) → (0 ≤ zx2 ∧ zx2 ≤ 7) → ((8 - zx2) ≤ M25) → (8 - zx3) < (n : Int) → pX11_layClans_35 k25  post  n x1 x2 x3 w := by
  intro n
  induction n with
  | zero =>
    intro x1 x2 x3 zx1 zx2 zx3 w tx1 tx2 tx3 hI h0 h1 h2 h3 hm
    exact absurd hm (by omega)
  | succ n ih =>
    intro x1 x2 x3 zx1 zx2 zx3 w tx1 tx2 tx3 hI h0 h1 h2 h3 hm
    unfold pX11_layClans_35
    have hk := im_k hI
    refine ⟨fun c1394 => ?_, fun c1394 => ?_⟩
    · replace c1394 := c_le tx2 tx3 c1394
      obtain ⟨z1395, t1396, f1397⟩ := t_add tx2 lit_1
      first | replace f1397 := f1397 (by omega) | clear f1397
      intro x2_2v832 ex2_2v832
      have tx2_2v832 : Ti x2_2v832 z1395 := by rw [ex2_2v832]; exact t1396
      exact hk25 _ _ _ _ _ tx1 tx2_2v832 hI (by omega) (by omega)
    · replace c1394 := c_nle tx2 tx3 c1394
      obtain ⟨z1398, t1399, f1400⟩ := t_mul lit_7 tx2
      first | replace f1400 := f1400 (by omega) | clear f1400
      obtain ⟨z1401, t1402, f1403⟩ := t_add t1399 tx3
      first | replace f1403 := f1403 (by omega) | clear f1403
      refine ⟨vp_of t1402 (by omega) (by omega), ?_⟩
      obtain ⟨z1404, t1405⟩ := t_any (w.2.1 363 (((7 : Int32) * x2) + x3).toNatClampNeg)
      refine ⟨fun c1407 => ?_, fun c1407 => ?_⟩
      · replace c1407 := c_le t1405 tx1 c1407
        unfold pX11_layClans_73
        refine ⟨vp_of tx2 (by omega) (by omega), ?_⟩
        refine ⟨vp_of tx3 (by omega) (by omega), ?_⟩
        obtain ⟨z1408, t1409⟩ := t_any (w.2.1 365 x3.toNatClampNeg)
        obtain ⟨z1411, t1412⟩ := t_any (w.2.1 365 x2.toNatClampNeg)
        refine ⟨fun c1414 => ?_, fun c1414 => ?_⟩
        · replace c1414 := c_le t1409 t1412 c1414
          refine ⟨vp_of tx3 (by omega) (by omega), ?_⟩
          unfold pX11_layClans_103
          refine ⟨vp_of tx2 (by omega) (by omega), ?_⟩
          refine ⟨vp_of tx3 (by omega) (by omega), ?_⟩
          refine ⟨fun c1415 => ?_, fun c1415 => ?_⟩
          · replace c1415 := c_le t1409 t1412 c1415
            refine ⟨vp_of tx2 (by omega) (by omega), ?_⟩
            unfold pX11_layClans_135
            exact ⟨70000, sX11_layClans_140  (M35 := (n : Int)) (hk35 := ih)  (hp := hp) 70000 _ _ _ _ _ _ _ _ _ _ _ _ _ tx1 tx2 tx3 t1409 t1412 lit_0 hI (by omega) (by omega) (by omega) (by omega) (by omega) (by omega) (by omega) (by omega) (by omega)⟩
          · replace c1415 := c_nle t1409 t1412 c1415
            refine ⟨vp_of tx3 (by omega) (by omega), ?_⟩
            unfold pX11_layClans_135
            exact ⟨70000, sX11_layClans_140  (M35 := (n : Int)) (hk35 := ih)  (hp := hp) 70000 _ _ _ _ _ _ _ _ _ _ _ _ _ tx1 tx2 tx3 t1409 t1409 lit_0 hI (by omega) (by omega) (by omega) (by omega) (by omega) (by omega) (by omega) (by omega) (by omega)⟩
        · replace c1414 := c_nle t1409 t1412 c1414
          refine ⟨vp_of tx2 (by omega) (by omega), ?_⟩
          unfold pX11_layClans_103
          refine ⟨vp_of tx2 (by omega) (by omega), ?_⟩
          refine ⟨vp_of tx3 (by omega) (by omega), ?_⟩
          refine ⟨fun c1416 => ?_, fun c1416 => ?_⟩
          · replace c1416 := c_le t1409 t1412 c1416
            refine ⟨vp_of tx2 (by omega) (by omega), ?_⟩
            unfold pX11_layClans_135
            exact ⟨70000, sX11_layClans_140  (M35 := (n : Int)) (hk35 := ih)  (hp := hp) 70000 _ _ _ _ _ _ _ _ _ _ _ _ _ tx1 tx2 tx3 t1412 t1412 lit_0 hI (by omega) (by omega) (by omega) (by omega) (by omega) (by omega) (by omega) (by omega) (by omega)⟩
          · replace c1416 := c_nle t1409 t1412 c1416
            refine ⟨vp_of tx3 (by omega) (by omega), ?_⟩
            unfold pX11_layClans_135
            exact ⟨70000, sX11_layClans_140  (M35 := (n : Int)) (hk35 := ih)  (hp := hp) 70000 _ _ _ _ _ _ _ _ _ _ _ _ _ tx1 tx2 tx3 t1412 t1409 lit_0 hI (by omega) (by omega) (by omega) (by omega) (by omega) (by omega) (by omega) (by omega) (by omega)⟩
      · replace c1407 := c_nle t1405 tx1 c1407
        obtain ⟨z1417, t1418, f1419⟩ := t_mul lit_7 tx3
        first | replace f1419 := f1419 (by omega) | clear f1419
        obtain ⟨z1420, t1421, f1422⟩ := t_add t1418 tx2
        first | replace f1422 := f1422 (by omega) | clear f1422
        refine ⟨vp_of t1421 (by omega) (by omega), ?_⟩
        obtain ⟨z1423, t1424⟩ := t_any (w.2.1 363 (((7 : Int32) * x3) + x2).toNatClampNeg)
        refine ⟨fun c1426 => ?_, fun c1426 => ?_⟩
        · replace c1426 := c_le t1424 tx1 c1426
          unfold pX11_layClans_73
          refine ⟨vp_of tx2 (by omega) (by omega), ?_⟩
          refine ⟨vp_of tx3 (by omega) (by omega), ?_⟩
          obtain ⟨z1427, t1428⟩ := t_any (w.2.1 365 x3.toNatClampNeg)
          obtain ⟨z1430, t1431⟩ := t_any (w.2.1 365 x2.toNatClampNeg)
          refine ⟨fun c1433 => ?_, fun c1433 => ?_⟩
          · replace c1433 := c_le t1428 t1431 c1433
            refine ⟨vp_of tx3 (by omega) (by omega), ?_⟩
            unfold pX11_layClans_103
            refine ⟨vp_of tx2 (by omega) (by omega), ?_⟩
            refine ⟨vp_of tx3 (by omega) (by omega), ?_⟩
            refine ⟨fun c1434 => ?_, fun c1434 => ?_⟩
            · replace c1434 := c_le t1428 t1431 c1434
              refine ⟨vp_of tx2 (by omega) (by omega), ?_⟩
              unfold pX11_layClans_135
              exact ⟨70000, sX11_layClans_140  (M35 := (n : Int)) (hk35 := ih)  (hp := hp) 70000 _ _ _ _ _ _ _ _ _ _ _ _ _ tx1 tx2 tx3 t1428 t1431 lit_0 hI (by omega) (by omega) (by omega) (by omega) (by omega) (by omega) (by omega) (by omega) (by omega)⟩
            · replace c1434 := c_nle t1428 t1431 c1434
              refine ⟨vp_of tx3 (by omega) (by omega), ?_⟩
              unfold pX11_layClans_135
              exact ⟨70000, sX11_layClans_140  (M35 := (n : Int)) (hk35 := ih)  (hp := hp) 70000 _ _ _ _ _ _ _ _ _ _ _ _ _ tx1 tx2 tx3 t1428 t1428 lit_0 hI (by omega) (by omega) (by omega) (by omega) (by omega) (by omega) (by omega) (by omega) (by omega)⟩
          · replace c1433 := c_nle t1428 t1431 c1433
            refine ⟨vp_of tx2 (by omega) (by omega), ?_⟩
            unfold pX11_layClans_103
            refine ⟨vp_of tx2 (by omega) (by omega), ?_⟩
            refine ⟨vp_of tx3 (by omega) (by omega), ?_⟩
            refine ⟨fun c1435 => ?_, fun c1435 => ?_⟩
            · replace c1435 := c_le t1428 t1431 c1435
              refine ⟨vp_of tx2 (by omega) (by omega), ?_⟩
              unfold pX11_layClans_135
              exact ⟨70000, sX11_layClans_140  (M35 := (n : Int)) (hk35 := ih)  (hp := hp) 70000 _ _ _ _ _ _ _ _ _ _ _ _ _ tx1 tx2 tx3 t1431 t1431 lit_0 hI (by omega) (by omega) (by omega) (by omega) (by omega) (by omega) (by omega) (by omega) (by omega)⟩
            · replace c1435 := c_nle t1428 t1431 c1435
              refine ⟨vp_of tx3 (by omega) (by omega), ?_⟩
              unfold pX11_layClans_135
              exact ⟨70000, sX11_layClans_140  (M35 := (n : Int)) (hk35 := ih)  (hp := hp) 70000 _ _ _ _ _ _ _ _ _ _ _ _ _ tx1 tx2 tx3 t1431 t1428 lit_0 hI (by omega) (by omega) (by omega) (by omega) (by omega) (by omega) (by omega) (by omega) (by omega)⟩
        · replace c1426 := c_nle t1424 tx1 c1426
          unfold pX11_layClans_176
          obtain ⟨z1436, t1437, f1438⟩ := t_add tx3 lit_1
          first | replace f1438 := f1438 (by omega) | clear f1438
          intro x3_1v833 ex3_1v833
          have tx3_1v833 : Ti x3_1v833 z1436 := by rw [ex3_1v833]; exact t1437
          exact ih _ _ _ _ _ _ _ tx1 tx2 tx3_1v833 hI (by omega) (by omega) (by omega) (by omega) (by omega)
set_option maxHeartbeats 4000000 in
set_option maxRecDepth 100000 in
theorem sX11_layClans_25 {T W H P S M : Int} {post : Wd → Prop}   (hp : ∀ (w9 : Wd), IM T W H P S M w9 → post w9) : ∀ (n : Nat) (x1 : Int32) (x2 : Int32) (zx1 : Int) (zx2 : Int) (w : Wd), Ti x1 zx1 → Ti x2 zx2 → IM T W H P S M w → (0 ≤ zx2 ∧ zx2 ≤ 7) → (8 - zx2) < (n : Int) → pX11_layClans_25   post  n x1 x2 w := by
  intro n
  induction n with
  | zero =>
    intro x1 x2 zx1 zx2 w tx1 tx2 hI h0 hm
    exact absurd hm (by omega)
  | succ n ih =>
    intro x1 x2 zx1 zx2 w tx1 tx2 hI h0 hm
    unfold pX11_layClans_25
    have hk := im_k hI
    obtain ⟨z1439, t1440⟩ := t_any (w.1 300 63)
    have f1441 := img_63 hI t1440
    refine ⟨fun c1442 => ?_, fun c1442 => ?_⟩
    · replace c1442 := c_le t1440 tx2 c1442
      exact hp  _   hI 
    · replace c1442 := c_nle t1440 tx2 c1442
      exact ⟨70000, sX11_layClans_35  (M25 := (n : Int)) (hk25 := ih)  (hp := hp) 70000 _ _ _ _ _ _ _ tx1 tx2 lit_0 hI (by omega) (by omega) (by omega) (by omega) (by omega)⟩
set_option maxHeartbeats 4000000 in
set_option maxRecDepth 100000 in
theorem sX11_layClans_2 {T W H P S M : Int} {post : Wd → Prop}   (hp : ∀ (w9 : Wd), IM T W H P S M w9 → post w9) : ∀ (n : Nat) (x1 : Int32) (x2 : Int32) (zx1 : Int) (zx2 : Int) (w : Wd), Ti x1 zx1 → Ti x2 zx2 → IM T W H P S M w → (0 ≤ zx2 ∧ zx2 ≤ 7) → (8 - zx2) < (n : Int) → pX11_layClans_2   post  n x1 x2 w := by
  intro n
  induction n with
  | zero =>
    intro x1 x2 zx1 zx2 w tx1 tx2 hI h0 hm
    exact absurd hm (by omega)
  | succ n ih =>
    intro x1 x2 zx1 zx2 w tx1 tx2 hI h0 hm
    unfold pX11_layClans_2
    have hk := im_k hI
    obtain ⟨z1443, t1444⟩ := t_any (w.1 300 63)
    have f1445 := img_63 hI t1444
    refine ⟨fun c1446 => ?_, fun c1446 => ?_⟩
    · replace c1446 := c_le t1444 tx2 c1446
      exact ⟨70000, sX11_layClans_25    (hp := hp) 70000 _ _ _ _ _ tx1 lit_0 hI (by omega) (by omega)⟩
    · replace c1446 := c_nle t1444 tx2 c1446
      refine ⟨vp_of tx2 (by omega) (by omega), ?_⟩
      intro w_2v834 ew_2v834
      have hIw_2v834 := ims_A hI ew_2v834 (by decide)
      obtain ⟨z1447, t1448, f1449⟩ := t_add tx2 lit_1
      first | replace f1449 := f1449 (by omega) | clear f1449
      intro x2_3v835 ex2_3v835
      have tx2_3v835 : Ti x2_3v835 z1447 := by rw [ex2_3v835]; exact t1448
      exact ih _ _ _ _ _ tx1 tx2_3v835 hIw_2v834 (by omega) (by omega)
set_option maxHeartbeats 4000000 in
set_option maxRecDepth 100000 in
theorem sX11_layClans {T W H P S M : Int} {post : Wd → Prop} {x1 : Int32} {zx1 : Int} {w : Wd}  (tx1 : Ti x1 zx1) (hI : IM T W H P S M w)  (hp : ∀ (w9 : Wd), IM T W H P S M w9 → post w9) : pX11_layClans   post  x1 w := by
  unfold pX11_layClans
  have hk := im_k hI
  exact ⟨70000, sX11_layClans_2    (hp := hp) 70000 _ _ _ _ _ tx1 lit_0 hI (by omega) (by omega)⟩
set_option maxHeartbeats 4000000 in
set_option maxRecDepth 100000 in
theorem sX11_clans_55 {T W H P S M : Int} {k40 : Int32 → Int32 → Int32 → Int32 → Wd → Prop} {M40 : Int} {post : Int32 → Wd → Prop}  (hk40 : ∀ (x2 : Int32) (x4 : Int32) (x5 : Int32) (x6 : Int32) (zx2 : Int) (zx4 : Int) (zx5 : Int) (zx6 : Int) (w : Wd), Ti x2 zx2 → Ti x4 zx4 → Ti x5 zx5 → Ti x6 zx6 → IM T W H P S M w → (0 ≤ zx6 ∧ zx6 ≤ 7) → (8 - zx6) < M40 → k40 x2 x4 x5 x6 w) (hp : ∀ (r : Int32) (zr : Int) (w9 : Wd) (M9 : Int), Ti r zr → IM T W H P S M9 w9 → post r w9) : ∀ (n : Nat) (x2 : Int32) (x4 : Int32) (x5 : Int32) (x6 : Int32) (x7 : Int32) (x8 : Int32) (zx2 : Int) (zx4 : Int) (zx5 : Int) (zx6 : Int) (zx7 : Int) (zx8 : Int) (w : Wd), Ti x2 zx2 → Ti x4 zx4 → Ti x5 zx5 → Ti x6 zx6 → Ti x7 zx7 → Ti x8 zx8 → IM T W H P S M w → (0 ≤ zx8 ∧ zx8 ≤ 7) → (zx6 ≤ 6) → (0 ≤ zx6 ∧ zx6 ≤ 7) → ((8 - zx6) ≤ M40) → (8 - zx8) < (n : Int) → pX11_clans_55 k40  post  n x2 x4 x5 x6 x7 x8 w := by
  intro n
  induction n with
  | zero =>
    intro x2 x4 x5 x6 x7 x8 zx2 zx4 zx5 zx6 zx7 zx8 w tx2 tx4 tx5 tx6 tx7 tx8 hI h0 h1 h2 h3 hm
    exact absurd hm (by omega)
  | succ n ih =>
    intro x2 x4 x5 x6 x7 x8 zx2 zx4 zx5 zx6 zx7 zx8 w tx2 tx4 tx5 tx6 tx7 tx8 hI h0 h1 h2 h3 hm
    unfold pX11_clans_55
    have hk := im_k hI
    obtain ⟨z1450, t1451⟩ := t_any (w.1 300 63)
    have f1452 := img_63 hI t1451
    refine ⟨fun c1453 => ?_, fun c1453 => ?_⟩
    · replace c1453 := c_le t1451 tx8 c1453
      refine ⟨fun c1454 => ?_, fun c1454 => ?_⟩
      · replace c1454 := c_le tx7 lit_0 c1454
        unfold pX11_clans_104
        obtain ⟨z1455, t1456, f1457⟩ := t_add tx4 lit_0
        first | replace f1457 := f1457 (by omega) | clear f1457
        intro x4_1v836 ex4_1v836
        have tx4_1v836 : Ti x4_1v836 z1455 := by rw [ex4_1v836]; exact t1456
        refine ⟨fun c1458 => ?_, fun c1458 => ?_⟩
        · replace c1458 := c_le tx7 tx5 c1458
          unfold pX11_clans_118
          obtain ⟨z1459, t1460, f1461⟩ := t_add tx6 lit_1
          first | replace f1461 := f1461 (by omega) | clear f1461
          intro x6_1v837 ex6_1v837
          have tx6_1v837 : Ti x6_1v837 z1459 := by rw [ex6_1v837]; exact t1460
          exact hk40 _ _ _ _ _ _ _ _ _ tx2 tx4_1v836 tx5 tx6_1v837 hI (by omega) (by omega)
        · replace c1458 := c_nle tx7 tx5 c1458
          unfold pX11_clans_118
          obtain ⟨z1462, t1463, f1464⟩ := t_add tx6 lit_1
          first | replace f1464 := f1464 (by omega) | clear f1464
          intro x6_1v838 ex6_1v838
          have tx6_1v838 : Ti x6_1v838 z1462 := by rw [ex6_1v838]; exact t1463
          exact hk40 _ _ _ _ _ _ _ _ _ tx2 tx4_1v836 tx7 tx6_1v838 hI (by omega) (by omega)
      · replace c1454 := c_nle tx7 lit_0 c1454
        unfold pX11_clans_104
        obtain ⟨z1465, t1466, f1467⟩ := t_add tx4 lit_1
        first | replace f1467 := f1467 (by omega) | clear f1467
        intro x4_1v839 ex4_1v839
        have tx4_1v839 : Ti x4_1v839 z1465 := by rw [ex4_1v839]; exact t1466
        refine ⟨fun c1468 => ?_, fun c1468 => ?_⟩
        · replace c1468 := c_le tx7 tx5 c1468
          unfold pX11_clans_118
          obtain ⟨z1469, t1470, f1471⟩ := t_add tx6 lit_1
          first | replace f1471 := f1471 (by omega) | clear f1471
          intro x6_1v840 ex6_1v840
          have tx6_1v840 : Ti x6_1v840 z1469 := by rw [ex6_1v840]; exact t1470
          exact hk40 _ _ _ _ _ _ _ _ _ tx2 tx4_1v839 tx5 tx6_1v840 hI (by omega) (by omega)
        · replace c1468 := c_nle tx7 tx5 c1468
          unfold pX11_clans_118
          obtain ⟨z1472, t1473, f1474⟩ := t_add tx6 lit_1
          first | replace f1474 := f1474 (by omega) | clear f1474
          intro x6_1v841 ex6_1v841
          have tx6_1v841 : Ti x6_1v841 z1472 := by rw [ex6_1v841]; exact t1473
          exact hk40 _ _ _ _ _ _ _ _ _ tx2 tx4_1v839 tx7 tx6_1v841 hI (by omega) (by omega)
    · replace c1453 := c_nle t1451 tx8 c1453
      refine ⟨vp_of tx8 (by omega) (by omega), ?_⟩
      obtain ⟨z1475, t1476⟩ := t_any (w.2.1 365 x8.toNatClampNeg)
      refine ⟨fun c1478 => ?_, fun c1478 => ?_⟩
      · replace c1478 := c_neq t1476 tx6 c1478
        unfold pX11_clans_83
        obtain ⟨z1479, t1480, f1481⟩ := t_add tx7 lit_0
        first | replace f1481 := f1481 (by omega) | clear f1481
        intro x7_1v842 ex7_1v842
        have tx7_1v842 : Ti x7_1v842 z1479 := by rw [ex7_1v842]; exact t1480
        obtain ⟨z1482, t1483, f1484⟩ := t_add tx8 lit_1
        first | replace f1484 := f1484 (by omega) | clear f1484
        intro x8_2v843 ex8_2v843
        have tx8_2v843 : Ti x8_2v843 z1482 := by rw [ex8_2v843]; exact t1483
        exact ih _ _ _ _ _ _ _ _ _ _ _ _ _ tx2 tx4 tx5 tx6 tx7_1v842 tx8_2v843 hI (by omega) (by omega) (by omega) (by omega) (by omega)
      · replace c1478 := c_eq t1476 tx6 c1478
        unfold pX11_clans_83
        obtain ⟨z1485, t1486, f1487⟩ := t_add tx7 lit_1
        first | replace f1487 := f1487 (by omega) | clear f1487
        intro x7_1v844 ex7_1v844
        have tx7_1v844 : Ti x7_1v844 z1485 := by rw [ex7_1v844]; exact t1486
        obtain ⟨z1488, t1489, f1490⟩ := t_add tx8 lit_1
        first | replace f1490 := f1490 (by omega) | clear f1490
        intro x8_2v845 ex8_2v845
        have tx8_2v845 : Ti x8_2v845 z1488 := by rw [ex8_2v845]; exact t1489
        exact ih _ _ _ _ _ _ _ _ _ _ _ _ _ tx2 tx4 tx5 tx6 tx7_1v844 tx8_2v845 hI (by omega) (by omega) (by omega) (by omega) (by omega)
set_option maxHeartbeats 4000000 in
set_option maxRecDepth 100000 in
theorem sX11_clans_40 {T W H P S M : Int} {post : Int32 → Wd → Prop}   (hp : ∀ (r : Int32) (zr : Int) (w9 : Wd) (M9 : Int), Ti r zr → IM T W H P S M9 w9 → post r w9) : ∀ (n : Nat) (x2 : Int32) (x4 : Int32) (x5 : Int32) (x6 : Int32) (zx2 : Int) (zx4 : Int) (zx5 : Int) (zx6 : Int) (w : Wd), Ti x2 zx2 → Ti x4 zx4 → Ti x5 zx5 → Ti x6 zx6 → IM T W H P S M w → (0 ≤ zx6 ∧ zx6 ≤ 7) → (8 - zx6) < (n : Int) → pX11_clans_40   post  n x2 x4 x5 x6 w := by
  intro n
  induction n with
  | zero =>
    intro x2 x4 x5 x6 zx2 zx4 zx5 zx6 w tx2 tx4 tx5 tx6 hI h0 hm
    exact absurd hm (by omega)
  | succ n ih =>
    intro x2 x4 x5 x6 zx2 zx4 zx5 zx6 w tx2 tx4 tx5 tx6 hI h0 hm
    unfold pX11_clans_40
    have hk := im_k hI
    obtain ⟨z1491, t1492⟩ := t_any (w.1 300 63)
    have f1493 := img_63 hI t1492
    refine ⟨fun c1494 => ?_, fun c1494 => ?_⟩
    · replace c1494 := c_le t1492 tx6 c1494
      refine ⟨fun c1495 => ?_, fun c1495 => ?_⟩
      · replace c1495 := c_neq tx2 lit_0 c1495
        exact hp _ _ _ _ tx5 hI 
      · replace c1495 := c_eq tx2 lit_0 c1495
        exact hp _ _ _ _ tx4 hI 
    · replace c1494 := c_nle t1492 tx6 c1494
      exact ⟨70000, sX11_clans_55  (M40 := (n : Int)) (hk40 := ih)  (hp := hp) 70000 _ _ _ _ _ _ _ _ _ _ _ _ _ tx2 tx4 tx5 tx6 lit_0 lit_0 hI (by omega) (by omega) (by omega) (by omega) (by omega)⟩
set_option maxHeartbeats 4000000 in
set_option maxRecDepth 100000 in
theorem sX11_clans {T W H P S M : Int} {post : Int32 → Wd → Prop} {x1 : Int32} {zx1 : Int} {x2 : Int32} {zx2 : Int} {x3 : Int32} {zx3 : Int} {w : Wd}  (tx1 : Ti x1 zx1) (tx2 : Ti x2 zx2) (tx3 : Ti x3 zx3) (hI : IM T W H P S M w)  (hp : ∀ (r : Int32) (zr : Int) (w9 : Wd) (M9 : Int), Ti r zr → IM T W H P S M9 w9 → post r w9) : pX11_clans   post  x1 x2 x3 w := by
  unfold pX11_clans
  have hk := im_k hI
  refine sX11_isIn   (hI := hI) (tx0 := tx1) (tx1 := lit_0) (tx2 := lit_24)  (hp := fun r_1v846 zr_1v846 tr_1v846 p1496 p1497 => ?_)
  refine ⟨fun c1498 => ?_, fun c1498 => ?_⟩
  · replace c1498 := c_eq tr_1v846 lit_0 c1498
    exact hp _ _ _ _ lit_m1 hI 
  · replace c1498 := c_neq tr_1v846 lit_0 c1498
    refine sX11_isIn   (hI := hI) (tx0 := tx2) (tx1 := lit_0) (tx2 := lit_1)  (hp := fun r_4v852 zr_4v852 tr_4v852 p1499 p1500 => ?_)
    refine ⟨fun c1501 => ?_, fun c1501 => ?_⟩
    · replace c1501 := c_neq tr_4v852 lit_0 c1501
      refine sX11_laySamples   (hI := hI) (tx1 := tx3)  (hp := fun  w_7v856 g1502  hIw_7v856  => ?_)
      have f1503 := im_k hIw_7v856
      refine sX11_layClans   (hI := hIw_7v856) (tx1 := tx1)  (hp := fun  w_8v857   hIw_8v857  => ?_)
      exact ⟨70000, sX11_clans_40    (hp := hp) 70000 _ _ _ _ _ _ _ _ _ tx2 lit_0 lit_0 lit_0 hIw_8v857 (by omega) (by omega)⟩
    · replace c1501 := c_eq tr_4v852 lit_0 c1501
      exact hp _ _ _ _ lit_m1 hI 
set_option maxHeartbeats 4000000 in
set_option maxRecDepth 100000 in
theorem sX11_origin_37 {T W H P S M : Int} {k19 : Int32 → Int32 → Int32 → Int32 → Int32 → Wd → Prop} {M19 : Int} {post : Int32 → Wd → Prop} {w : Wd} (hk19 : ∀ (x1 : Int32) (x2 : Int32) (x3 : Int32) (x4 : Int32) (x5 : Int32) (zx1 : Int) (zx2 : Int) (zx3 : Int) (zx4 : Int) (zx5 : Int), Ti x1 zx1 → Ti x2 zx2 → Ti x3 zx3 → Ti x4 zx4 → Ti x5 zx5 → IM T W H P S M w → (0 ≤ zx5 ∧ zx5 ≤ 12) → (13 - zx5) < M19 → k19 x1 x2 x3 x4 x5 w) (hp : ∀ (r : Int32) (zr : Int), Ti r zr → post r w) : ∀ (n : Nat) (x1 : Int32) (x2 : Int32) (x3 : Int32) (x4 : Int32) (x5 : Int32) (x6 : Int32) (x7 : Int32) (x8 : Int32) (zx1 : Int) (zx2 : Int) (zx3 : Int) (zx4 : Int) (zx5 : Int) (zx6 : Int) (zx7 : Int) (zx8 : Int), Ti x1 zx1 → Ti x2 zx2 → Ti x3 zx3 → Ti x4 zx4 → Ti x5 zx5 → Ti x6 zx6 → Ti x7 zx7 → Ti x8 zx8 → IM T W H P S M w → (0 ≤ zx8 ∧ zx8 ≤ 40) → (zx5 < W) → (0 ≤ zx5 ∧ zx5 ≤ 12) → ((13 - zx5) ≤ M19) → (41 - zx8) < (n : Int) → pX11_origin_37 k19  post  n x1 x2 x3 x4 x5 x6 x7 x8 w := by
  intro n
  induction n with
  | zero =>
    intro x1 x2 x3 x4 x5 x6 x7 x8 zx1 zx2 zx3 zx4 zx5 zx6 zx7 zx8  tx1 tx2 tx3 tx4 tx5 tx6 tx7 tx8 hI h0 h1 h2 h3 hm
    exact absurd hm (by omega)
  | succ n ih =>
    intro x1 x2 x3 x4 x5 x6 x7 x8 zx1 zx2 zx3 zx4 zx5 zx6 zx7 zx8  tx1 tx2 tx3 tx4 tx5 tx6 tx7 tx8 hI h0 h1 h2 h3 hm
    unfold pX11_origin_37
    have hk := im_k hI
    obtain ⟨z1504, t1505⟩ := t_any (w.1 300 58)
    have f1506 := img_58 hI t1505
    refine ⟨fun c1507 => ?_, fun c1507 => ?_⟩
    · replace c1507 := c_le t1505 tx8 c1507
      obtain ⟨z1508, t1509, f1510⟩ := t_mul lit_2 tx6
      first | replace f1510 := f1510 (by omega) | clear f1510
      refine ⟨fun c1511 => ?_, fun c1511 => ?_⟩
      · replace c1511 := c_le t1509 tx7 c1511
        unfold pX11_origin_136
        refine ⟨fun c1512 => ?_, fun c1512 => ?_⟩
        · replace c1512 := c_le t1509 tx7 c1512
          unfold pX11_origin_156
          obtain ⟨z1513, t1514, f1515⟩ := t_add tx4 t1509
          first | replace f1515 := f1515 (by omega) | clear f1515
          intro x4_1v863 ex4_1v863
          have tx4_1v863 : Ti x4_1v863 z1513 := by rw [ex4_1v863]; exact t1514
          obtain ⟨z1516, t1517, f1518⟩ := t_add tx5 lit_1
          first | replace f1518 := f1518 (by omega) | clear f1518
          intro x5_2v864 ex5_2v864
          have tx5_2v864 : Ti x5_2v864 z1516 := by rw [ex5_2v864]; exact t1517
          exact hk19 _ _ _ _ _ _ _ _ _ _  tx1 tx2 tx3 tx4_1v863 tx5_2v864 hI (by omega) (by omega)
        · replace c1512 := c_nle t1509 tx7 c1512
          unfold pX11_origin_156
          obtain ⟨z1519, t1520, f1521⟩ := t_add tx4 tx7
          first | replace f1521 := f1521 (by omega) | clear f1521
          intro x4_1v865 ex4_1v865
          have tx4_1v865 : Ti x4_1v865 z1519 := by rw [ex4_1v865]; exact t1520
          obtain ⟨z1522, t1523, f1524⟩ := t_add tx5 lit_1
          first | replace f1524 := f1524 (by omega) | clear f1524
          intro x5_2v866 ex5_2v866
          have tx5_2v866 : Ti x5_2v866 z1522 := by rw [ex5_2v866]; exact t1523
          exact hk19 _ _ _ _ _ _ _ _ _ _  tx1 tx2 tx3 tx4_1v865 tx5_2v866 hI (by omega) (by omega)
      · replace c1511 := c_nle t1509 tx7 c1511
        obtain ⟨z1525, t1526, f1527⟩ := t_shlW hI tx5
        first | replace f1527 := f1527 (by omega) | clear f1527
        obtain ⟨z1528, t1529, f1530⟩ := t_orW hI tx3 t1526
        first | replace f1530 := f1530 (by omega) | clear f1530
        intro x3_3v858 ex3_3v858
        have tx3_3v858 : Ti x3_3v858 z1528 := by rw [ex3_3v858]; exact t1529
        unfold pX11_origin_136
        refine ⟨fun c1531 => ?_, fun c1531 => ?_⟩
        · replace c1531 := c_le t1509 tx7 c1531
          unfold pX11_origin_156
          obtain ⟨z1532, t1533, f1534⟩ := t_add tx4 t1509
          first | replace f1534 := f1534 (by omega) | clear f1534
          intro x4_1v867 ex4_1v867
          have tx4_1v867 : Ti x4_1v867 z1532 := by rw [ex4_1v867]; exact t1533
          obtain ⟨z1535, t1536, f1537⟩ := t_add tx5 lit_1
          first | replace f1537 := f1537 (by omega) | clear f1537
          intro x5_2v868 ex5_2v868
          have tx5_2v868 : Ti x5_2v868 z1535 := by rw [ex5_2v868]; exact t1536
          exact hk19 _ _ _ _ _ _ _ _ _ _  tx1 tx2 tx3_3v858 tx4_1v867 tx5_2v868 hI (by omega) (by omega)
        · replace c1531 := c_nle t1509 tx7 c1531
          unfold pX11_origin_156
          obtain ⟨z1538, t1539, f1540⟩ := t_add tx4 tx7
          first | replace f1540 := f1540 (by omega) | clear f1540
          intro x4_1v869 ex4_1v869
          have tx4_1v869 : Ti x4_1v869 z1538 := by rw [ex4_1v869]; exact t1539
          obtain ⟨z1541, t1542, f1543⟩ := t_add tx5 lit_1
          first | replace f1543 := f1543 (by omega) | clear f1543
          intro x5_2v870 ex5_2v870
          have tx5_2v870 : Ti x5_2v870 z1541 := by rw [ex5_2v870]; exact t1542
          exact hk19 _ _ _ _ _ _ _ _ _ _  tx1 tx2 tx3_3v858 tx4_1v869 tx5_2v870 hI (by omega) (by omega)
    · replace c1507 := c_nle t1505 tx8 c1507
      refine sX11_counts   (hI := hI) (tx1 := tx8) (tx2 := lit_0) (tx3 := tx2) (h0 := (by omega)) (hp := fun r_4v859 zr_4v859 tr_4v859 p1544 => ?_)
      refine ⟨fun c1545 => ?_, fun c1545 => ?_⟩
      · replace c1545 := c_neq tr_4v859 lit_0 c1545
        refine ⟨vp_of tx8 (by omega) (by omega), ?_⟩
        obtain ⟨z1546, t1547⟩ := t_any (w.2.1 355 x8.toNatClampNeg)
        refine ⟨fun c1549 => ?_, fun c1549 => ?_⟩
        · replace c1549 := c_neq t1547 lit_1 c1549
          refine ⟨vp_of tx8 (by omega) (by omega), ?_⟩
          unfold pX11_origin_92
          obtain ⟨z1550, t1551, f1552⟩ := t_and (x := ((w.2.1 354 x8.toNatClampNeg) >>> (x5 &&& 31))) lit_1 (by decide)
          refine ⟨fun c1553 => ?_, fun c1553 => ?_⟩
          · replace c1553 := c_neq t1551 lit_1 c1553
            obtain ⟨z1554, t1555, f1556⟩ := t_add tx7 lit_1
            first | replace f1556 := f1556 (by omega) | clear f1556
            intro x7_2v873 ex7_2v873
            have tx7_2v873 : Ti x7_2v873 z1554 := by rw [ex7_2v873]; exact t1555
            unfold pX11_origin_114
            obtain ⟨z1557, t1558, f1559⟩ := t_add tx8 lit_1
            first | replace f1559 := f1559 (by omega) | clear f1559
            intro x8_1v875 ex8_1v875
            have tx8_1v875 : Ti x8_1v875 z1557 := by rw [ex8_1v875]; exact t1558
            exact ih _ _ _ _ _ _ _ _ _ _ _ _ _ _ _ _  tx1 tx2 tx3 tx4 tx5 tx6 tx7_2v873 tx8_1v875 hI (by omega) (by omega) (by omega) (by omega) (by omega)
          · replace c1553 := c_eq t1551 lit_1 c1553
            obtain ⟨z1560, t1561, f1562⟩ := t_add tx6 lit_1
            first | replace f1562 := f1562 (by omega) | clear f1562
            intro x6_3v874 ex6_3v874
            have tx6_3v874 : Ti x6_3v874 z1560 := by rw [ex6_3v874]; exact t1561
            unfold pX11_origin_114
            obtain ⟨z1563, t1564, f1565⟩ := t_add tx8 lit_1
            first | replace f1565 := f1565 (by omega) | clear f1565
            intro x8_1v876 ex8_1v876
            have tx8_1v876 : Ti x8_1v876 z1563 := by rw [ex8_1v876]; exact t1564
            exact ih _ _ _ _ _ _ _ _ _ _ _ _ _ _ _ _  tx1 tx2 tx3 tx4 tx5 tx6_3v874 tx7 tx8_1v876 hI (by omega) (by omega) (by omega) (by omega) (by omega)
        · replace c1549 := c_eq t1547 lit_1 c1549
          refine ⟨vp_of tx8 (by omega) (by omega), ?_⟩
          obtain ⟨z1566, t1567⟩ := t_any (w.2.1 354 x8.toNatClampNeg)
          refine sX11_turnedRow   (hI := hI) (tx1 := t1567)  (hp := fun r_8v871 zr_8v871 tr_8v871 => ?_)
          unfold pX11_origin_92
          obtain ⟨z1569, t1570, f1571⟩ := t_and (x := (r_8v871 >>> (x5 &&& 31))) lit_1 (by decide)
          refine ⟨fun c1572 => ?_, fun c1572 => ?_⟩
          · replace c1572 := c_neq t1570 lit_1 c1572
            obtain ⟨z1573, t1574, f1575⟩ := t_add tx7 lit_1
            first | replace f1575 := f1575 (by omega) | clear f1575
            intro x7_2v877 ex7_2v877
            have tx7_2v877 : Ti x7_2v877 z1573 := by rw [ex7_2v877]; exact t1574
            unfold pX11_origin_114
            obtain ⟨z1576, t1577, f1578⟩ := t_add tx8 lit_1
            first | replace f1578 := f1578 (by omega) | clear f1578
            intro x8_1v879 ex8_1v879
            have tx8_1v879 : Ti x8_1v879 z1576 := by rw [ex8_1v879]; exact t1577
            exact ih _ _ _ _ _ _ _ _ _ _ _ _ _ _ _ _  tx1 tx2 tx3 tx4 tx5 tx6 tx7_2v877 tx8_1v879 hI (by omega) (by omega) (by omega) (by omega) (by omega)
          · replace c1572 := c_eq t1570 lit_1 c1572
            obtain ⟨z1579, t1580, f1581⟩ := t_add tx6 lit_1
            first | replace f1581 := f1581 (by omega) | clear f1581
            intro x6_3v878 ex6_3v878
            have tx6_3v878 : Ti x6_3v878 z1579 := by rw [ex6_3v878]; exact t1580
            unfold pX11_origin_114
            obtain ⟨z1582, t1583, f1584⟩ := t_add tx8 lit_1
            first | replace f1584 := f1584 (by omega) | clear f1584
            intro x8_1v880 ex8_1v880
            have tx8_1v880 : Ti x8_1v880 z1582 := by rw [ex8_1v880]; exact t1583
            exact ih _ _ _ _ _ _ _ _ _ _ _ _ _ _ _ _  tx1 tx2 tx3 tx4 tx5 tx6_3v878 tx7 tx8_1v880 hI (by omega) (by omega) (by omega) (by omega) (by omega)
      · replace c1545 := c_eq tr_4v859 lit_0 c1545
        unfold pX11_origin_114
        obtain ⟨z1585, t1586, f1587⟩ := t_add tx8 lit_1
        first | replace f1587 := f1587 (by omega) | clear f1587
        intro x8_1v881 ex8_1v881
        have tx8_1v881 : Ti x8_1v881 z1585 := by rw [ex8_1v881]; exact t1586
        exact ih _ _ _ _ _ _ _ _ _ _ _ _ _ _ _ _  tx1 tx2 tx3 tx4 tx5 tx6 tx7 tx8_1v881 hI (by omega) (by omega) (by omega) (by omega) (by omega)
set_option maxHeartbeats 4000000 in
set_option maxRecDepth 100000 in
theorem sX11_origin_19 {T W H P S M : Int} {post : Int32 → Wd → Prop} {w : Wd}  (hp : ∀ (r : Int32) (zr : Int), Ti r zr → post r w) : ∀ (n : Nat) (x1 : Int32) (x2 : Int32) (x3 : Int32) (x4 : Int32) (x5 : Int32) (zx1 : Int) (zx2 : Int) (zx3 : Int) (zx4 : Int) (zx5 : Int), Ti x1 zx1 → Ti x2 zx2 → Ti x3 zx3 → Ti x4 zx4 → Ti x5 zx5 → IM T W H P S M w → (0 ≤ zx5 ∧ zx5 ≤ 12) → (13 - zx5) < (n : Int) → pX11_origin_19   post  n x1 x2 x3 x4 x5 w := by
  intro n
  induction n with
  | zero =>
    intro x1 x2 x3 x4 x5 zx1 zx2 zx3 zx4 zx5  tx1 tx2 tx3 tx4 tx5 hI h0 hm
    exact absurd hm (by omega)
  | succ n ih =>
    intro x1 x2 x3 x4 x5 zx1 zx2 zx3 zx4 zx5  tx1 tx2 tx3 tx4 tx5 hI h0 hm
    unfold pX11_origin_19
    have hk := im_k hI
    refine sX11_width   (hI := hI)   (hp := fun r_1v882 zr_1v882 tr_1v882 p1588 => ?_)
    refine ⟨fun c1589 => ?_, fun c1589 => ?_⟩
    · replace c1589 := c_le tr_1v882 tx5 c1589
      refine ⟨fun c1590 => ?_, fun c1590 => ?_⟩
      · replace c1590 := c_neq tx1 lit_0 c1590
        exact hp _ _ tx4 
      · replace c1590 := c_eq tx1 lit_0 c1590
        exact hp _ _ tx3 
    · replace c1589 := c_nle tr_1v882 tx5 c1589
      exact ⟨70000, sX11_origin_37  (M19 := (n : Int)) (hk19 := ih)  (hp := hp) 70000 _ _ _ _ _ _ _ _ _ _ _ _ _ _ _ _  tx1 tx2 tx3 tx4 tx5 lit_0 lit_0 lit_0 hI (by omega) (by omega) (by omega) (by omega) (by omega)⟩
set_option maxHeartbeats 4000000 in
set_option maxRecDepth 100000 in
theorem sX11_origin {T W H P S M : Int} {post : Int32 → Wd → Prop} {x1 : Int32} {zx1 : Int} {x2 : Int32} {zx2 : Int} {w : Wd}  (tx1 : Ti x1 zx1) (tx2 : Ti x2 zx2) (hI : IM T W H P S M w)  (hp : ∀ (r : Int32) (zr : Int), Ti r zr → post r w) : pX11_origin   post  x1 x2 w := by
  unfold pX11_origin
  have hk := im_k hI
  refine sX11_isIn   (hI := hI) (tx0 := tx1) (tx1 := lit_0) (tx2 := lit_1)  (hp := fun r_1v884 zr_1v884 tr_1v884 p1591 p1592 => ?_)
  refine ⟨fun c1593 => ?_, fun c1593 => ?_⟩
  · replace c1593 := c_neq tr_1v884 lit_0 c1593
    exact ⟨70000, sX11_origin_19    (hp := hp) 70000 _ _ _ _ _ _ _ _ _ _  tx1 tx2 lit_0 lit_0 lit_0 hI (by omega) (by omega)⟩
  · replace c1593 := c_eq tr_1v884 lit_0 c1593
    exact hp _ _ lit_m1 
set_option maxHeartbeats 4000000 in
set_option maxRecDepth 100000 in
theorem sX11_isFalse {T W H P S M : Int} {post : Int32 → Wd → Prop} {x1 : Int32} {zx1 : Int} {w : Wd}  (tx1 : Ti x1 zx1) (hI : IM T W H P S M w) (h0 : 0 ≤ zx1 ∧ zx1 ≤ 39) (hp : ∀ (r : Int32) (zr : Int), Ti r zr → post r w) : pX11_isFalse   post  x1 w := by
  unfold pX11_isFalse
  have hk := im_k hI
  refine ⟨vp_of tx1 (by omega) (by omega), ?_⟩
  obtain ⟨z1594, t1595⟩ := t_any (w.2.1 355 x1.toNatClampNeg)
  refine sX11_isSeal   (hI := hI) (tx1 := t1595)  (hp := fun r_1v886 zr_1v886 tr_1v886 p1597 => ?_)
  refine ⟨fun c1598 => ?_, fun c1598 => ?_⟩
  · replace c1598 := c_neq tr_1v886 lit_0 c1598
    refine ⟨vp_of tx1 (by omega) (by omega), ?_⟩
    refine ⟨vp_of tx1 (by omega) (by omega), ?_⟩
    refine sX11_rowOf   (hI := hI) (tx1 := t1595) (h0 := (by omega)) (hp := fun r_4v892 zr_4v892 tr_4v892 p1599 => ?_)
    refine sX11_turnedRow   (hI := hI) (tx1 := tr_4v892)  (hp := fun r_6v896 zr_6v896 tr_6v896 => ?_)
    obtain ⟨z1600, t1601⟩ := t_any ((w.2.1 354 x1.toNatClampNeg) &&& (r_6v896 ^^^ (-1 : Int32)))
    refine ⟨fun c1602 => ?_, fun c1602 => ?_⟩
    · replace c1602 := c_neq t1601 lit_0 c1602
      exact hp _ _ lit_1 
    · replace c1602 := c_eq t1601 lit_0 c1602
      refine ⟨vp_of tx1 (by omega) (by omega), ?_⟩
      refine ⟨vp_of tx1 (by omega) (by omega), ?_⟩
      obtain ⟨z1603, t1604, f1605⟩ := t_mul lit_4 t1595
      first | replace f1605 := f1605 (by omega) | clear f1605
      obtain ⟨z1606, t1607, f1608⟩ := t_add t1604 lit_3
      first | replace f1608 := f1608 (by omega) | clear f1608
      refine ⟨vp_of t1607 (by omega) (by omega), ?_⟩
      obtain ⟨z1609, t1610⟩ := t_any (w.2.1 341 (((4 : Int32) * (w.2.1 355 x1.toNatClampNeg)) + (3 : Int32)).toNatClampNeg)
      obtain ⟨z1612, t1613⟩ := t_any (w.2.1 356 x1.toNatClampNeg)
      refine ⟨fun c1615 => ?_, fun c1615 => ?_⟩
      · replace c1615 := c_le t1610 t1613 c1615
        exact hp _ _ lit_0 
      · replace c1615 := c_nle t1610 t1613 c1615
        exact hp _ _ lit_1 
  · replace c1598 := c_eq tr_1v886 lit_0 c1598
    exact hp _ _ lit_1 
set_option maxHeartbeats 4000000 in
set_option maxRecDepth 100000 in
theorem sX11_falses_9 {T W H P S M : Int} {post : Int32 → Wd → Prop}   (hp : ∀ (r : Int32) (zr : Int) (w9 : Wd), Ti r zr → IM T W H P S M w9 → post r w9) : ∀ (n : Nat) (x1 : Int32) (x2 : Int32) (x3 : Int32) (zx1 : Int) (zx2 : Int) (zx3 : Int) (w : Wd), Ti x1 zx1 → Ti x2 zx2 → Ti x3 zx3 → IM T W H P S M w → (0 ≤ zx3 ∧ zx3 ≤ 40) → (Rg (w.1 300 48) 0 8) → (41 - zx3) < (n : Int) → pX11_falses_9   post  n x1 x2 x3 w := by
  intro n
  induction n with
  | zero =>
    intro x1 x2 x3 zx1 zx2 zx3 w tx1 tx2 tx3 hI h0 h1 hm
    exact absurd hm (by omega)
  | succ n ih =>
    intro x1 x2 x3 zx1 zx2 zx3 w tx1 tx2 tx3 hI h0 h1 hm
    unfold pX11_falses_9
    have hk := im_k hI
    obtain ⟨z1616, t1617⟩ := t_any (w.1 300 48)
    have f1618 := img_48 hI t1617
    have f1619 := Rg.g h1 t1617
    obtain ⟨z1620, t1621⟩ := t_any (w.1 300 58)
    have f1622 := img_58 hI t1621
    refine ⟨fun c1623 => ?_, fun c1623 => ?_⟩
    · replace c1623 := c_le t1621 tx3 c1623
      exact hp _ _ _  tx2 hI 
    · replace c1623 := c_nle t1621 tx3 c1623
      refine sX11_counts   (hI := hI) (tx1 := tx3) (tx2 := lit_1) (tx3 := tx1) (h0 := (by omega)) (hp := fun r_2v898 zr_2v898 tr_2v898 p1624 => ?_)
      refine ⟨fun c1625 => ?_, fun c1625 => ?_⟩
      · replace c1625 := c_eq tr_2v898 lit_0 c1625
        unfold pX11_falses_73
        obtain ⟨z1626, t1627, f1628⟩ := t_add tx3 lit_1
        first | replace f1628 := f1628 (by omega) | clear f1628
        intro x3_1v910 ex3_1v910
        have tx3_1v910 : Ti x3_1v910 z1626 := by rw [ex3_1v910]; exact t1627
        exact ih _ _ _ _ _ _ _ tx1 tx2 tx3_1v910 hI (by omega) (Rg.m t1617 (by omega) (by omega)) (by omega)
      · replace c1625 := c_neq tr_2v898 lit_0 c1625
        refine sX11_isFalse   (hI := hI) (tx1 := tx3) (h0 := (by omega)) (hp := fun r_5v905 zr_5v905 tr_5v905 => ?_)
        refine ⟨fun c1629 => ?_, fun c1629 => ?_⟩
        · replace c1629 := c_neq tr_5v905 lit_0 c1629
          obtain ⟨z1630, t1631, f1632⟩ := t_add tx2 lit_1
          first | replace f1632 := f1632 (by omega) | clear f1632
          intro x2_8v911 ex2_8v911
          have tx2_8v911 : Ti x2_8v911 z1630 := by rw [ex2_8v911]; exact t1631
          refine ⟨fun c1633 => ?_, fun c1633 => ?_⟩
          · replace c1633 := c_neq t1617 lit_8 c1633
            refine ⟨vp_of t1617 (by omega) (by omega), ?_⟩
            intro w_10v912 ew_10v912
            have hIw_10v912 := ims_A hI ew_10v912 (by decide)
            intro w_11v913 ew_11v913
            have t1634 : Ti (w_10v912.1 300 48) z1616 := by rw [e1_A ew_10v912]; exact t1617
            obtain ⟨z1635, t1636, f1637⟩ := t_add t1634 lit_1
            first | replace f1637 := f1637 (by omega) | clear f1637
            have hIw_11v913 := ims_48 hIw_10v912 ew_11v913 t1636 (by omega) (by omega)
            unfold pX11_falses_73
            obtain ⟨z1638, t1639, f1640⟩ := t_add tx3 lit_1
            first | replace f1640 := f1640 (by omega) | clear f1640
            intro x3_1v914 ex3_1v914
            have tx3_1v914 : Ti x3_1v914 z1638 := by rw [ex3_1v914]; exact t1639
            have t1641 : Ti (w_11v913.1 300 48) z1635 := by rw [ew_11v913, sI_at]; exact t1636
            exact ih _ _ _ _ _ _ _ tx1 tx2_8v911 tx3_1v914 hIw_11v913 (by omega) (Rg.m t1641 (by omega) (by omega)) (by omega)
          · replace c1633 := c_eq t1617 lit_8 c1633
            unfold pX11_falses_73
            obtain ⟨z1642, t1643, f1644⟩ := t_add tx3 lit_1
            first | replace f1644 := f1644 (by omega) | clear f1644
            intro x3_1v915 ex3_1v915
            have tx3_1v915 : Ti x3_1v915 z1642 := by rw [ex3_1v915]; exact t1643
            exact ih _ _ _ _ _ _ _ tx1 tx2_8v911 tx3_1v915 hI (by omega) (Rg.m t1617 (by omega) (by omega)) (by omega)
        · replace c1629 := c_eq tr_5v905 lit_0 c1629
          unfold pX11_falses_73
          obtain ⟨z1645, t1646, f1647⟩ := t_add tx3 lit_1
          first | replace f1647 := f1647 (by omega) | clear f1647
          intro x3_1v916 ex3_1v916
          have tx3_1v916 : Ti x3_1v916 z1645 := by rw [ex3_1v916]; exact t1646
          exact ih _ _ _ _ _ _ _ tx1 tx2 tx3_1v916 hI (by omega) (Rg.m t1617 (by omega) (by omega)) (by omega)
set_option maxHeartbeats 4000000 in
set_option maxRecDepth 100000 in
theorem sX11_falses {T W H P S M : Int} {post : Int32 → Wd → Prop} {x1 : Int32} {zx1 : Int} {w : Wd}  (tx1 : Ti x1 zx1) (hI : IM T W H P S M w)  (hp : ∀ (r : Int32) (zr : Int) (w9 : Wd), Ti r zr → IM T W H P S M w9 → post r w9) : pX11_falses   post  x1 w := by
  unfold pX11_falses
  have hk := im_k hI
  intro w_1v917 ew_1v917
  have hIw_1v917 := ims_48 hI ew_1v917 lit_0 (by omega) (by omega)
  have t1648 : Ti (w_1v917.1 300 48) 0 := by rw [ew_1v917, sI_at]; exact lit_0
  exact ⟨70000, sX11_falses_9    (hp := hp) 70000 _ _ _ _ _ _ _ tx1 lit_0 lit_0 hIw_1v917 (by omega) (Rg.m t1648 (by omega) (by omega)) (by omega)⟩
set_option maxHeartbeats 4000000 in
set_option maxRecDepth 100000 in
theorem sX11_span_36 {T W H P S M : Int} {post : Int32 → Wd → Prop} {w : Wd}  (hp : ∀ (r : Int32) (zr : Int), Ti r zr → post r w) : ∀ (n : Nat) (x1 : Int32) (x2 : Int32) (x3 : Int32) (x4 : Int32) (x5 : Int32) (x6 : Int32) (zx1 : Int) (zx2 : Int) (zx3 : Int) (zx4 : Int) (zx5 : Int) (zx6 : Int), Ti x1 zx1 → Ti x2 zx2 → Ti x3 zx3 → Ti x4 zx4 → Ti x5 zx5 → Ti x6 zx6 → IM T W H P S M w → (0 ≤ zx6 ∧ zx6 ≤ 40) → (41 - zx6) < (n : Int) → pX11_span_36   post  n x1 x2 x3 x4 x5 x6 w := by
  intro n
  induction n with
  | zero =>
    intro x1 x2 x3 x4 x5 x6 zx1 zx2 zx3 zx4 zx5 zx6  tx1 tx2 tx3 tx4 tx5 tx6 hI h0 hm
    exact absurd hm (by omega)
  | succ n ih =>
    intro x1 x2 x3 x4 x5 x6 zx1 zx2 zx3 zx4 zx5 zx6  tx1 tx2 tx3 tx4 tx5 tx6 hI h0 hm
    unfold pX11_span_36
    have hk := im_k hI
    obtain ⟨z1649, t1650⟩ := t_any (w.1 300 58)
    have f1651 := img_58 hI t1650
    refine ⟨fun c1652 => ?_, fun c1652 => ?_⟩
    · replace c1652 := c_le t1650 tx6 c1652
      refine ⟨fun c1653 => ?_, fun c1653 => ?_⟩
      · replace c1653 := c_neq tx2 lit_2 c1653
        refine ⟨fun c1654 => ?_, fun c1654 => ?_⟩
        · replace c1654 := c_le tx4 tx5 c1654
          refine ⟨fun c1655 => ?_, fun c1655 => ?_⟩
          · replace c1655 := c_neq tx2 lit_0 c1655
            exact hp _ _ tx5 
          · replace c1655 := c_eq tx2 lit_0 c1655
            exact hp _ _ tx4 
        · replace c1654 := c_nle tx4 tx5 c1654
          exact hp _ _ lit_m1 
      · replace c1653 := c_eq tx2 lit_2 c1653
        refine ⟨fun c1656 => ?_, fun c1656 => ?_⟩
        · replace c1656 := c_le tx4 tx5 c1656
          obtain ⟨z1657, t1658, f1659⟩ := t_sub tx5 tx4
          first | replace f1659 := f1659 (by omega) | clear f1659
          obtain ⟨z1660, t1661, f1662⟩ := t_add t1658 lit_1
          first | replace f1662 := f1662 (by omega) | clear f1662
          exact hp _ _ t1661 
        · replace c1656 := c_nle tx4 tx5 c1656
          exact hp _ _ lit_0 
    · replace c1652 := c_nle t1650 tx6 c1652
      refine sX11_counts   (hI := hI) (tx1 := tx6) (tx2 := lit_2) (tx3 := tx3) (h0 := (by omega)) (hp := fun r_6v918 zr_6v918 tr_6v918 p1663 => ?_)
      refine ⟨fun c1664 => ?_, fun c1664 => ?_⟩
      · replace c1664 := c_eq tr_6v918 lit_0 c1664
        unfold pX11_span_137
        obtain ⟨z1665, t1666, f1667⟩ := t_add tx6 lit_1
        first | replace f1667 := f1667 (by omega) | clear f1667
        intro x6_1v922 ex6_1v922
        have tx6_1v922 : Ti x6_1v922 z1665 := by rw [ex6_1v922]; exact t1666
        exact ih _ _ _ _ _ _ _ _ _ _ _ _  tx1 tx2 tx3 tx4 tx5 tx6_1v922 hI (by omega) (by omega)
      · replace c1664 := c_neq tr_6v918 lit_0 c1664
        refine ⟨vp_of tx6 (by omega) (by omega), ?_⟩
        obtain ⟨z1668, t1669⟩ := t_any (w.2.1 354 x6.toNatClampNeg)
        refine ⟨fun c1671 => ?_, fun c1671 => ?_⟩
        · replace c1671 := c_eq t1669 tx1 c1671
          refine ⟨vp_of tx6 (by omega) (by omega), ?_⟩
          obtain ⟨z1672, t1673⟩ := t_any (w.2.1 356 x6.toNatClampNeg)
          refine ⟨fun c1675 => ?_, fun c1675 => ?_⟩
          · replace c1675 := c_neq t1673 lit_1 c1675
            unfold pX11_span_106
            refine ⟨vp_of tx6 (by omega) (by omega), ?_⟩
            refine ⟨fun c1676 => ?_, fun c1676 => ?_⟩
            · replace c1676 := c_neq t1673 lit_0 c1676
              unfold pX11_span_137
              obtain ⟨z1677, t1678, f1679⟩ := t_add tx6 lit_1
              first | replace f1679 := f1679 (by omega) | clear f1679
              intro x6_1v924 ex6_1v924
              have tx6_1v924 : Ti x6_1v924 z1677 := by rw [ex6_1v924]; exact t1678
              exact ih _ _ _ _ _ _ _ _ _ _ _ _  tx1 tx2 tx3 tx4 tx5 tx6_1v924 hI (by omega) (by omega)
            · replace c1676 := c_eq t1673 lit_0 c1676
              refine ⟨vp_of tx6 (by omega) (by omega), ?_⟩
              obtain ⟨z1680, t1681⟩ := t_any (w.2.1 355 x6.toNatClampNeg)
              refine ⟨fun c1683 => ?_, fun c1683 => ?_⟩
              · replace c1683 := c_le tx5 t1681 c1683
                unfold pX11_span_137
                obtain ⟨z1684, t1685, f1686⟩ := t_add tx6 lit_1
                first | replace f1686 := f1686 (by omega) | clear f1686
                intro x6_1v925 ex6_1v925
                have tx6_1v925 : Ti x6_1v925 z1684 := by rw [ex6_1v925]; exact t1685
                exact ih _ _ _ _ _ _ _ _ _ _ _ _  tx1 tx2 tx3 tx4 tx5 tx6_1v925 hI (by omega) (by omega)
              · replace c1683 := c_nle tx5 t1681 c1683
                refine ⟨vp_of tx6 (by omega) (by omega), ?_⟩
                intro x5_3v923 ex5_3v923
                have tx5_3v923 : Ti x5_3v923 z1680 := by rw [ex5_3v923]; exact t1681
                unfold pX11_span_137
                obtain ⟨z1687, t1688, f1689⟩ := t_add tx6 lit_1
                first | replace f1689 := f1689 (by omega) | clear f1689
                intro x6_1v926 ex6_1v926
                have tx6_1v926 : Ti x6_1v926 z1687 := by rw [ex6_1v926]; exact t1688
                exact ih _ _ _ _ _ _ _ _ _ _ _ _  tx1 tx2 tx3 tx4 tx5_3v923 tx6_1v926 hI (by omega) (by omega)
          · replace c1675 := c_eq t1673 lit_1 c1675
            refine ⟨vp_of tx6 (by omega) (by omega), ?_⟩
            obtain ⟨z1690, t1691⟩ := t_any (w.2.1 355 x6.toNatClampNeg)
            obtain ⟨z1693, t1694, f1695⟩ := t_add t1691 lit_1
            first | replace f1695 := f1695 (by omega) | clear f1695
            refine ⟨fun c1696 => ?_, fun c1696 => ?_⟩
            · replace c1696 := c_le t1694 tx4 c1696
              unfold pX11_span_106
              refine ⟨vp_of tx6 (by omega) (by omega), ?_⟩
              refine ⟨fun c1697 => ?_, fun c1697 => ?_⟩
              · replace c1697 := c_neq t1673 lit_0 c1697
                unfold pX11_span_137
                obtain ⟨z1698, t1699, f1700⟩ := t_add tx6 lit_1
                first | replace f1700 := f1700 (by omega) | clear f1700
                intro x6_1v928 ex6_1v928
                have tx6_1v928 : Ti x6_1v928 z1698 := by rw [ex6_1v928]; exact t1699
                exact ih _ _ _ _ _ _ _ _ _ _ _ _  tx1 tx2 tx3 tx4 tx5 tx6_1v928 hI (by omega) (by omega)
              · replace c1697 := c_eq t1673 lit_0 c1697
                refine ⟨vp_of tx6 (by omega) (by omega), ?_⟩
                refine ⟨fun c1701 => ?_, fun c1701 => ?_⟩
                · replace c1701 := c_le tx5 t1691 c1701
                  unfold pX11_span_137
                  obtain ⟨z1702, t1703, f1704⟩ := t_add tx6 lit_1
                  first | replace f1704 := f1704 (by omega) | clear f1704
                  intro x6_1v929 ex6_1v929
                  have tx6_1v929 : Ti x6_1v929 z1702 := by rw [ex6_1v929]; exact t1703
                  exact ih _ _ _ _ _ _ _ _ _ _ _ _  tx1 tx2 tx3 tx4 tx5 tx6_1v929 hI (by omega) (by omega)
                · replace c1701 := c_nle tx5 t1691 c1701
                  refine ⟨vp_of tx6 (by omega) (by omega), ?_⟩
                  intro x5_3v927 ex5_3v927
                  have tx5_3v927 : Ti x5_3v927 z1690 := by rw [ex5_3v927]; exact t1691
                  unfold pX11_span_137
                  obtain ⟨z1705, t1706, f1707⟩ := t_add tx6 lit_1
                  first | replace f1707 := f1707 (by omega) | clear f1707
                  intro x6_1v930 ex6_1v930
                  have tx6_1v930 : Ti x6_1v930 z1705 := by rw [ex6_1v930]; exact t1706
                  exact ih _ _ _ _ _ _ _ _ _ _ _ _  tx1 tx2 tx3 tx4 tx5_3v927 tx6_1v930 hI (by omega) (by omega)
            · replace c1696 := c_nle t1694 tx4 c1696
              refine ⟨vp_of tx6 (by omega) (by omega), ?_⟩
              intro x4_12v921 ex4_12v921
              have tx4_12v921 : Ti x4_12v921 z1693 := by rw [ex4_12v921]; exact t1694
              unfold pX11_span_106
              refine ⟨vp_of tx6 (by omega) (by omega), ?_⟩
              refine ⟨fun c1708 => ?_, fun c1708 => ?_⟩
              · replace c1708 := c_neq t1673 lit_0 c1708
                unfold pX11_span_137
                obtain ⟨z1709, t1710, f1711⟩ := t_add tx6 lit_1
                first | replace f1711 := f1711 (by omega) | clear f1711
                intro x6_1v932 ex6_1v932
                have tx6_1v932 : Ti x6_1v932 z1709 := by rw [ex6_1v932]; exact t1710
                exact ih _ _ _ _ _ _ _ _ _ _ _ _  tx1 tx2 tx3 tx4_12v921 tx5 tx6_1v932 hI (by omega) (by omega)
              · replace c1708 := c_eq t1673 lit_0 c1708
                refine ⟨vp_of tx6 (by omega) (by omega), ?_⟩
                refine ⟨fun c1712 => ?_, fun c1712 => ?_⟩
                · replace c1712 := c_le tx5 t1691 c1712
                  unfold pX11_span_137
                  obtain ⟨z1713, t1714, f1715⟩ := t_add tx6 lit_1
                  first | replace f1715 := f1715 (by omega) | clear f1715
                  intro x6_1v933 ex6_1v933
                  have tx6_1v933 : Ti x6_1v933 z1713 := by rw [ex6_1v933]; exact t1714
                  exact ih _ _ _ _ _ _ _ _ _ _ _ _  tx1 tx2 tx3 tx4_12v921 tx5 tx6_1v933 hI (by omega) (by omega)
                · replace c1712 := c_nle tx5 t1691 c1712
                  refine ⟨vp_of tx6 (by omega) (by omega), ?_⟩
                  intro x5_3v931 ex5_3v931
                  have tx5_3v931 : Ti x5_3v931 z1690 := by rw [ex5_3v931]; exact t1691
                  unfold pX11_span_137
                  obtain ⟨z1716, t1717, f1718⟩ := t_add tx6 lit_1
                  first | replace f1718 := f1718 (by omega) | clear f1718
                  intro x6_1v934 ex6_1v934
                  have tx6_1v934 : Ti x6_1v934 z1716 := by rw [ex6_1v934]; exact t1717
                  exact ih _ _ _ _ _ _ _ _ _ _ _ _  tx1 tx2 tx3 tx4_12v921 tx5_3v931 tx6_1v934 hI (by omega) (by omega)
        · replace c1671 := c_neq t1669 tx1 c1671
          unfold pX11_span_137
          obtain ⟨z1719, t1720, f1721⟩ := t_add tx6 lit_1
          first | replace f1721 := f1721 (by omega) | clear f1721
          intro x6_1v935 ex6_1v935
          have tx6_1v935 : Ti x6_1v935 z1719 := by rw [ex6_1v935]; exact t1720
          exact ih _ _ _ _ _ _ _ _ _ _ _ _  tx1 tx2 tx3 tx4 tx5 tx6_1v935 hI (by omega) (by omega)
set_option maxHeartbeats 4000000 in
set_option maxRecDepth 100000 in
theorem sX11_span {T W H P S M : Int} {post : Int32 → Wd → Prop} {x1 : Int32} {zx1 : Int} {x2 : Int32} {zx2 : Int} {x3 : Int32} {zx3 : Int} {w : Wd}  (tx1 : Ti x1 zx1) (tx2 : Ti x2 zx2) (tx3 : Ti x3 zx3) (hI : IM T W H P S M w)  (hp : ∀ (r : Int32) (zr : Int), Ti r zr → post r w) : pX11_span   post  x1 x2 x3 w := by
  unfold pX11_span
  have hk := im_k hI
  refine sX11_width   (hI := hI)   (hp := fun r_1v936 zr_1v936 tr_1v936 p1722 => ?_)
  obtain ⟨z1723, t1724, f1725⟩ := t_sub tr_1v936 lit_1
  first | replace f1725 := f1725 (by omega) | clear f1725
  refine sX11_isIn   (hI := hI) (tx0 := tx1) (tx1 := lit_0) (tx2 := t1724)  (hp := fun r_3v942 zr_3v942 tr_3v942 p1726 p1727 => ?_)
  refine ⟨fun c1728 => ?_, fun c1728 => ?_⟩
  · replace c1728 := c_eq tr_3v942 lit_0 c1728
    exact hp _ _ lit_m1 
  · replace c1728 := c_neq tr_3v942 lit_0 c1728
    refine sX11_isIn   (hI := hI) (tx0 := tx2) (tx1 := lit_0) (tx2 := lit_2)  (hp := fun r_6v946 zr_6v946 tr_6v946 p1729 p1730 => ?_)
    refine ⟨fun c1731 => ?_, fun c1731 => ?_⟩
    · replace c1731 := c_neq tr_6v946 lit_0 c1731
      exact ⟨70000, sX11_span_36    (hp := hp) 70000 _ _ _ _ _ _ _ _ _ _ _ _  tx1 tx2 tx3 lit_0 lit_999 lit_0 hI (by omega) (by omega)⟩
    · replace c1731 := c_eq tr_6v946 lit_0 c1731
      exact hp _ _ lit_m1 
set_option maxHeartbeats 4000000 in
set_option maxRecDepth 100000 in
theorem sX11_layLinks_142 {T W H P S M : Int} {k30 : Int32 → Int32 → Wd → Prop} {M30 : Int} {post : Int32 → Wd → Prop}  (hk30 : ∀ (x1 : Int32) (x2 : Int32) (zx1 : Int) (zx2 : Int) (w : Wd), Ti x1 zx1 → Ti x2 zx2 → IM T W H P S M w → (0 ≤ zx2 ∧ zx2 ≤ 40) → (41 - zx2) < M30 → k30 x1 x2 w) (hp : ∀ (r : Int32) (zr : Int) (w9 : Wd), Ti r zr → IM T W H P S M w9 → post r w9) : ∀ (n : Nat) (x1 : Int32) (x2 : Int32) (x3 : Int32) (x5 : Int32) (x6 : Int32) (x7 : Int32) (zx1 : Int) (zx2 : Int) (zx3 : Int) (zx5 : Int) (zx6 : Int) (zx7 : Int) (w : Wd), Ti x1 zx1 → Ti x2 zx2 → Ti x3 zx3 → Ti x5 zx5 → Ti x6 zx6 → Ti x7 zx7 → IM T W H P S M w → (0 ≤ zx7 ∧ zx7 ≤ 8) → (0 ≤ zx3 ∧ zx3 ≤ 7) → (zx2 ≤ 39) → (0 ≤ zx2 ∧ zx2 ≤ 40) → ((41 - zx2) ≤ M30) → (9 - zx7) < (n : Int) → pX11_layLinks_142 k30  post  n x1 x2 x3 x5 x6 x7 w := by
  intro n
  induction n with
  | zero =>
    intro x1 x2 x3 x5 x6 x7 zx1 zx2 zx3 zx5 zx6 zx7 w tx1 tx2 tx3 tx5 tx6 tx7 hI h0 h1 h2 h3 h4 hm
    exact absurd hm (by omega)
  | succ n ih =>
    intro x1 x2 x3 x5 x6 x7 zx1 zx2 zx3 zx5 zx6 zx7 w tx1 tx2 tx3 tx5 tx6 tx7 hI h0 h1 h2 h3 h4 hm
    unfold pX11_layLinks_142
    have hk := im_k hI
    refine ⟨fun c1732 => ?_, fun c1732 => ?_⟩
    · replace c1732 := c_le lit_8 tx7 c1732
      unfold pX11_layLinks_195
      obtain ⟨z1733, t1734, f1735⟩ := t_add tx2 lit_1
      first | replace f1735 := f1735 (by omega) | clear f1735
      intro x2_1v950 ex2_1v950
      have tx2_1v950 : Ti x2_1v950 z1733 := by rw [ex2_1v950]; exact t1734
      exact hk30 _ _ _ _ _ tx1 tx2_1v950 hI (by omega) (by omega)
    · replace c1732 := c_nle lit_8 tx7 c1732
      refine ⟨vp_of tx7 (by omega) (by omega), ?_⟩
      obtain ⟨z1736, t1737⟩ := t_any (w.2.1 367 x7.toNatClampNeg)
      refine ⟨fun c1739 => ?_, fun c1739 => ?_⟩
      · replace c1739 := c_eq t1737 tx5 c1739
        refine ⟨vp_of tx3 (by omega) (by omega), ?_⟩
        refine ⟨vp_of tx7 (by omega) (by omega), ?_⟩
        intro w_3v948 ew_3v948
        have hIw_3v948 := ims_A hI ew_3v948 (by decide)
        refine ⟨vp_of tx7 (by omega) (by omega), ?_⟩
        refine ⟨vp_of tx7 (by omega) (by omega), ?_⟩
        intro w_4v949 ew_4v949
        have hIw_4v949 := ims_A hIw_3v948 ew_4v949 (by decide)
        unfold pX11_layLinks_189
        obtain ⟨z1740, t1741, f1742⟩ := t_add tx7 lit_1
        first | replace f1742 := f1742 (by omega) | clear f1742
        intro x7_1v951 ex7_1v951
        have tx7_1v951 : Ti x7_1v951 z1740 := by rw [ex7_1v951]; exact t1741
        exact ih _ _ _ _ _ _ _ _ _ _ _ _ _ tx1 tx2 tx3 tx5 tx6 tx7_1v951 hIw_4v949 (by omega) (by omega) (by omega) (by omega) (by omega) (by omega)
      · replace c1739 := c_neq t1737 tx5 c1739
        unfold pX11_layLinks_189
        obtain ⟨z1743, t1744, f1745⟩ := t_add tx7 lit_1
        first | replace f1745 := f1745 (by omega) | clear f1745
        intro x7_1v952 ex7_1v952
        have tx7_1v952 : Ti x7_1v952 z1743 := by rw [ex7_1v952]; exact t1744
        exact ih _ _ _ _ _ _ _ _ _ _ _ _ _ tx1 tx2 tx3 tx5 tx6 tx7_1v952 hI (by omega) (by omega) (by omega) (by omega) (by omega) (by omega)
set_option maxHeartbeats 4000000 in
set_option maxRecDepth 100000 in
theorem sX11_layLinks_30 {T W H P S M : Int} {post : Int32 → Wd → Prop}   (hp : ∀ (r : Int32) (zr : Int) (w9 : Wd), Ti r zr → IM T W H P S M w9 → post r w9) : ∀ (n : Nat) (x1 : Int32) (x2 : Int32) (zx1 : Int) (zx2 : Int) (w : Wd), Ti x1 zx1 → Ti x2 zx2 → IM T W H P S M w → (0 ≤ zx2 ∧ zx2 ≤ 40) → (41 - zx2) < (n : Int) → pX11_layLinks_30   post  n x1 x2 w := by
  intro n
  induction n with
  | zero =>
    intro x1 x2 zx1 zx2 w tx1 tx2 hI h0 hm
    exact absurd hm (by omega)
  | succ n ih =>
    intro x1 x2 zx1 zx2 w tx1 tx2 hI h0 hm
    unfold pX11_layLinks_30
    have hk := im_k hI
    obtain ⟨z1746, t1747⟩ := t_any (w.1 300 58)
    have f1748 := img_58 hI t1747
    refine ⟨fun c1749 => ?_, fun c1749 => ?_⟩
    · replace c1749 := c_le t1747 tx2 c1749
      exact hp _ _ _  lit_1 hI 
    · replace c1749 := c_nle t1747 tx2 c1749
      refine sX11_counts   (hI := hI) (tx1 := tx2) (tx2 := lit_3) (tx3 := tx1) (h0 := (by omega)) (hp := fun r_2v953 zr_2v953 tr_2v953 p1750 => ?_)
      refine ⟨fun c1751 => ?_, fun c1751 => ?_⟩
      · replace c1751 := c_neq tr_2v953 lit_0 c1751
        refine ⟨vp_of tx2 (by omega) (by omega), ?_⟩
        obtain ⟨z1752, t1753⟩ := t_any (w.2.1 354 x2.toNatClampNeg)
        have f1754 := img_lnk (e := p1750.resolve_left (by omega)) hI tx2 t1747 (by omega) (by omega)
        have f1755 := Rg.g f1754.1 t1753
        intro x3_5v959 ex3_5v959
        have tx3_5v959 : Ti x3_5v959 z1752 := by rw [ex3_5v959]; exact t1753
        refine ⟨vp_of tx2 (by omega) (by omega), ?_⟩
        obtain ⟨z1756, t1757⟩ := t_any (w.2.1 355 x2.toNatClampNeg)
        have f1758 := img_lnk (e := p1750.resolve_left (by omega)) hI tx2 t1747 (by omega) (by omega)
        have f1759 := Rg.g f1758.2 t1757
        intro x4_6v960 ex4_6v960
        have tx4_6v960 : Ti x4_6v960 z1756 := by rw [ex4_6v960]; exact t1757
        refine ⟨vp_of tx3_5v959 (by omega) (by omega), ?_⟩
        refine ⟨vp_of tx4_6v960 (by omega) (by omega), ?_⟩
        obtain ⟨z1760, t1761⟩ := t_any (w.2.1 367 x3_5v959.toNatClampNeg)
        obtain ⟨z1763, t1764⟩ := t_any (w.2.1 367 x4_6v960.toNatClampNeg)
        refine ⟨fun c1766 => ?_, fun c1766 => ?_⟩
        · replace c1766 := c_neq t1761 t1764 c1766
          refine ⟨vp_of tx4_6v960 (by omega) (by omega), ?_⟩
          intro x5_8v961 ex5_8v961
          have tx5_8v961 : Ti x5_8v961 z1763 := by rw [ex5_8v961]; exact t1764
          refine ⟨vp_of tx3_5v959 (by omega) (by omega), ?_⟩
          refine ⟨vp_of tx4_6v960 (by omega) (by omega), ?_⟩
          refine ⟨vp_of tx2 (by omega) (by omega), ?_⟩
          obtain ⟨z1767, t1768⟩ := t_any (((w.2.1 366 x3_5v959.toNatClampNeg) ^^^ (w.2.1 366 x4_6v960.toNatClampNeg)) ^^^ (w.2.1 356 x2.toNatClampNeg))
          intro x6_9v962 ex6_9v962
          have tx6_9v962 : Ti x6_9v962 z1767 := by rw [ex6_9v962]; exact t1768
          exact ⟨70000, sX11_layLinks_142  (M30 := (n : Int)) (hk30 := ih)  (hp := hp) 70000 _ _ _ _ _ _ _ _ _ _ _ _ _ tx1 tx2 tx3_5v959 tx5_8v961 tx6_9v962 lit_0 hI (by omega) (by omega) (by omega) (by omega) (by omega) (by omega)⟩
        · replace c1766 := c_eq t1761 t1764 c1766
          refine ⟨vp_of tx3_5v959 (by omega) (by omega), ?_⟩
          refine ⟨vp_of tx4_6v960 (by omega) (by omega), ?_⟩
          refine ⟨vp_of tx2 (by omega) (by omega), ?_⟩
          obtain ⟨z1769, t1770⟩ := t_any ((w.2.1 366 x3_5v959.toNatClampNeg) ^^^ (w.2.1 366 x4_6v960.toNatClampNeg))
          obtain ⟨z1771, t1772⟩ := t_any (w.2.1 356 x2.toNatClampNeg)
          refine ⟨fun c1774 => ?_, fun c1774 => ?_⟩
          · replace c1774 := c_eq t1770 t1772 c1774
            unfold pX11_layLinks_195
            obtain ⟨z1775, t1776, f1777⟩ := t_add tx2 lit_1
            first | replace f1777 := f1777 (by omega) | clear f1777
            intro x2_1v963 ex2_1v963
            have tx2_1v963 : Ti x2_1v963 z1775 := by rw [ex2_1v963]; exact t1776
            exact ih _ _ _ _ _ tx1 tx2_1v963 hI (by omega) (by omega)
          · replace c1774 := c_neq t1770 t1772 c1774
            exact hp _ _ _  lit_0 hI 
      · replace c1751 := c_eq tr_2v953 lit_0 c1751
        unfold pX11_layLinks_195
        obtain ⟨z1778, t1779, f1780⟩ := t_add tx2 lit_1
        first | replace f1780 := f1780 (by omega) | clear f1780
        intro x2_1v964 ex2_1v964
        have tx2_1v964 : Ti x2_1v964 z1778 := by rw [ex2_1v964]; exact t1779
        exact ih _ _ _ _ _ tx1 tx2_1v964 hI (by omega) (by omega)
set_option maxHeartbeats 4000000 in
set_option maxRecDepth 100000 in
theorem sX11_layLinks_2 {T W H P S M : Int} {post : Int32 → Wd → Prop}   (hp : ∀ (r : Int32) (zr : Int) (w9 : Wd), Ti r zr → IM T W H P S M w9 → post r w9) : ∀ (n : Nat) (x1 : Int32) (x2 : Int32) (zx1 : Int) (zx2 : Int) (w : Wd), Ti x1 zx1 → Ti x2 zx2 → IM T W H P S M w → (0 ≤ zx2 ∧ zx2 ≤ 8) → (9 - zx2) < (n : Int) → pX11_layLinks_2   post  n x1 x2 w := by
  intro n
  induction n with
  | zero =>
    intro x1 x2 zx1 zx2 w tx1 tx2 hI h0 hm
    exact absurd hm (by omega)
  | succ n ih =>
    intro x1 x2 zx1 zx2 w tx1 tx2 hI h0 hm
    unfold pX11_layLinks_2
    have hk := im_k hI
    refine ⟨fun c1781 => ?_, fun c1781 => ?_⟩
    · replace c1781 := c_le lit_8 tx2 c1781
      exact ⟨70000, sX11_layLinks_30    (hp := hp) 70000 _ _ _ _ _ tx1 lit_0 hI (by omega) (by omega)⟩
    · replace c1781 := c_nle lit_8 tx2 c1781
      refine ⟨vp_of tx2 (by omega) (by omega), ?_⟩
      intro w_2v965 ew_2v965
      have hIw_2v965 := ims_A hI ew_2v965 (by decide)
      refine ⟨vp_of tx2 (by omega) (by omega), ?_⟩
      intro w_3v966 ew_3v966
      have hIw_3v966 := ims_A hIw_2v965 ew_3v966 (by decide)
      obtain ⟨z1782, t1783, f1784⟩ := t_add tx2 lit_1
      first | replace f1784 := f1784 (by omega) | clear f1784
      intro x2_4v967 ex2_4v967
      have tx2_4v967 : Ti x2_4v967 z1782 := by rw [ex2_4v967]; exact t1783
      exact ih _ _ _ _ _ tx1 tx2_4v967 hIw_3v966 (by omega) (by omega)
set_option maxHeartbeats 4000000 in
set_option maxRecDepth 100000 in
theorem sX11_layLinks {T W H P S M : Int} {post : Int32 → Wd → Prop} {x1 : Int32} {zx1 : Int} {w : Wd}  (tx1 : Ti x1 zx1) (hI : IM T W H P S M w)  (hp : ∀ (r : Int32) (zr : Int) (w9 : Wd), Ti r zr → IM T W H P S M w9 → post r w9) : pX11_layLinks   post  x1 w := by
  unfold pX11_layLinks
  have hk := im_k hI
  exact ⟨70000, sX11_layLinks_2    (hp := hp) 70000 _ _ _ _ _ tx1 lit_0 hI (by omega) (by omega)⟩
set_option maxHeartbeats 4000000 in
set_option maxRecDepth 100000 in
theorem sX11_backward {T W H P S M : Int} {post : Int32 → Wd → Prop} {x1 : Int32} {zx1 : Int} {x2 : Int32} {zx2 : Int} {w : Wd}  (tx1 : Ti x1 zx1) (tx2 : Ti x2 zx2) (hI : IM T W H P S M w)  (hp : ∀ (r : Int32) (zr : Int) (w9 : Wd), Ti r zr → IM T W H P S M w9 → post r w9) : pX11_backward   post  x1 x2 w := by
  unfold pX11_backward
  have hk := im_k hI
  refine sX11_isIn   (hI := hI) (tx0 := tx1) (tx1 := lit_0) (tx2 := lit_7)  (hp := fun r_1v968 zr_1v968 tr_1v968 p1785 p1786 => ?_)
  refine ⟨fun c1787 => ?_, fun c1787 => ?_⟩
  · replace c1787 := c_neq tr_1v968 lit_0 c1787
    refine sX11_layLinks   (hI := hI) (tx1 := tx2)  (hp := fun r_4v972 zr_4v972 w_5v973  tr_4v972 hIw_5v973  => ?_)
    refine ⟨fun c1788 => ?_, fun c1788 => ?_⟩
    · replace c1788 := c_neq tr_4v972 lit_0 c1788
      refine ⟨vp_of tx1 (by omega) (by omega), ?_⟩
      obtain ⟨z1789, t1790⟩ := t_any (w_5v973.2.1 367 x1.toNatClampNeg)
      obtain ⟨z1792, t1793⟩ := t_any (w_5v973.2.1 367 (0 : Int32).toNatClampNeg)
      refine ⟨fun c1795 => ?_, fun c1795 => ?_⟩
      · replace c1795 := c_neq t1790 t1793 c1795
        exact hp _ _ _  lit_m1 hIw_5v973 
      · replace c1795 := c_eq t1790 t1793 c1795
        refine ⟨vp_of tx1 (by omega) (by omega), ?_⟩
        obtain ⟨z1796, t1797⟩ := t_any ((w_5v973.2.1 366 x1.toNatClampNeg) ^^^ (w_5v973.2.1 366 (0 : Int32).toNatClampNeg))
        exact hp _ _ _  t1797 hIw_5v973 
    · replace c1788 := c_eq tr_4v972 lit_0 c1788
      exact hp _ _ _  lit_m2 hIw_5v973 
  · replace c1787 := c_eq tr_1v968 lit_0 c1787
    exact hp _ _ _  lit_m1 hI 
set_option maxHeartbeats 4000000 in
set_option maxRecDepth 100000 in
theorem sX11_lies {T W H P S M : Int} {post : Int32 → Wd → Prop} {x1 : Int32} {zx1 : Int} {w : Wd}  (tx1 : Ti x1 zx1) (hI : IM T W H P S M w)  (hp : ∀ (r : Int32) (zr : Int), Ti r zr → post r w) : pX11_lies   post  x1 w := by
  unfold pX11_lies
  have hk := im_k hI
  obtain ⟨z1798, t1799⟩ := t_any (w.1 300 48)
  have f1800 := img_48 hI t1799
  obtain ⟨z1801, t1802, f1803⟩ := t_sub t1799 lit_1
  first | replace f1803 := f1803 (by omega) | clear f1803
  refine sX11_isIn   (hI := hI) (tx0 := tx1) (tx1 := lit_0) (tx2 := t1802)  (hp := fun r_1v974 zr_1v974 tr_1v974 p1804 p1805 => ?_)
  refine ⟨fun c1806 => ?_, fun c1806 => ?_⟩
  · replace c1806 := c_eq tr_1v974 lit_0 c1806
    exact hp _ _ lit_m2 
  · replace c1806 := c_neq tr_1v974 lit_0 c1806
    refine ⟨vp_of tx1 (by omega) (by omega), ?_⟩
    obtain ⟨z1807, t1808⟩ := t_any (w.2.1 348 x1.toNatClampNeg)
    exact hp _ _ t1808 
set_option maxHeartbeats 4000000 in
set_option maxRecDepth 100000 in
theorem sX11_about {T W H P S M : Int} {post : Int32 → Wd → Prop} {x1 : Int32} {zx1 : Int} {w : Wd}  (tx1 : Ti x1 zx1) (hI : IM T W H P S M w)  (hp : ∀ (r : Int32) (zr : Int), Ti r zr → post r w) : pX11_about   post  x1 w := by
  unfold pX11_about
  have hk := im_k hI
  refine ⟨fun c1810 => ?_, fun c1810 => ?_, fun c1810 => ?_, fun c1810 => ?_, fun c1810 => ?_, fun c1810 => ?_, fun c1810 => ?_, fun c1810 => ?_, fun c1810 => ?_, fun c1810 => ?_, fun c1810 => ?_, fun c1810 => ?_, fun c1810 => ?_, fun c1810 => ?_, fun c1810 => ?_⟩
  · rw [show x1.toInt = zx1 from tx1] at c1810
    exact hp _ _ lit_m1 
  · rw [show x1.toInt = zx1 from tx1] at c1810
    obtain ⟨z1811, t1812⟩ := t_any (w.1 300 29)
    have f1813 := img_29 hI t1812
    refine ⟨vp_of t1812 (by omega) (by omega), ?_⟩
    obtain ⟨z1814, t1815⟩ := t_any (w.2.1 314 (w.1 300 29).toNatClampNeg)
    have f1816 := img_314 hI t1815
    exact hp _ _ t1815 
  · rw [show x1.toInt = zx1 from tx1] at c1810
    refine sX11_width   (hI := hI)   (hp := fun r_2v976 zr_2v976 tr_2v976 p1817 => ?_)
    exact hp _ _ tr_2v976 
  · rw [show x1.toInt = zx1 from tx1] at c1810
    obtain ⟨z1818, t1819⟩ := t_any (w.2.1 341 (216 : Int32).toNatClampNeg)
    have f1820 := img_216 hI t1819
    exact hp _ _ t1819 
  · rw [show x1.toInt = zx1 from tx1] at c1810
    obtain ⟨z1821, t1822⟩ := t_any (w.2.1 341 (217 : Int32).toNatClampNeg)
    have f1823 := img_217 hI t1822
    exact hp _ _ t1822 
  · rw [show x1.toInt = zx1 from tx1] at c1810
    obtain ⟨z1824, t1825⟩ := t_any (w.2.1 341 (218 : Int32).toNatClampNeg)
    exact hp _ _ t1825 
  · rw [show x1.toInt = zx1 from tx1] at c1810
    obtain ⟨z1827, t1828⟩ := t_any (w.2.1 341 (219 : Int32).toNatClampNeg)
    exact hp _ _ t1828 
  · rw [show x1.toInt = zx1 from tx1] at c1810
    obtain ⟨z1830, t1831⟩ := t_any (w.2.1 341 (220 : Int32).toNatClampNeg)
    exact hp _ _ t1831 
  · rw [show x1.toInt = zx1 from tx1] at c1810
    obtain ⟨z1833, t1834⟩ := t_any (w.1 300 42)
    exact hp _ _ t1834 
  · rw [show x1.toInt = zx1 from tx1] at c1810
    obtain ⟨z1835, t1836⟩ := t_any (w.1 300 43)
    exact hp _ _ t1836 
  · rw [show x1.toInt = zx1 from tx1] at c1810
    obtain ⟨z1837, t1838⟩ := t_any (w.1 300 58)
    have f1839 := img_58 hI t1838
    exact hp _ _ t1838 
  · rw [show x1.toInt = zx1 from tx1] at c1810
    obtain ⟨z1840, t1841⟩ := t_any (w.1 300 59)
    have f1842 := img_59 hI t1841
    exact hp _ _ t1841 
  · rw [show x1.toInt = zx1 from tx1] at c1810
    obtain ⟨z1843, t1844⟩ := t_any (w.1 300 2)
    have f1845 := img_2 hI t1844
    exact hp _ _ t1844 
  · rw [show x1.toInt = zx1 from tx1] at c1810
    obtain ⟨z1846, t1847⟩ := t_any (w.1 300 29)
    have f1848 := img_29 hI t1847
    refine ⟨vp_of t1847 (by omega) (by omega), ?_⟩
    obtain ⟨z1849, t1850⟩ := t_any (w.2.1 315 (w.1 300 29).toNatClampNeg)
    exact hp _ _ t1850 
  · rw [show x1.toInt = zx1 from tx1] at c1810
    obtain ⟨z1852, t1853⟩ := t_any (w.1 300 48)
    have f1854 := img_48 hI t1853
    exact hp _ _ t1853 
