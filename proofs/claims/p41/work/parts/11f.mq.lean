set_option maxHeartbeats 4000000 in
set_option maxRecDepth 100000 in
theorem sX11_tree_143 {T W H P S M : Int} {k76 : Int32 → Int32 → Int32 → Int32 → Int32 → Int32 → Wd → Prop} {M76 : Int} {post : Int32 → Wd → Prop}  (hk76 : ∀ (x1 : Int32) (x2 : Int32) (x4 : Int32) (x5 : Int32) (x6 : Int32) (x7 : Int32) (zx1 : Int) (zx2 : Int) (zx4 : Int) (zx5 : Int) (zx6 : Int) (zx7 : Int) (w : Wd), Ti x1 zx1 → Ti x2 zx2 → Ti x4 zx4 → Ti x5 zx5 → Ti x6 zx6 → Ti x7 zx7 → IM T W H P S M w → (0 ≤ zx7) → (zx7 ≤ 2147483647 ∧ zx4 ≤ 2147483647) → (0 ≤ zx1 ∧ zx1 < M) → (2147483648 - zx7) < M76 → k76 x1 x2 x4 x5 x6 x7 w) (hp : ∀ (r : Int32) (zr : Int) (w9 : Wd) (M9 : Int), Ti r zr → IM T W H P S M9 w9 → post r w9) : ∀ (n : Nat) (x1 : Int32) (x2 : Int32) (x4 : Int32) (x6 : Int32) (x7 : Int32) (x8 : Int32) (x9 : Int32) (zx1 : Int) (zx2 : Int) (zx4 : Int) (zx6 : Int) (zx7 : Int) (zx8 : Int) (zx9 : Int) (w : Wd), Ti x1 zx1 → Ti x2 zx2 → Ti x4 zx4 → Ti x6 zx6 → Ti x7 zx7 → Ti x8 zx8 → Ti x9 zx9 → IM T W H P S M w → (0 ≤ zx9 ∧ zx9 ≤ 7) → (zx7 < zx4 ∧ zx4 ≤ 2147483647) → (0 ≤ zx7) → (zx7 ≤ 2147483647 ∧ zx4 ≤ 2147483647) → (0 ≤ zx1 ∧ zx1 < M) → ((2147483648 - zx7) ≤ M76) → (8 - zx9) < (n : Int) → pX11_tree_143 k76  post  n x1 x2 x4 x6 x7 x8 x9 w := by
  intro n
  induction n with
  | zero =>
    intro x1 x2 x4 x6 x7 x8 x9 zx1 zx2 zx4 zx6 zx7 zx8 zx9 w tx1 tx2 tx4 tx6 tx7 tx8 tx9 hI h0 h1 h2 h3 h4 h5 hm
    exact absurd hm (by omega)
  | succ n ih =>
    intro x1 x2 x4 x6 x7 x8 x9 zx1 zx2 zx4 zx6 zx7 zx8 zx9 w tx1 tx2 tx4 tx6 tx7 tx8 tx9 hI h0 h1 h2 h3 h4 h5 hm
    unfold pX11_tree_143
    have hk := im_k hI
    obtain ⟨z1291, t1292⟩ := t_any (w.1 300 63)
    have f1293 := img_63 hI t1292
    refine ⟨fun c1294 => ?_, fun c1294 => ?_⟩
    · replace c1294 := c_le t1292 tx9 c1294
      unfold pX11_tree_172
      unfold pX11_tree_176
      obtain ⟨z1295, t1296, f1297⟩ := t_add tx7 lit_1
      first | replace f1297 := f1297 (by omega) | clear f1297
      intro x7_1v825 ex7_1v825
      have tx7_1v825 : Ti x7_1v825 z1295 := by rw [ex7_1v825]; exact t1296
      have f1298 := t_rng tx4
      exact hk76 _ _ _ _ _ _ _ _ _ _ _ _ _ tx1 tx2 tx4 tx8 tx6 tx7_1v825 hI (by omega) (by omega) (by omega) (by omega)
    · replace c1294 := c_nle t1292 tx9 c1294
      refine ⟨vp_of tx9 (by omega) (by omega), ?_⟩
      refine ⟨vp_of tx9 (by omega) (by omega), ?_⟩
      intro w_2v823 ew_2v823
      have hIw_2v823 := ims_A hI ew_2v823 (by decide)
      obtain ⟨z1299, t1300, f1301⟩ := t_add tx9 lit_1
      first | replace f1301 := f1301 (by omega) | clear f1301
      intro x9_3v824 ex9_3v824
      have tx9_3v824 : Ti x9_3v824 z1299 := by rw [ex9_3v824]; exact t1300
      exact ih _ _ _ _ _ _ _ _ _ _ _ _ _ _ _ tx1 tx2 tx4 tx6 tx7 tx8 tx9_3v824 hIw_2v823 (by omega) (by omega) (by omega) (by omega) (by omega) (by omega) (by omega)
set_option maxHeartbeats 4000000 in
set_option maxRecDepth 100000 in
theorem sX11_tree_76 {T W H P S M : Int} {post : Int32 → Wd → Prop}   (hp : ∀ (r : Int32) (zr : Int) (w9 : Wd) (M9 : Int), Ti r zr → IM T W H P S M9 w9 → post r w9) : ∀ (n : Nat) (x1 : Int32) (x2 : Int32) (x4 : Int32) (x5 : Int32) (x6 : Int32) (x7 : Int32) (zx1 : Int) (zx2 : Int) (zx4 : Int) (zx5 : Int) (zx6 : Int) (zx7 : Int) (w : Wd), Ti x1 zx1 → Ti x2 zx2 → Ti x4 zx4 → Ti x5 zx5 → Ti x6 zx6 → Ti x7 zx7 → IM T W H P S M w → (0 ≤ zx7) → (zx7 ≤ 2147483647 ∧ zx4 ≤ 2147483647) → (0 ≤ zx1 ∧ zx1 < M) → (2147483648 - zx7) < (n : Int) → pX11_tree_76   post  n x1 x2 x4 x5 x6 x7 w := by
  intro n
  induction n with
  | zero =>
    intro x1 x2 x4 x5 x6 x7 zx1 zx2 zx4 zx5 zx6 zx7 w tx1 tx2 tx4 tx5 tx6 tx7 hI h0 h1 h2 hm
    exact absurd hm (by omega)
  | succ n ih =>
    intro x1 x2 x4 x5 x6 x7 zx1 zx2 zx4 zx5 zx6 zx7 w tx1 tx2 tx4 tx5 tx6 tx7 hI h0 h1 h2 hm
    unfold pX11_tree_76
    have hk := im_k hI
    refine ⟨fun c1302 => ?_, fun c1302 => ?_⟩
    · replace c1302 := c_le tx4 tx7 c1302
      intro w_2v826 ew_2v826
      obtain ⟨z1303, t1304⟩ := t_any (w.1 300 63)
      have f1305 := img_63 hI t1304
      have hIw_2v826 := ims_48 hI ew_2v826 t1304 (by omega) (by omega)
      refine ⟨fun c1306 => ?_, fun c1306 => ?_⟩
      · replace c1306 := c_neq tx2 lit_0 c1306
        exact hp _ _ _ _ tx6 hIw_2v826 
      · replace c1306 := c_eq tx2 lit_0 c1306
        exact hp _ _ _ _ tx5 hIw_2v826 
    · replace c1302 := c_nle tx4 tx7 c1302
      refine sX11_changesOf   (hI := hI) (tx1 := tx7) (tx2 := tx1) (h0 := (by omega)) (h1 := (by omega)) (hp := fun r_4v827 zr_4v827 w_5v828  tr_4v827 hIw_5v828  => ?_)
      refine ⟨fun c1307 => ?_, fun c1307 => ?_⟩
      · replace c1307 := c_lt tr_4v827 lit_0 c1307
        unfold pX11_tree_176
        obtain ⟨z1308, t1309, f1310⟩ := t_add tx7 lit_1
        first | replace f1310 := f1310 (by omega) | clear f1310
        intro x7_1v829 ex7_1v829
        have tx7_1v829 : Ti x7_1v829 z1308 := by rw [ex7_1v829]; exact t1309
        have f1311 := t_rng tx4
        exact ih _ _ _ _ _ _ _ _ _ _ _ _ _ tx1 tx2 tx4 tx5 tx6 tx7_1v829 hIw_5v828 (by omega) (by omega) (by omega) (by omega)
      · replace c1307 := c_nlt tr_4v827 lit_0 c1307
        refine ⟨fun c1312 => ?_, fun c1312 => ?_⟩
        · replace c1312 := c_lt tx5 lit_0 c1312
          unfold pX11_tree_112
          refine ⟨fun c1313 => ?_, fun c1313 => ?_⟩
          · replace c1313 := c_lt tx5 lit_0 c1313
            unfold pX11_tree_124
            unfold pX11_tree_132
            refine ⟨fun c1314 => ?_, fun c1314 => ?_⟩
            · replace c1314 := c_neq lit_1 lit_1 c1314
              unfold pX11_tree_172
              unfold pX11_tree_176
              obtain ⟨z1315, t1316, f1317⟩ := t_add tx7 lit_1
              first | replace f1317 := f1317 (by omega) | clear f1317
              intro x7_1v830 ex7_1v830
              have tx7_1v830 : Ti x7_1v830 z1315 := by rw [ex7_1v830]; exact t1316
              have f1318 := t_rng tx4
              exact ih _ _ _ _ _ _ _ _ _ _ _ _ _ tx1 tx2 tx4 tr_4v827 lit_1 tx7_1v830 hIw_5v828 (by omega) (by omega) (by omega) (by omega)
            · replace c1314 := c_eq lit_1 lit_1 c1314
              exact ⟨70000, sX11_tree_143  (M76 := (n : Int)) (hk76 := ih)  (hp := hp) 70000 _ _ _ _ _ _ _ _ _ _ _ _ _ _ _ tx1 tx2 tx4 lit_1 tx7 tr_4v827 lit_0 hIw_5v828 (by omega) (by omega) (by omega) (by omega) (by omega) (by omega) (by omega)⟩
          · replace c1313 := c_nlt tx5 lit_0 c1313
            refine ⟨fun c1319 => ?_, fun c1319 => ?_⟩
            · replace c1319 := c_le tx5 tr_4v827 c1319
              unfold pX11_tree_132
              obtain ⟨z1320, t1321, f1322⟩ := t_add tx6 lit_1
              first | replace f1322 := f1322 (by omega) | clear f1322
              refine ⟨fun c1323 => ?_, fun c1323 => ?_⟩
              · replace c1323 := c_neq t1321 lit_1 c1323
                unfold pX11_tree_172
                unfold pX11_tree_176
                obtain ⟨z1324, t1325, f1326⟩ := t_add tx7 lit_1
                first | replace f1326 := f1326 (by omega) | clear f1326
                intro x7_1v831 ex7_1v831
                have tx7_1v831 : Ti x7_1v831 z1324 := by rw [ex7_1v831]; exact t1325
                have f1327 := t_rng tx4
                exact ih _ _ _ _ _ _ _ _ _ _ _ _ _ tx1 tx2 tx4 tr_4v827 t1321 tx7_1v831 hIw_5v828 (by omega) (by omega) (by omega) (by omega)
              · replace c1323 := c_eq t1321 lit_1 c1323
                exact ⟨70000, sX11_tree_143  (M76 := (n : Int)) (hk76 := ih)  (hp := hp) 70000 _ _ _ _ _ _ _ _ _ _ _ _ _ _ _ tx1 tx2 tx4 t1321 tx7 tr_4v827 lit_0 hIw_5v828 (by omega) (by omega) (by omega) (by omega) (by omega) (by omega) (by omega)⟩
            · replace c1319 := c_nle tx5 tr_4v827 c1319
              unfold pX11_tree_124
              unfold pX11_tree_132
              refine ⟨fun c1328 => ?_, fun c1328 => ?_⟩
              · replace c1328 := c_neq lit_1 lit_1 c1328
                unfold pX11_tree_172
                unfold pX11_tree_176
                obtain ⟨z1329, t1330, f1331⟩ := t_add tx7 lit_1
                first | replace f1331 := f1331 (by omega) | clear f1331
                intro x7_1v832 ex7_1v832
                have tx7_1v832 : Ti x7_1v832 z1329 := by rw [ex7_1v832]; exact t1330
                have f1332 := t_rng tx4
                exact ih _ _ _ _ _ _ _ _ _ _ _ _ _ tx1 tx2 tx4 tr_4v827 lit_1 tx7_1v832 hIw_5v828 (by omega) (by omega) (by omega) (by omega)
              · replace c1328 := c_eq lit_1 lit_1 c1328
                exact ⟨70000, sX11_tree_143  (M76 := (n : Int)) (hk76 := ih)  (hp := hp) 70000 _ _ _ _ _ _ _ _ _ _ _ _ _ _ _ tx1 tx2 tx4 lit_1 tx7 tr_4v827 lit_0 hIw_5v828 (by omega) (by omega) (by omega) (by omega) (by omega) (by omega) (by omega)⟩
        · replace c1312 := c_nlt tx5 lit_0 c1312
          refine ⟨fun c1333 => ?_, fun c1333 => ?_⟩
          · replace c1333 := c_le tr_4v827 tx5 c1333
            unfold pX11_tree_112
            refine ⟨fun c1334 => ?_, fun c1334 => ?_⟩
            · replace c1334 := c_lt tx5 lit_0 c1334
              unfold pX11_tree_124
              unfold pX11_tree_132
              refine ⟨fun c1335 => ?_, fun c1335 => ?_⟩
              · replace c1335 := c_neq lit_1 lit_1 c1335
                unfold pX11_tree_172
                unfold pX11_tree_176
                obtain ⟨z1336, t1337, f1338⟩ := t_add tx7 lit_1
                first | replace f1338 := f1338 (by omega) | clear f1338
                intro x7_1v833 ex7_1v833
                have tx7_1v833 : Ti x7_1v833 z1336 := by rw [ex7_1v833]; exact t1337
                have f1339 := t_rng tx4
                exact ih _ _ _ _ _ _ _ _ _ _ _ _ _ tx1 tx2 tx4 tr_4v827 lit_1 tx7_1v833 hIw_5v828 (by omega) (by omega) (by omega) (by omega)
              · replace c1335 := c_eq lit_1 lit_1 c1335
                exact ⟨70000, sX11_tree_143  (M76 := (n : Int)) (hk76 := ih)  (hp := hp) 70000 _ _ _ _ _ _ _ _ _ _ _ _ _ _ _ tx1 tx2 tx4 lit_1 tx7 tr_4v827 lit_0 hIw_5v828 (by omega) (by omega) (by omega) (by omega) (by omega) (by omega) (by omega)⟩
            · replace c1334 := c_nlt tx5 lit_0 c1334
              refine ⟨fun c1340 => ?_, fun c1340 => ?_⟩
              · replace c1340 := c_le tx5 tr_4v827 c1340
                unfold pX11_tree_132
                obtain ⟨z1341, t1342, f1343⟩ := t_add tx6 lit_1
                first | replace f1343 := f1343 (by omega) | clear f1343
                refine ⟨fun c1344 => ?_, fun c1344 => ?_⟩
                · replace c1344 := c_neq t1342 lit_1 c1344
                  unfold pX11_tree_172
                  unfold pX11_tree_176
                  obtain ⟨z1345, t1346, f1347⟩ := t_add tx7 lit_1
                  first | replace f1347 := f1347 (by omega) | clear f1347
                  intro x7_1v834 ex7_1v834
                  have tx7_1v834 : Ti x7_1v834 z1345 := by rw [ex7_1v834]; exact t1346
                  have f1348 := t_rng tx4
                  exact ih _ _ _ _ _ _ _ _ _ _ _ _ _ tx1 tx2 tx4 tr_4v827 t1342 tx7_1v834 hIw_5v828 (by omega) (by omega) (by omega) (by omega)
                · replace c1344 := c_eq t1342 lit_1 c1344
                  exact ⟨70000, sX11_tree_143  (M76 := (n : Int)) (hk76 := ih)  (hp := hp) 70000 _ _ _ _ _ _ _ _ _ _ _ _ _ _ _ tx1 tx2 tx4 t1342 tx7 tr_4v827 lit_0 hIw_5v828 (by omega) (by omega) (by omega) (by omega) (by omega) (by omega) (by omega)⟩
              · replace c1340 := c_nle tx5 tr_4v827 c1340
                unfold pX11_tree_124
                unfold pX11_tree_132
                refine ⟨fun c1349 => ?_, fun c1349 => ?_⟩
                · replace c1349 := c_neq lit_1 lit_1 c1349
                  unfold pX11_tree_172
                  unfold pX11_tree_176
                  obtain ⟨z1350, t1351, f1352⟩ := t_add tx7 lit_1
                  first | replace f1352 := f1352 (by omega) | clear f1352
                  intro x7_1v835 ex7_1v835
                  have tx7_1v835 : Ti x7_1v835 z1350 := by rw [ex7_1v835]; exact t1351
                  have f1353 := t_rng tx4
                  exact ih _ _ _ _ _ _ _ _ _ _ _ _ _ tx1 tx2 tx4 tr_4v827 lit_1 tx7_1v835 hIw_5v828 (by omega) (by omega) (by omega) (by omega)
                · replace c1349 := c_eq lit_1 lit_1 c1349
                  exact ⟨70000, sX11_tree_143  (M76 := (n : Int)) (hk76 := ih)  (hp := hp) 70000 _ _ _ _ _ _ _ _ _ _ _ _ _ _ _ tx1 tx2 tx4 lit_1 tx7 tr_4v827 lit_0 hIw_5v828 (by omega) (by omega) (by omega) (by omega) (by omega) (by omega) (by omega)⟩
          · replace c1333 := c_nle tr_4v827 tx5 c1333
            unfold pX11_tree_176
            obtain ⟨z1354, t1355, f1356⟩ := t_add tx7 lit_1
            first | replace f1356 := f1356 (by omega) | clear f1356
            intro x7_1v836 ex7_1v836
            have tx7_1v836 : Ti x7_1v836 z1354 := by rw [ex7_1v836]; exact t1355
            have f1357 := t_rng tx4
            exact ih _ _ _ _ _ _ _ _ _ _ _ _ _ tx1 tx2 tx4 tx5 tx6 tx7_1v836 hIw_5v828 (by omega) (by omega) (by omega) (by omega)
set_option maxHeartbeats 4000000 in
set_option maxRecDepth 100000 in
theorem sX11_tree_41 {T W H P S M : Int} {post : Int32 → Wd → Prop}   (hp : ∀ (r : Int32) (zr : Int) (w9 : Wd) (M9 : Int), Ti r zr → IM T W H P S M9 w9 → post r w9) : ∀ (n : Nat) (x1 : Int32) (x2 : Int32) (x4 : Int32) (x5 : Int32) (zx1 : Int) (zx2 : Int) (zx4 : Int) (zx5 : Int) (w : Wd), Ti x1 zx1 → Ti x2 zx2 → Ti x4 zx4 → Ti x5 zx5 → IM T W H P S M w → (0 ≤ zx5 ∧ zx5 ≤ 7) → (0 ≤ zx1 ∧ zx1 < M) → (8 - zx5) < (n : Int) → pX11_tree_41   post  n x1 x2 x4 x5 w := by
  intro n
  induction n with
  | zero =>
    intro x1 x2 x4 x5 zx1 zx2 zx4 zx5 w tx1 tx2 tx4 tx5 hI h0 h1 hm
    exact absurd hm (by omega)
  | succ n ih =>
    intro x1 x2 x4 x5 zx1 zx2 zx4 zx5 w tx1 tx2 tx4 tx5 hI h0 h1 hm
    unfold pX11_tree_41
    have hk := im_k hI
    obtain ⟨z1358, t1359⟩ := t_any (w.1 300 63)
    have f1360 := img_63 hI t1359
    refine ⟨fun c1361 => ?_, fun c1361 => ?_⟩
    · replace c1361 := c_le t1359 tx5 c1361
      have f1362 := t_rng tx4
      exact ⟨2147483649, sX11_tree_76    (hp := hp) 2147483649 _ _ _ _ _ _ _ _ _ _ _ _ _ tx1 tx2 tx4 lit_m1 lit_0 lit_0 hI (by omega) (by omega) (by omega) (by omega)⟩
    · replace c1361 := c_nle t1359 tx5 c1361
      obtain ⟨z1363, t1364, f1365⟩ := t_sub t1359 lit_1
      first | replace f1365 := f1365 (by omega) | clear f1365
      obtain ⟨z1366, t1367, f1368⟩ := t_mulv tx4 t1364
      first | replace f1368 := f1368 (by omega) | clear f1368
      intro x4_2v837 ex4_2v837
      have tx4_2v837 : Ti x4_2v837 z1366 := by rw [ex4_2v837]; exact t1367
      obtain ⟨z1369, t1370, f1371⟩ := t_add tx5 lit_1
      first | replace f1371 := f1371 (by omega) | clear f1371
      intro x5_3v838 ex5_3v838
      have tx5_3v838 : Ti x5_3v838 z1369 := by rw [ex5_3v838]; exact t1370
      exact ih _ _ _ _ _ _ _ _ _ tx1 tx2 tx4_2v837 tx5_3v838 hI (by omega) (by omega) (by omega)
set_option maxHeartbeats 4000000 in
set_option maxRecDepth 100000 in
theorem sX11_tree {T W H P S M : Int} {post : Int32 → Wd → Prop} {x1 : Int32} {zx1 : Int} {x2 : Int32} {zx2 : Int} {x3 : Int32} {zx3 : Int} {w : Wd}  (tx1 : Ti x1 zx1) (tx2 : Ti x2 zx2) (tx3 : Ti x3 zx3) (hI : IM T W H P S M w)  (hp : ∀ (r : Int32) (zr : Int) (w9 : Wd) (M9 : Int), Ti r zr → IM T W H P S M9 w9 → post r w9) : pX11_tree   post  x1 x2 x3 w := by
  unfold pX11_tree
  have hk := im_k hI
  intro w_1v839 ew_1v839
  have hIw_1v839 := ims_48 hI ew_1v839 lit_0 (by omega) (by omega)
  refine sX11_laySamples   (hI := hIw_1v839) (tx1 := tx3)  (hp := fun  w_2v840 g1372  hIw_2v840  => ?_)
  have f1373 := im_k hIw_2v840
  obtain ⟨z1374, t1375⟩ := t_any (w_2v840.1 300 63)
  have f1376 := img_63 hIw_2v840 t1375
  obtain ⟨z1377, t1378, f1379⟩ := t_sub t1375 lit_1
  first | replace f1379 := f1379 (by omega) | clear f1379
  refine sX11_isIn   (hI := hIw_2v840) (tx0 := tx1) (tx1 := lit_0) (tx2 := t1378)  (hp := fun r_3v841 zr_3v841 tr_3v841 p1380 p1381 => ?_)
  refine ⟨fun c1382 => ?_, fun c1382 => ?_⟩
  · replace c1382 := c_eq tr_3v841 lit_0 c1382
    exact hp _ _ _ _ lit_m1 hIw_2v840 
  · replace c1382 := c_neq tr_3v841 lit_0 c1382
    refine sX11_isIn   (hI := hIw_2v840) (tx0 := tx2) (tx1 := lit_0) (tx2 := lit_1)  (hp := fun r_6v845 zr_6v845 tr_6v845 p1383 p1384 => ?_)
    refine ⟨fun c1385 => ?_, fun c1385 => ?_⟩
    · replace c1385 := c_neq tr_6v845 lit_0 c1385
      exact ⟨70000, sX11_tree_41    (hp := hp) 70000 _ _ _ _ _ _ _ _ _ tx1 tx2 lit_1 lit_1 hIw_2v840 (by omega) (by omega) (by omega)⟩
    · replace c1385 := c_eq tr_6v845 lit_0 c1385
      exact hp _ _ _ _ lit_m1 hIw_2v840 
set_option maxHeartbeats 4000000 in
set_option maxRecDepth 100000 in
theorem sX11_centre_46 {T W H P S M : Int} {k31 : Int32 → Int32 → Int32 → Int32 → Wd → Prop} {M31 : Int} {post : Int32 → Wd → Prop}  (hk31 : ∀ (x1 : Int32) (x3 : Int32) (x4 : Int32) (x5 : Int32) (zx1 : Int) (zx3 : Int) (zx4 : Int) (zx5 : Int) (w : Wd), Ti x1 zx1 → Ti x3 zx3 → Ti x4 zx4 → Ti x5 zx5 → IM T W H P S M w → (0 ≤ zx5 ∧ zx5 ≤ 7) → (8 - zx5) < M31 → k31 x1 x3 x4 x5 w) (hp : ∀ (r : Int32) (zr : Int) (w9 : Wd) (M9 : Int), Ti r zr → IM T W H P S M9 w9 → post r w9) : ∀ (n : Nat) (x1 : Int32) (x3 : Int32) (x4 : Int32) (x5 : Int32) (x6 : Int32) (x7 : Int32) (zx1 : Int) (zx3 : Int) (zx4 : Int) (zx5 : Int) (zx6 : Int) (zx7 : Int) (w : Wd), Ti x1 zx1 → Ti x3 zx3 → Ti x4 zx4 → Ti x5 zx5 → Ti x6 zx6 → Ti x7 zx7 → IM T W H P S M w → (0 ≤ zx7 ∧ zx7 ≤ 7) → (zx5 ≤ 6) → (0 ≤ zx5 ∧ zx5 ≤ 7) → ((8 - zx5) ≤ M31) → (8 - zx7) < (n : Int) → pX11_centre_46 k31  post  n x1 x3 x4 x5 x6 x7 w := by
  intro n
  induction n with
  | zero =>
    intro x1 x3 x4 x5 x6 x7 zx1 zx3 zx4 zx5 zx6 zx7 w tx1 tx3 tx4 tx5 tx6 tx7 hI h0 h1 h2 h3 hm
    exact absurd hm (by omega)
  | succ n ih =>
    intro x1 x3 x4 x5 x6 x7 zx1 zx3 zx4 zx5 zx6 zx7 w tx1 tx3 tx4 tx5 tx6 tx7 hI h0 h1 h2 h3 hm
    unfold pX11_centre_46
    have hk := im_k hI
    obtain ⟨z1386, t1387⟩ := t_any (w.1 300 63)
    have f1388 := img_63 hI t1387
    refine ⟨fun c1389 => ?_, fun c1389 => ?_⟩
    · replace c1389 := c_le t1387 tx7 c1389
      refine ⟨fun c1390 => ?_, fun c1390 => ?_⟩
      · replace c1390 := c_lt tx3 lit_0 c1390
        unfold pX11_centre_100
        unfold pX11_centre_107
        obtain ⟨z1391, t1392, f1393⟩ := t_add tx5 lit_1
        first | replace f1393 := f1393 (by omega) | clear f1393
        intro x5_1v848 ex5_1v848
        have tx5_1v848 : Ti x5_1v848 z1391 := by rw [ex5_1v848]; exact t1392
        exact hk31 _ _ _ _ _ _ _ _ _ tx1 tx5 tx6 tx5_1v848 hI (by omega) (by omega)
      · replace c1390 := c_nlt tx3 lit_0 c1390
        refine ⟨fun c1394 => ?_, fun c1394 => ?_⟩
        · replace c1394 := c_lt tx6 tx4 c1394
          unfold pX11_centre_100
          unfold pX11_centre_107
          obtain ⟨z1395, t1396, f1397⟩ := t_add tx5 lit_1
          first | replace f1397 := f1397 (by omega) | clear f1397
          intro x5_1v849 ex5_1v849
          have tx5_1v849 : Ti x5_1v849 z1395 := by rw [ex5_1v849]; exact t1396
          exact hk31 _ _ _ _ _ _ _ _ _ tx1 tx5 tx6 tx5_1v849 hI (by omega) (by omega)
        · replace c1394 := c_nlt tx6 tx4 c1394
          unfold pX11_centre_107
          obtain ⟨z1398, t1399, f1400⟩ := t_add tx5 lit_1
          first | replace f1400 := f1400 (by omega) | clear f1400
          intro x5_1v850 ex5_1v850
          have tx5_1v850 : Ti x5_1v850 z1398 := by rw [ex5_1v850]; exact t1399
          exact hk31 _ _ _ _ _ _ _ _ _ tx1 tx3 tx4 tx5_1v850 hI (by omega) (by omega)
    · replace c1389 := c_nle t1387 tx7 c1389
      refine ⟨fun c1401 => ?_, fun c1401 => ?_⟩
      · replace c1401 := c_eq tx7 tx5 c1401
        unfold pX11_centre_80
        obtain ⟨z1402, t1403, f1404⟩ := t_add tx7 lit_1
        first | replace f1404 := f1404 (by omega) | clear f1404
        intro x7_1v851 ex7_1v851
        have tx7_1v851 : Ti x7_1v851 z1402 := by rw [ex7_1v851]; exact t1403
        exact ih _ _ _ _ _ _ _ _ _ _ _ _ _ tx1 tx3 tx4 tx5 tx6 tx7_1v851 hI (by omega) (by omega) (by omega) (by omega) (by omega)
      · replace c1401 := c_neq tx7 tx5 c1401
        obtain ⟨z1405, t1406, f1407⟩ := t_mul lit_7 tx5
        first | replace f1407 := f1407 (by omega) | clear f1407
        obtain ⟨z1408, t1409, f1410⟩ := t_add t1406 tx7
        first | replace f1410 := f1410 (by omega) | clear f1410
        refine ⟨vp_of t1409 (by omega) (by omega), ?_⟩
        obtain ⟨z1411, t1412⟩ := t_any (w.2.1 363 (((7 : Int32) * x5) + x7).toNatClampNeg)
        obtain ⟨z1414, t1415, f1416⟩ := t_add tx6 t1412
        first | replace f1416 := f1416 (by omega) | clear f1416
        intro x6_5v847 ex6_5v847
        have tx6_5v847 : Ti x6_5v847 z1414 := by rw [ex6_5v847]; exact t1415
        unfold pX11_centre_80
        obtain ⟨z1417, t1418, f1419⟩ := t_add tx7 lit_1
        first | replace f1419 := f1419 (by omega) | clear f1419
        intro x7_1v852 ex7_1v852
        have tx7_1v852 : Ti x7_1v852 z1417 := by rw [ex7_1v852]; exact t1418
        exact ih _ _ _ _ _ _ _ _ _ _ _ _ _ tx1 tx3 tx4 tx5 tx6_5v847 tx7_1v852 hI (by omega) (by omega) (by omega) (by omega) (by omega)
set_option maxHeartbeats 4000000 in
set_option maxRecDepth 100000 in
theorem sX11_centre_31 {T W H P S M : Int} {post : Int32 → Wd → Prop}   (hp : ∀ (r : Int32) (zr : Int) (w9 : Wd) (M9 : Int), Ti r zr → IM T W H P S M9 w9 → post r w9) : ∀ (n : Nat) (x1 : Int32) (x3 : Int32) (x4 : Int32) (x5 : Int32) (zx1 : Int) (zx3 : Int) (zx4 : Int) (zx5 : Int) (w : Wd), Ti x1 zx1 → Ti x3 zx3 → Ti x4 zx4 → Ti x5 zx5 → IM T W H P S M w → (0 ≤ zx5 ∧ zx5 ≤ 7) → (8 - zx5) < (n : Int) → pX11_centre_31   post  n x1 x3 x4 x5 w := by
  intro n
  induction n with
  | zero =>
    intro x1 x3 x4 x5 zx1 zx3 zx4 zx5 w tx1 tx3 tx4 tx5 hI h0 hm
    exact absurd hm (by omega)
  | succ n ih =>
    intro x1 x3 x4 x5 zx1 zx3 zx4 zx5 w tx1 tx3 tx4 tx5 hI h0 hm
    unfold pX11_centre_31
    have hk := im_k hI
    obtain ⟨z1420, t1421⟩ := t_any (w.1 300 63)
    have f1422 := img_63 hI t1421
    refine ⟨fun c1423 => ?_, fun c1423 => ?_⟩
    · replace c1423 := c_le t1421 tx5 c1423
      refine ⟨fun c1424 => ?_, fun c1424 => ?_⟩
      · replace c1424 := c_neq tx1 lit_0 c1424
        exact hp _ _ _ _ tx4 hI 
      · replace c1424 := c_eq tx1 lit_0 c1424
        exact hp _ _ _ _ tx3 hI 
    · replace c1423 := c_nle t1421 tx5 c1423
      exact ⟨70000, sX11_centre_46  (M31 := (n : Int)) (hk31 := ih)  (hp := hp) 70000 _ _ _ _ _ _ _ _ _ _ _ _ _ tx1 tx3 tx4 tx5 lit_0 lit_0 hI (by omega) (by omega) (by omega) (by omega) (by omega)⟩
set_option maxHeartbeats 4000000 in
set_option maxRecDepth 100000 in
theorem sX11_centre {T W H P S M : Int} {post : Int32 → Wd → Prop} {x1 : Int32} {zx1 : Int} {x2 : Int32} {zx2 : Int} {w : Wd}  (tx1 : Ti x1 zx1) (tx2 : Ti x2 zx2) (hI : IM T W H P S M w)  (hp : ∀ (r : Int32) (zr : Int) (w9 : Wd) (M9 : Int), Ti r zr → IM T W H P S M9 w9 → post r w9) : pX11_centre   post  x1 x2 w := by
  unfold pX11_centre
  have hk := im_k hI
  refine sX11_laySamples   (hI := hI) (tx1 := tx2)  (hp := fun  w_1v853 g1425  hIw_1v853  => ?_)
  have f1426 := im_k hIw_1v853
  obtain ⟨z1427, t1428⟩ := t_any (w_1v853.1 300 63)
  have f1429 := img_63 hIw_1v853 t1428
  refine ⟨fun c1430 => ?_, fun c1430 => ?_⟩
  · replace c1430 := c_eq t1428 lit_0 c1430
    exact hp _ _ _ _ lit_m1 hIw_1v853 
  · replace c1430 := c_neq t1428 lit_0 c1430
    refine sX11_isIn   (hI := hIw_1v853) (tx0 := tx1) (tx1 := lit_0) (tx2 := lit_1)  (hp := fun r_3v854 zr_3v854 tr_3v854 p1431 p1432 => ?_)
    refine ⟨fun c1433 => ?_, fun c1433 => ?_⟩
    · replace c1433 := c_neq tr_3v854 lit_0 c1433
      exact ⟨70000, sX11_centre_31    (hp := hp) 70000 _ _ _ _ _ _ _ _ _ tx1 lit_m1 lit_0 lit_0 hIw_1v853 (by omega) (by omega)⟩
    · replace c1433 := c_eq tr_3v854 lit_0 c1433
      exact hp _ _ _ _ lit_m1 hIw_1v853 
set_option maxHeartbeats 4000000 in
set_option maxRecDepth 100000 in
theorem sX11_layClans_140 {T W H P S M : Int} {k35 : Int32 → Int32 → Int32 → Wd → Prop} {M35 : Int} {M25 : Int} {post : Wd → Prop}  (hk35 : ∀ (x1 : Int32) (x2 : Int32) (x3 : Int32) (zx1 : Int) (zx2 : Int) (zx3 : Int) (w : Wd), Ti x1 zx1 → Ti x2 zx2 → Ti x3 zx3 → IM T W H P S M w → (0 ≤ zx3 ∧ zx3 ≤ 7) → (zx2 ≤ 6) → (0 ≤ zx2 ∧ zx2 ≤ 7) → ((8 - zx2) ≤ M25) → (8 - zx3) < M35 → k35 x1 x2 x3 w) (hp : ∀ (w9 : Wd), IM T W H P S M w9 → post w9) : ∀ (n : Nat) (x1 : Int32) (x2 : Int32) (x3 : Int32) (x4 : Int32) (x5 : Int32) (x6 : Int32) (zx1 : Int) (zx2 : Int) (zx3 : Int) (zx4 : Int) (zx5 : Int) (zx6 : Int) (w : Wd), Ti x1 zx1 → Ti x2 zx2 → Ti x3 zx3 → Ti x4 zx4 → Ti x5 zx5 → Ti x6 zx6 → IM T W H P S M w → (0 ≤ zx6 ∧ zx6 ≤ 7) → (zx3 < zx2) → (0 ≤ zx3) → (0 ≤ zx3 ∧ zx3 ≤ 7) → (zx2 ≤ 6) → (0 ≤ zx2 ∧ zx2 ≤ 7) → ((8 - zx2) ≤ M25) → ((8 - zx3) ≤ M35) → (8 - zx6) < (n : Int) → pX11_layClans_140 k35  post  n x1 x2 x3 x4 x5 x6 w := by
  intro n
  induction n with
  | zero =>
    intro x1 x2 x3 x4 x5 x6 zx1 zx2 zx3 zx4 zx5 zx6 w tx1 tx2 tx3 tx4 tx5 tx6 hI h0 h1 h2 h3 h4 h5 h6 h7 hm
    exact absurd hm (by omega)
  | succ n ih =>
    intro x1 x2 x3 x4 x5 x6 zx1 zx2 zx3 zx4 zx5 zx6 w tx1 tx2 tx3 tx4 tx5 tx6 hI h0 h1 h2 h3 h4 h5 h6 h7 hm
    unfold pX11_layClans_140
    have hk := im_k hI
    obtain ⟨z1434, t1435⟩ := t_any (w.1 300 63)
    have f1436 := img_63 hI t1435
    refine ⟨fun c1437 => ?_, fun c1437 => ?_⟩
    · replace c1437 := c_le t1435 tx6 c1437
      unfold pX11_layClans_176
      obtain ⟨z1438, t1439, f1440⟩ := t_add tx3 lit_1
      first | replace f1440 := f1440 (by omega) | clear f1440
      intro x3_1v857 ex3_1v857
      have tx3_1v857 : Ti x3_1v857 z1438 := by rw [ex3_1v857]; exact t1439
      exact hk35 _ _ _ _ _ _ _ tx1 tx2 tx3_1v857 hI (by omega) (by omega) (by omega) (by omega) (by omega)
    · replace c1437 := c_nle t1435 tx6 c1437
      refine ⟨vp_of tx6 (by omega) (by omega), ?_⟩
      obtain ⟨z1441, t1442⟩ := t_any (w.2.1 365 x6.toNatClampNeg)
      refine ⟨fun c1444 => ?_, fun c1444 => ?_⟩
      · replace c1444 := c_neq t1442 tx5 c1444
        unfold pX11_layClans_170
        obtain ⟨z1445, t1446, f1447⟩ := t_add tx6 lit_1
        first | replace f1447 := f1447 (by omega) | clear f1447
        intro x6_1v858 ex6_1v858
        have tx6_1v858 : Ti x6_1v858 z1445 := by rw [ex6_1v858]; exact t1446
        exact ih _ _ _ _ _ _ _ _ _ _ _ _ _ tx1 tx2 tx3 tx4 tx5 tx6_1v858 hI (by omega) (by omega) (by omega) (by omega) (by omega) (by omega) (by omega) (by omega) (by omega)
      · replace c1444 := c_eq t1442 tx5 c1444
        refine ⟨vp_of tx6 (by omega) (by omega), ?_⟩
        intro w_3v856 ew_3v856
        have hIw_3v856 := ims_A hI ew_3v856 (by decide)
        unfold pX11_layClans_170
        obtain ⟨z1448, t1449, f1450⟩ := t_add tx6 lit_1
        first | replace f1450 := f1450 (by omega) | clear f1450
        intro x6_1v859 ex6_1v859
        have tx6_1v859 : Ti x6_1v859 z1448 := by rw [ex6_1v859]; exact t1449
        exact ih _ _ _ _ _ _ _ _ _ _ _ _ _ tx1 tx2 tx3 tx4 tx5 tx6_1v859 hIw_3v856 (by omega) (by omega) (by omega) (by omega) (by omega) (by omega) (by omega) (by omega) (by omega)
set_option maxHeartbeats 4000000 in
set_option maxRecDepth 100000 in
theorem sX11_layClans_35 {T W H P S M : Int} {k25 : Int32 → Int32 → Wd → Prop} {M25 : Int} {post : Wd → Prop}  (hk25 : ∀ (x1 : Int32) (x2 : Int32) (zx1 : Int) (zx2 : Int) (w : Wd), Ti x1 zx1 → Ti x2 zx2 → IM T W H P S M w → (0 ≤ zx2 ∧ zx2 ≤ 7) → (8 - zx2) < M25 → k25 x1 x2 w) (hp : ∀ (w9 : Wd), IM T W H P S M w9 → post w9) : ∀ (n : Nat) (x1 : Int32) (x2 : Int32) (x3 : Int32) (zx1 : Int) (zx2 : Int) (zx3 : Int) (w : Wd), Ti x1 zx1 → Ti x2 zx2 → Ti x3 zx3 → IM T W H P S M w → (0 ≤ zx3 ∧ zx3 ≤ 7) → (zx2 ≤ 6) → (0 ≤ zx2 ∧ zx2 ≤ 7) → ((8 - zx2) ≤ M25) → (8 - zx3) < (n : Int) → pX11_layClans_35 k25  post  n x1 x2 x3 w := by
  intro n
  induction n with
  | zero =>
    intro x1 x2 x3 zx1 zx2 zx3 w tx1 tx2 tx3 hI h0 h1 h2 h3 hm
    exact absurd hm (by omega)
  | succ n ih =>
    intro x1 x2 x3 zx1 zx2 zx3 w tx1 tx2 tx3 hI h0 h1 h2 h3 hm
    unfold pX11_layClans_35
    have hk := im_k hI
    refine ⟨fun c1451 => ?_, fun c1451 => ?_⟩
    · replace c1451 := c_le tx2 tx3 c1451
      obtain ⟨z1452, t1453, f1454⟩ := t_add tx2 lit_1
      first | replace f1454 := f1454 (by omega) | clear f1454
      intro x2_2v860 ex2_2v860
      have tx2_2v860 : Ti x2_2v860 z1452 := by rw [ex2_2v860]; exact t1453
      exact hk25 _ _ _ _ _ tx1 tx2_2v860 hI (by omega) (by omega)
    · replace c1451 := c_nle tx2 tx3 c1451
      obtain ⟨z1455, t1456, f1457⟩ := t_mul lit_7 tx2
      first | replace f1457 := f1457 (by omega) | clear f1457
      obtain ⟨z1458, t1459, f1460⟩ := t_add t1456 tx3
      first | replace f1460 := f1460 (by omega) | clear f1460
      refine ⟨vp_of t1459 (by omega) (by omega), ?_⟩
      obtain ⟨z1461, t1462⟩ := t_any (w.2.1 363 (((7 : Int32) * x2) + x3).toNatClampNeg)
      refine ⟨fun c1464 => ?_, fun c1464 => ?_⟩
      · replace c1464 := c_le t1462 tx1 c1464
        unfold pX11_layClans_73
        refine ⟨vp_of tx2 (by omega) (by omega), ?_⟩
        refine ⟨vp_of tx3 (by omega) (by omega), ?_⟩
        obtain ⟨z1465, t1466⟩ := t_any (w.2.1 365 x3.toNatClampNeg)
        obtain ⟨z1468, t1469⟩ := t_any (w.2.1 365 x2.toNatClampNeg)
        refine ⟨fun c1471 => ?_, fun c1471 => ?_⟩
        · replace c1471 := c_le t1466 t1469 c1471
          refine ⟨vp_of tx3 (by omega) (by omega), ?_⟩
          unfold pX11_layClans_103
          refine ⟨vp_of tx2 (by omega) (by omega), ?_⟩
          refine ⟨vp_of tx3 (by omega) (by omega), ?_⟩
          refine ⟨fun c1472 => ?_, fun c1472 => ?_⟩
          · replace c1472 := c_le t1466 t1469 c1472
            refine ⟨vp_of tx2 (by omega) (by omega), ?_⟩
            unfold pX11_layClans_135
            exact ⟨70000, sX11_layClans_140  (M35 := (n : Int)) (hk35 := ih)  (hp := hp) 70000 _ _ _ _ _ _ _ _ _ _ _ _ _ tx1 tx2 tx3 t1466 t1469 lit_0 hI (by omega) (by omega) (by omega) (by omega) (by omega) (by omega) (by omega) (by omega) (by omega)⟩
          · replace c1472 := c_nle t1466 t1469 c1472
            refine ⟨vp_of tx3 (by omega) (by omega), ?_⟩
            unfold pX11_layClans_135
            exact ⟨70000, sX11_layClans_140  (M35 := (n : Int)) (hk35 := ih)  (hp := hp) 70000 _ _ _ _ _ _ _ _ _ _ _ _ _ tx1 tx2 tx3 t1466 t1466 lit_0 hI (by omega) (by omega) (by omega) (by omega) (by omega) (by omega) (by omega) (by omega) (by omega)⟩
        · replace c1471 := c_nle t1466 t1469 c1471
          refine ⟨vp_of tx2 (by omega) (by omega), ?_⟩
          unfold pX11_layClans_103
          refine ⟨vp_of tx2 (by omega) (by omega), ?_⟩
          refine ⟨vp_of tx3 (by omega) (by omega), ?_⟩
          refine ⟨fun c1473 => ?_, fun c1473 => ?_⟩
          · replace c1473 := c_le t1466 t1469 c1473
            refine ⟨vp_of tx2 (by omega) (by omega), ?_⟩
            unfold pX11_layClans_135
            exact ⟨70000, sX11_layClans_140  (M35 := (n : Int)) (hk35 := ih)  (hp := hp) 70000 _ _ _ _ _ _ _ _ _ _ _ _ _ tx1 tx2 tx3 t1469 t1469 lit_0 hI (by omega) (by omega) (by omega) (by omega) (by omega) (by omega) (by omega) (by omega) (by omega)⟩
          · replace c1473 := c_nle t1466 t1469 c1473
            refine ⟨vp_of tx3 (by omega) (by omega), ?_⟩
            unfold pX11_layClans_135
            exact ⟨70000, sX11_layClans_140  (M35 := (n : Int)) (hk35 := ih)  (hp := hp) 70000 _ _ _ _ _ _ _ _ _ _ _ _ _ tx1 tx2 tx3 t1469 t1466 lit_0 hI (by omega) (by omega) (by omega) (by omega) (by omega) (by omega) (by omega) (by omega) (by omega)⟩
      · replace c1464 := c_nle t1462 tx1 c1464
        obtain ⟨z1474, t1475, f1476⟩ := t_mul lit_7 tx3
        first | replace f1476 := f1476 (by omega) | clear f1476
        obtain ⟨z1477, t1478, f1479⟩ := t_add t1475 tx2
        first | replace f1479 := f1479 (by omega) | clear f1479
        refine ⟨vp_of t1478 (by omega) (by omega), ?_⟩
        obtain ⟨z1480, t1481⟩ := t_any (w.2.1 363 (((7 : Int32) * x3) + x2).toNatClampNeg)
        refine ⟨fun c1483 => ?_, fun c1483 => ?_⟩
        · replace c1483 := c_le t1481 tx1 c1483
          unfold pX11_layClans_73
          refine ⟨vp_of tx2 (by omega) (by omega), ?_⟩
          refine ⟨vp_of tx3 (by omega) (by omega), ?_⟩
          obtain ⟨z1484, t1485⟩ := t_any (w.2.1 365 x3.toNatClampNeg)
          obtain ⟨z1487, t1488⟩ := t_any (w.2.1 365 x2.toNatClampNeg)
          refine ⟨fun c1490 => ?_, fun c1490 => ?_⟩
          · replace c1490 := c_le t1485 t1488 c1490
            refine ⟨vp_of tx3 (by omega) (by omega), ?_⟩
            unfold pX11_layClans_103
            refine ⟨vp_of tx2 (by omega) (by omega), ?_⟩
            refine ⟨vp_of tx3 (by omega) (by omega), ?_⟩
            refine ⟨fun c1491 => ?_, fun c1491 => ?_⟩
            · replace c1491 := c_le t1485 t1488 c1491
              refine ⟨vp_of tx2 (by omega) (by omega), ?_⟩
              unfold pX11_layClans_135
              exact ⟨70000, sX11_layClans_140  (M35 := (n : Int)) (hk35 := ih)  (hp := hp) 70000 _ _ _ _ _ _ _ _ _ _ _ _ _ tx1 tx2 tx3 t1485 t1488 lit_0 hI (by omega) (by omega) (by omega) (by omega) (by omega) (by omega) (by omega) (by omega) (by omega)⟩
            · replace c1491 := c_nle t1485 t1488 c1491
              refine ⟨vp_of tx3 (by omega) (by omega), ?_⟩
              unfold pX11_layClans_135
              exact ⟨70000, sX11_layClans_140  (M35 := (n : Int)) (hk35 := ih)  (hp := hp) 70000 _ _ _ _ _ _ _ _ _ _ _ _ _ tx1 tx2 tx3 t1485 t1485 lit_0 hI (by omega) (by omega) (by omega) (by omega) (by omega) (by omega) (by omega) (by omega) (by omega)⟩
          · replace c1490 := c_nle t1485 t1488 c1490
            refine ⟨vp_of tx2 (by omega) (by omega), ?_⟩
            unfold pX11_layClans_103
            refine ⟨vp_of tx2 (by omega) (by omega), ?_⟩
            refine ⟨vp_of tx3 (by omega) (by omega), ?_⟩
            refine ⟨fun c1492 => ?_, fun c1492 => ?_⟩
            · replace c1492 := c_le t1485 t1488 c1492
              refine ⟨vp_of tx2 (by omega) (by omega), ?_⟩
              unfold pX11_layClans_135
              exact ⟨70000, sX11_layClans_140  (M35 := (n : Int)) (hk35 := ih)  (hp := hp) 70000 _ _ _ _ _ _ _ _ _ _ _ _ _ tx1 tx2 tx3 t1488 t1488 lit_0 hI (by omega) (by omega) (by omega) (by omega) (by omega) (by omega) (by omega) (by omega) (by omega)⟩
            · replace c1492 := c_nle t1485 t1488 c1492
              refine ⟨vp_of tx3 (by omega) (by omega), ?_⟩
              unfold pX11_layClans_135
              exact ⟨70000, sX11_layClans_140  (M35 := (n : Int)) (hk35 := ih)  (hp := hp) 70000 _ _ _ _ _ _ _ _ _ _ _ _ _ tx1 tx2 tx3 t1488 t1485 lit_0 hI (by omega) (by omega) (by omega) (by omega) (by omega) (by omega) (by omega) (by omega) (by omega)⟩
        · replace c1483 := c_nle t1481 tx1 c1483
          unfold pX11_layClans_176
          obtain ⟨z1493, t1494, f1495⟩ := t_add tx3 lit_1
          first | replace f1495 := f1495 (by omega) | clear f1495
          intro x3_1v861 ex3_1v861
          have tx3_1v861 : Ti x3_1v861 z1493 := by rw [ex3_1v861]; exact t1494
          exact ih _ _ _ _ _ _ _ tx1 tx2 tx3_1v861 hI (by omega) (by omega) (by omega) (by omega) (by omega)
set_option maxHeartbeats 4000000 in
set_option maxRecDepth 100000 in
theorem sX11_layClans_25 {T W H P S M : Int} {post : Wd → Prop}   (hp : ∀ (w9 : Wd), IM T W H P S M w9 → post w9) : ∀ (n : Nat) (x1 : Int32) (x2 : Int32) (zx1 : Int) (zx2 : Int) (w : Wd), Ti x1 zx1 → Ti x2 zx2 → IM T W H P S M w → (0 ≤ zx2 ∧ zx2 ≤ 7) → (8 - zx2) < (n : Int) → pX11_layClans_25   post  n x1 x2 w := by
  intro n
  induction n with
  | zero =>
    intro x1 x2 zx1 zx2 w tx1 tx2 hI h0 hm
    exact absurd hm (by omega)
  | succ n ih =>
    intro x1 x2 zx1 zx2 w tx1 tx2 hI h0 hm
    unfold pX11_layClans_25
    have hk := im_k hI
    obtain ⟨z1496, t1497⟩ := t_any (w.1 300 63)
    have f1498 := img_63 hI t1497
    refine ⟨fun c1499 => ?_, fun c1499 => ?_⟩
    · replace c1499 := c_le t1497 tx2 c1499
      exact hp  _   hI 
    · replace c1499 := c_nle t1497 tx2 c1499
      exact ⟨70000, sX11_layClans_35  (M25 := (n : Int)) (hk25 := ih)  (hp := hp) 70000 _ _ _ _ _ _ _ tx1 tx2 lit_0 hI (by omega) (by omega) (by omega) (by omega) (by omega)⟩
set_option maxHeartbeats 4000000 in
set_option maxRecDepth 100000 in
theorem sX11_layClans_2 {T W H P S M : Int} {post : Wd → Prop}   (hp : ∀ (w9 : Wd), IM T W H P S M w9 → post w9) : ∀ (n : Nat) (x1 : Int32) (x2 : Int32) (zx1 : Int) (zx2 : Int) (w : Wd), Ti x1 zx1 → Ti x2 zx2 → IM T W H P S M w → (0 ≤ zx2 ∧ zx2 ≤ 7) → (8 - zx2) < (n : Int) → pX11_layClans_2   post  n x1 x2 w := by
  intro n
  induction n with
  | zero =>
    intro x1 x2 zx1 zx2 w tx1 tx2 hI h0 hm
    exact absurd hm (by omega)
  | succ n ih =>
    intro x1 x2 zx1 zx2 w tx1 tx2 hI h0 hm
    unfold pX11_layClans_2
    have hk := im_k hI
    obtain ⟨z1500, t1501⟩ := t_any (w.1 300 63)
    have f1502 := img_63 hI t1501
    refine ⟨fun c1503 => ?_, fun c1503 => ?_⟩
    · replace c1503 := c_le t1501 tx2 c1503
      exact ⟨70000, sX11_layClans_25    (hp := hp) 70000 _ _ _ _ _ tx1 lit_0 hI (by omega) (by omega)⟩
    · replace c1503 := c_nle t1501 tx2 c1503
      refine ⟨vp_of tx2 (by omega) (by omega), ?_⟩
      intro w_2v862 ew_2v862
      have hIw_2v862 := ims_A hI ew_2v862 (by decide)
      obtain ⟨z1504, t1505, f1506⟩ := t_add tx2 lit_1
      first | replace f1506 := f1506 (by omega) | clear f1506
      intro x2_3v863 ex2_3v863
      have tx2_3v863 : Ti x2_3v863 z1504 := by rw [ex2_3v863]; exact t1505
      exact ih _ _ _ _ _ tx1 tx2_3v863 hIw_2v862 (by omega) (by omega)
set_option maxHeartbeats 4000000 in
set_option maxRecDepth 100000 in
theorem sX11_layClans {T W H P S M : Int} {post : Wd → Prop} {x1 : Int32} {zx1 : Int} {w : Wd}  (tx1 : Ti x1 zx1) (hI : IM T W H P S M w)  (hp : ∀ (w9 : Wd), IM T W H P S M w9 → post w9) : pX11_layClans   post  x1 w := by
  unfold pX11_layClans
  have hk := im_k hI
  exact ⟨70000, sX11_layClans_2    (hp := hp) 70000 _ _ _ _ _ tx1 lit_0 hI (by omega) (by omega)⟩
set_option maxHeartbeats 4000000 in
set_option maxRecDepth 100000 in
theorem sX11_clans_55 {T W H P S M : Int} {k40 : Int32 → Int32 → Int32 → Int32 → Wd → Prop} {M40 : Int} {post : Int32 → Wd → Prop}  (hk40 : ∀ (x2 : Int32) (x4 : Int32) (x5 : Int32) (x6 : Int32) (zx2 : Int) (zx4 : Int) (zx5 : Int) (zx6 : Int) (w : Wd), Ti x2 zx2 → Ti x4 zx4 → Ti x5 zx5 → Ti x6 zx6 → IM T W H P S M w → (0 ≤ zx6 ∧ zx6 ≤ 7) → (8 - zx6) < M40 → k40 x2 x4 x5 x6 w) (hp : ∀ (r : Int32) (zr : Int) (w9 : Wd) (M9 : Int), Ti r zr → IM T W H P S M9 w9 → post r w9) : ∀ (n : Nat) (x2 : Int32) (x4 : Int32) (x5 : Int32) (x6 : Int32) (x7 : Int32) (x8 : Int32) (zx2 : Int) (zx4 : Int) (zx5 : Int) (zx6 : Int) (zx7 : Int) (zx8 : Int) (w : Wd), Ti x2 zx2 → Ti x4 zx4 → Ti x5 zx5 → Ti x6 zx6 → Ti x7 zx7 → Ti x8 zx8 → IM T W H P S M w → (0 ≤ zx8 ∧ zx8 ≤ 7) → (zx6 ≤ 6) → (0 ≤ zx6 ∧ zx6 ≤ 7) → ((8 - zx6) ≤ M40) → (8 - zx8) < (n : Int) → pX11_clans_55 k40  post  n x2 x4 x5 x6 x7 x8 w := by
  intro n
  induction n with
  | zero =>
    intro x2 x4 x5 x6 x7 x8 zx2 zx4 zx5 zx6 zx7 zx8 w tx2 tx4 tx5 tx6 tx7 tx8 hI h0 h1 h2 h3 hm
    exact absurd hm (by omega)
  | succ n ih =>
    intro x2 x4 x5 x6 x7 x8 zx2 zx4 zx5 zx6 zx7 zx8 w tx2 tx4 tx5 tx6 tx7 tx8 hI h0 h1 h2 h3 hm
    unfold pX11_clans_55
    have hk := im_k hI
    obtain ⟨z1507, t1508⟩ := t_any (w.1 300 63)
    have f1509 := img_63 hI t1508
    refine ⟨fun c1510 => ?_, fun c1510 => ?_⟩
    · replace c1510 := c_le t1508 tx8 c1510
      refine ⟨fun c1511 => ?_, fun c1511 => ?_⟩
      · replace c1511 := c_le tx7 lit_0 c1511
        unfold pX11_clans_104
        obtain ⟨z1512, t1513, f1514⟩ := t_add tx4 lit_0
        first | replace f1514 := f1514 (by omega) | clear f1514
        intro x4_1v864 ex4_1v864
        have tx4_1v864 : Ti x4_1v864 z1512 := by rw [ex4_1v864]; exact t1513
        refine ⟨fun c1515 => ?_, fun c1515 => ?_⟩
        · replace c1515 := c_le tx7 tx5 c1515
          unfold pX11_clans_118
          obtain ⟨z1516, t1517, f1518⟩ := t_add tx6 lit_1
          first | replace f1518 := f1518 (by omega) | clear f1518
          intro x6_1v865 ex6_1v865
          have tx6_1v865 : Ti x6_1v865 z1516 := by rw [ex6_1v865]; exact t1517
          exact hk40 _ _ _ _ _ _ _ _ _ tx2 tx4_1v864 tx5 tx6_1v865 hI (by omega) (by omega)
        · replace c1515 := c_nle tx7 tx5 c1515
          unfold pX11_clans_118
          obtain ⟨z1519, t1520, f1521⟩ := t_add tx6 lit_1
          first | replace f1521 := f1521 (by omega) | clear f1521
          intro x6_1v866 ex6_1v866
          have tx6_1v866 : Ti x6_1v866 z1519 := by rw [ex6_1v866]; exact t1520
          exact hk40 _ _ _ _ _ _ _ _ _ tx2 tx4_1v864 tx7 tx6_1v866 hI (by omega) (by omega)
      · replace c1511 := c_nle tx7 lit_0 c1511
        unfold pX11_clans_104
        obtain ⟨z1522, t1523, f1524⟩ := t_add tx4 lit_1
        first | replace f1524 := f1524 (by omega) | clear f1524
        intro x4_1v867 ex4_1v867
        have tx4_1v867 : Ti x4_1v867 z1522 := by rw [ex4_1v867]; exact t1523
        refine ⟨fun c1525 => ?_, fun c1525 => ?_⟩
        · replace c1525 := c_le tx7 tx5 c1525
          unfold pX11_clans_118
          obtain ⟨z1526, t1527, f1528⟩ := t_add tx6 lit_1
          first | replace f1528 := f1528 (by omega) | clear f1528
          intro x6_1v868 ex6_1v868
          have tx6_1v868 : Ti x6_1v868 z1526 := by rw [ex6_1v868]; exact t1527
          exact hk40 _ _ _ _ _ _ _ _ _ tx2 tx4_1v867 tx5 tx6_1v868 hI (by omega) (by omega)
        · replace c1525 := c_nle tx7 tx5 c1525
          unfold pX11_clans_118
          obtain ⟨z1529, t1530, f1531⟩ := t_add tx6 lit_1
          first | replace f1531 := f1531 (by omega) | clear f1531
          intro x6_1v869 ex6_1v869
          have tx6_1v869 : Ti x6_1v869 z1529 := by rw [ex6_1v869]; exact t1530
          exact hk40 _ _ _ _ _ _ _ _ _ tx2 tx4_1v867 tx7 tx6_1v869 hI (by omega) (by omega)
    · replace c1510 := c_nle t1508 tx8 c1510
      refine ⟨vp_of tx8 (by omega) (by omega), ?_⟩
      obtain ⟨z1532, t1533⟩ := t_any (w.2.1 365 x8.toNatClampNeg)
      refine ⟨fun c1535 => ?_, fun c1535 => ?_⟩
      · replace c1535 := c_neq t1533 tx6 c1535
        unfold pX11_clans_83
        obtain ⟨z1536, t1537, f1538⟩ := t_add tx7 lit_0
        first | replace f1538 := f1538 (by omega) | clear f1538
        intro x7_1v870 ex7_1v870
        have tx7_1v870 : Ti x7_1v870 z1536 := by rw [ex7_1v870]; exact t1537
        obtain ⟨z1539, t1540, f1541⟩ := t_add tx8 lit_1
        first | replace f1541 := f1541 (by omega) | clear f1541
        intro x8_2v871 ex8_2v871
        have tx8_2v871 : Ti x8_2v871 z1539 := by rw [ex8_2v871]; exact t1540
        exact ih _ _ _ _ _ _ _ _ _ _ _ _ _ tx2 tx4 tx5 tx6 tx7_1v870 tx8_2v871 hI (by omega) (by omega) (by omega) (by omega) (by omega)
      · replace c1535 := c_eq t1533 tx6 c1535
        unfold pX11_clans_83
        obtain ⟨z1542, t1543, f1544⟩ := t_add tx7 lit_1
        first | replace f1544 := f1544 (by omega) | clear f1544
        intro x7_1v872 ex7_1v872
        have tx7_1v872 : Ti x7_1v872 z1542 := by rw [ex7_1v872]; exact t1543
        obtain ⟨z1545, t1546, f1547⟩ := t_add tx8 lit_1
        first | replace f1547 := f1547 (by omega) | clear f1547
        intro x8_2v873 ex8_2v873
        have tx8_2v873 : Ti x8_2v873 z1545 := by rw [ex8_2v873]; exact t1546
        exact ih _ _ _ _ _ _ _ _ _ _ _ _ _ tx2 tx4 tx5 tx6 tx7_1v872 tx8_2v873 hI (by omega) (by omega) (by omega) (by omega) (by omega)
set_option maxHeartbeats 4000000 in
set_option maxRecDepth 100000 in
theorem sX11_clans_40 {T W H P S M : Int} {post : Int32 → Wd → Prop}   (hp : ∀ (r : Int32) (zr : Int) (w9 : Wd) (M9 : Int), Ti r zr → IM T W H P S M9 w9 → post r w9) : ∀ (n : Nat) (x2 : Int32) (x4 : Int32) (x5 : Int32) (x6 : Int32) (zx2 : Int) (zx4 : Int) (zx5 : Int) (zx6 : Int) (w : Wd), Ti x2 zx2 → Ti x4 zx4 → Ti x5 zx5 → Ti x6 zx6 → IM T W H P S M w → (0 ≤ zx6 ∧ zx6 ≤ 7) → (8 - zx6) < (n : Int) → pX11_clans_40   post  n x2 x4 x5 x6 w := by
  intro n
  induction n with
  | zero =>
    intro x2 x4 x5 x6 zx2 zx4 zx5 zx6 w tx2 tx4 tx5 tx6 hI h0 hm
    exact absurd hm (by omega)
  | succ n ih =>
    intro x2 x4 x5 x6 zx2 zx4 zx5 zx6 w tx2 tx4 tx5 tx6 hI h0 hm
    unfold pX11_clans_40
    have hk := im_k hI
    obtain ⟨z1548, t1549⟩ := t_any (w.1 300 63)
    have f1550 := img_63 hI t1549
    refine ⟨fun c1551 => ?_, fun c1551 => ?_⟩
    · replace c1551 := c_le t1549 tx6 c1551
      refine ⟨fun c1552 => ?_, fun c1552 => ?_⟩
      · replace c1552 := c_neq tx2 lit_0 c1552
        exact hp _ _ _ _ tx5 hI 
      · replace c1552 := c_eq tx2 lit_0 c1552
        exact hp _ _ _ _ tx4 hI 
    · replace c1551 := c_nle t1549 tx6 c1551
      exact ⟨70000, sX11_clans_55  (M40 := (n : Int)) (hk40 := ih)  (hp := hp) 70000 _ _ _ _ _ _ _ _ _ _ _ _ _ tx2 tx4 tx5 tx6 lit_0 lit_0 hI (by omega) (by omega) (by omega) (by omega) (by omega)⟩
set_option maxHeartbeats 4000000 in
set_option maxRecDepth 100000 in
theorem sX11_clans {T W H P S M : Int} {post : Int32 → Wd → Prop} {x1 : Int32} {zx1 : Int} {x2 : Int32} {zx2 : Int} {x3 : Int32} {zx3 : Int} {w : Wd}  (tx1 : Ti x1 zx1) (tx2 : Ti x2 zx2) (tx3 : Ti x3 zx3) (hI : IM T W H P S M w)  (hp : ∀ (r : Int32) (zr : Int) (w9 : Wd) (M9 : Int), Ti r zr → IM T W H P S M9 w9 → post r w9) : pX11_clans   post  x1 x2 x3 w := by
  unfold pX11_clans
  have hk := im_k hI
  refine sX11_isIn   (hI := hI) (tx0 := tx1) (tx1 := lit_0) (tx2 := lit_24)  (hp := fun r_1v874 zr_1v874 tr_1v874 p1553 p1554 => ?_)
  refine ⟨fun c1555 => ?_, fun c1555 => ?_⟩
  · replace c1555 := c_eq tr_1v874 lit_0 c1555
    exact hp _ _ _ _ lit_m1 hI 
  · replace c1555 := c_neq tr_1v874 lit_0 c1555
    refine sX11_isIn   (hI := hI) (tx0 := tx2) (tx1 := lit_0) (tx2 := lit_1)  (hp := fun r_4v880 zr_4v880 tr_4v880 p1556 p1557 => ?_)
    refine ⟨fun c1558 => ?_, fun c1558 => ?_⟩
    · replace c1558 := c_neq tr_4v880 lit_0 c1558
      refine sX11_laySamples   (hI := hI) (tx1 := tx3)  (hp := fun  w_7v884 g1559  hIw_7v884  => ?_)
      have f1560 := im_k hIw_7v884
      refine sX11_layClans   (hI := hIw_7v884) (tx1 := tx1)  (hp := fun  w_8v885   hIw_8v885  => ?_)
      exact ⟨70000, sX11_clans_40    (hp := hp) 70000 _ _ _ _ _ _ _ _ _ tx2 lit_0 lit_0 lit_0 hIw_8v885 (by omega) (by omega)⟩
    · replace c1558 := c_eq tr_4v880 lit_0 c1558
      exact hp _ _ _ _ lit_m1 hI 
set_option maxHeartbeats 4000000 in
set_option maxRecDepth 100000 in
theorem sX11_origin_37 {T W H P S M : Int} {k19 : Int32 → Int32 → Int32 → Int32 → Int32 → Wd → Prop} {M19 : Int} {post : Int32 → Wd → Prop} {w : Wd} (hk19 : ∀ (x1 : Int32) (x2 : Int32) (x3 : Int32) (x4 : Int32) (x5 : Int32) (zx1 : Int) (zx2 : Int) (zx3 : Int) (zx4 : Int) (zx5 : Int), Ti x1 zx1 → Ti x2 zx2 → Ti x3 zx3 → Ti x4 zx4 → Ti x5 zx5 → IM T W H P S M w → (0 ≤ zx5 ∧ zx5 ≤ 12) → (13 - zx5) < M19 → k19 x1 x2 x3 x4 x5 w) (hp : ∀ (r : Int32) (zr : Int), Ti r zr → post r w) : ∀ (n : Nat) (x1 : Int32) (x2 : Int32) (x3 : Int32) (x4 : Int32) (x5 : Int32) (x6 : Int32) (x7 : Int32) (x8 : Int32) (zx1 : Int) (zx2 : Int) (zx3 : Int) (zx4 : Int) (zx5 : Int) (zx6 : Int) (zx7 : Int) (zx8 : Int), Ti x1 zx1 → Ti x2 zx2 → Ti x3 zx3 → Ti x4 zx4 → Ti x5 zx5 → Ti x6 zx6 → Ti x7 zx7 → Ti x8 zx8 → IM T W H P S M w → (0 ≤ zx8 ∧ zx8 ≤ 40) → (zx5 < W) → (0 ≤ zx5 ∧ zx5 ≤ 12) → ((13 - zx5) ≤ M19) → (41 - zx8) < (n : Int) → pX11_origin_37 k19  post  n x1 x2 x3 x4 x5 x6 x7 x8 w := by
  intro n
  induction n with
  | zero =>
    intro x1 x2 x3 x4 x5 x6 x7 x8 zx1 zx2 zx3 zx4 zx5 zx6 zx7 zx8  tx1 tx2 tx3 tx4 tx5 tx6 tx7 tx8 hI h0 h1 h2 h3 hm
    exact absurd hm (by omega)
  | succ n ih =>
    intro x1 x2 x3 x4 x5 x6 x7 x8 zx1 zx2 zx3 zx4 zx5 zx6 zx7 zx8  tx1 tx2 tx3 tx4 tx5 tx6 tx7 tx8 hI h0 h1 h2 h3 hm
    unfold pX11_origin_37
    have hk := im_k hI
    obtain ⟨z1561, t1562⟩ := t_any (w.1 300 58)
    have f1563 := img_58 hI t1562
    refine ⟨fun c1564 => ?_, fun c1564 => ?_⟩
    · replace c1564 := c_le t1562 tx8 c1564
      obtain ⟨z1565, t1566, f1567⟩ := t_mul lit_2 tx6
      first | replace f1567 := f1567 (by omega) | clear f1567
      refine ⟨fun c1568 => ?_, fun c1568 => ?_⟩
      · replace c1568 := c_le t1566 tx7 c1568
        unfold pX11_origin_136
        refine ⟨fun c1569 => ?_, fun c1569 => ?_⟩
        · replace c1569 := c_le t1566 tx7 c1569
          unfold pX11_origin_156
          obtain ⟨z1570, t1571, f1572⟩ := t_add tx4 t1566
          first | replace f1572 := f1572 (by omega) | clear f1572
          intro x4_1v891 ex4_1v891
          have tx4_1v891 : Ti x4_1v891 z1570 := by rw [ex4_1v891]; exact t1571
          obtain ⟨z1573, t1574, f1575⟩ := t_add tx5 lit_1
          first | replace f1575 := f1575 (by omega) | clear f1575
          intro x5_2v892 ex5_2v892
          have tx5_2v892 : Ti x5_2v892 z1573 := by rw [ex5_2v892]; exact t1574
          exact hk19 _ _ _ _ _ _ _ _ _ _  tx1 tx2 tx3 tx4_1v891 tx5_2v892 hI (by omega) (by omega)
        · replace c1569 := c_nle t1566 tx7 c1569
          unfold pX11_origin_156
          obtain ⟨z1576, t1577, f1578⟩ := t_add tx4 tx7
          first | replace f1578 := f1578 (by omega) | clear f1578
          intro x4_1v893 ex4_1v893
          have tx4_1v893 : Ti x4_1v893 z1576 := by rw [ex4_1v893]; exact t1577
          obtain ⟨z1579, t1580, f1581⟩ := t_add tx5 lit_1
          first | replace f1581 := f1581 (by omega) | clear f1581
          intro x5_2v894 ex5_2v894
          have tx5_2v894 : Ti x5_2v894 z1579 := by rw [ex5_2v894]; exact t1580
          exact hk19 _ _ _ _ _ _ _ _ _ _  tx1 tx2 tx3 tx4_1v893 tx5_2v894 hI (by omega) (by omega)
      · replace c1568 := c_nle t1566 tx7 c1568
        obtain ⟨z1582, t1583, f1584⟩ := t_shlW hI tx5
        first | replace f1584 := f1584 (by omega) | clear f1584
        obtain ⟨z1585, t1586, f1587⟩ := t_orW hI tx3 t1583
        first | replace f1587 := f1587 (by omega) | clear f1587
        intro x3_3v886 ex3_3v886
        have tx3_3v886 : Ti x3_3v886 z1585 := by rw [ex3_3v886]; exact t1586
        unfold pX11_origin_136
        refine ⟨fun c1588 => ?_, fun c1588 => ?_⟩
        · replace c1588 := c_le t1566 tx7 c1588
          unfold pX11_origin_156
          obtain ⟨z1589, t1590, f1591⟩ := t_add tx4 t1566
          first | replace f1591 := f1591 (by omega) | clear f1591
          intro x4_1v895 ex4_1v895
          have tx4_1v895 : Ti x4_1v895 z1589 := by rw [ex4_1v895]; exact t1590
          obtain ⟨z1592, t1593, f1594⟩ := t_add tx5 lit_1
          first | replace f1594 := f1594 (by omega) | clear f1594
          intro x5_2v896 ex5_2v896
          have tx5_2v896 : Ti x5_2v896 z1592 := by rw [ex5_2v896]; exact t1593
          exact hk19 _ _ _ _ _ _ _ _ _ _  tx1 tx2 tx3_3v886 tx4_1v895 tx5_2v896 hI (by omega) (by omega)
        · replace c1588 := c_nle t1566 tx7 c1588
          unfold pX11_origin_156
          obtain ⟨z1595, t1596, f1597⟩ := t_add tx4 tx7
          first | replace f1597 := f1597 (by omega) | clear f1597
          intro x4_1v897 ex4_1v897
          have tx4_1v897 : Ti x4_1v897 z1595 := by rw [ex4_1v897]; exact t1596
          obtain ⟨z1598, t1599, f1600⟩ := t_add tx5 lit_1
          first | replace f1600 := f1600 (by omega) | clear f1600
          intro x5_2v898 ex5_2v898
          have tx5_2v898 : Ti x5_2v898 z1598 := by rw [ex5_2v898]; exact t1599
          exact hk19 _ _ _ _ _ _ _ _ _ _  tx1 tx2 tx3_3v886 tx4_1v897 tx5_2v898 hI (by omega) (by omega)
    · replace c1564 := c_nle t1562 tx8 c1564
      refine sX11_counts   (hI := hI) (tx1 := tx8) (tx2 := lit_0) (tx3 := tx2) (h0 := (by omega)) (hp := fun r_4v887 zr_4v887 tr_4v887 p1601 => ?_)
      refine ⟨fun c1602 => ?_, fun c1602 => ?_⟩
      · replace c1602 := c_neq tr_4v887 lit_0 c1602
        refine ⟨vp_of tx8 (by omega) (by omega), ?_⟩
        obtain ⟨z1603, t1604⟩ := t_any (w.2.1 355 x8.toNatClampNeg)
        refine ⟨fun c1606 => ?_, fun c1606 => ?_⟩
        · replace c1606 := c_neq t1604 lit_1 c1606
          refine ⟨vp_of tx8 (by omega) (by omega), ?_⟩
          unfold pX11_origin_92
          obtain ⟨z1607, t1608, f1609⟩ := t_and (x := ((w.2.1 354 x8.toNatClampNeg) >>> (x5 &&& 31))) lit_1 (by decide)
          refine ⟨fun c1610 => ?_, fun c1610 => ?_⟩
          · replace c1610 := c_neq t1608 lit_1 c1610
            obtain ⟨z1611, t1612, f1613⟩ := t_add tx7 lit_1
            first | replace f1613 := f1613 (by omega) | clear f1613
            intro x7_2v901 ex7_2v901
            have tx7_2v901 : Ti x7_2v901 z1611 := by rw [ex7_2v901]; exact t1612
            unfold pX11_origin_114
            obtain ⟨z1614, t1615, f1616⟩ := t_add tx8 lit_1
            first | replace f1616 := f1616 (by omega) | clear f1616
            intro x8_1v903 ex8_1v903
            have tx8_1v903 : Ti x8_1v903 z1614 := by rw [ex8_1v903]; exact t1615
            exact ih _ _ _ _ _ _ _ _ _ _ _ _ _ _ _ _  tx1 tx2 tx3 tx4 tx5 tx6 tx7_2v901 tx8_1v903 hI (by omega) (by omega) (by omega) (by omega) (by omega)
          · replace c1610 := c_eq t1608 lit_1 c1610
            obtain ⟨z1617, t1618, f1619⟩ := t_add tx6 lit_1
            first | replace f1619 := f1619 (by omega) | clear f1619
            intro x6_3v902 ex6_3v902
            have tx6_3v902 : Ti x6_3v902 z1617 := by rw [ex6_3v902]; exact t1618
            unfold pX11_origin_114
            obtain ⟨z1620, t1621, f1622⟩ := t_add tx8 lit_1
            first | replace f1622 := f1622 (by omega) | clear f1622
            intro x8_1v904 ex8_1v904
            have tx8_1v904 : Ti x8_1v904 z1620 := by rw [ex8_1v904]; exact t1621
            exact ih _ _ _ _ _ _ _ _ _ _ _ _ _ _ _ _  tx1 tx2 tx3 tx4 tx5 tx6_3v902 tx7 tx8_1v904 hI (by omega) (by omega) (by omega) (by omega) (by omega)
        · replace c1606 := c_eq t1604 lit_1 c1606
          refine ⟨vp_of tx8 (by omega) (by omega), ?_⟩
          obtain ⟨z1623, t1624⟩ := t_any (w.2.1 354 x8.toNatClampNeg)
          refine sX11_turnedRow   (hI := hI) (tx1 := t1624)  (hp := fun r_8v899 zr_8v899 tr_8v899 => ?_)
          unfold pX11_origin_92
          obtain ⟨z1626, t1627, f1628⟩ := t_and (x := (r_8v899 >>> (x5 &&& 31))) lit_1 (by decide)
          refine ⟨fun c1629 => ?_, fun c1629 => ?_⟩
          · replace c1629 := c_neq t1627 lit_1 c1629
            obtain ⟨z1630, t1631, f1632⟩ := t_add tx7 lit_1
            first | replace f1632 := f1632 (by omega) | clear f1632
            intro x7_2v905 ex7_2v905
            have tx7_2v905 : Ti x7_2v905 z1630 := by rw [ex7_2v905]; exact t1631
            unfold pX11_origin_114
            obtain ⟨z1633, t1634, f1635⟩ := t_add tx8 lit_1
            first | replace f1635 := f1635 (by omega) | clear f1635
            intro x8_1v907 ex8_1v907
            have tx8_1v907 : Ti x8_1v907 z1633 := by rw [ex8_1v907]; exact t1634
            exact ih _ _ _ _ _ _ _ _ _ _ _ _ _ _ _ _  tx1 tx2 tx3 tx4 tx5 tx6 tx7_2v905 tx8_1v907 hI (by omega) (by omega) (by omega) (by omega) (by omega)
          · replace c1629 := c_eq t1627 lit_1 c1629
            obtain ⟨z1636, t1637, f1638⟩ := t_add tx6 lit_1
            first | replace f1638 := f1638 (by omega) | clear f1638
            intro x6_3v906 ex6_3v906
            have tx6_3v906 : Ti x6_3v906 z1636 := by rw [ex6_3v906]; exact t1637
            unfold pX11_origin_114
            obtain ⟨z1639, t1640, f1641⟩ := t_add tx8 lit_1
            first | replace f1641 := f1641 (by omega) | clear f1641
            intro x8_1v908 ex8_1v908
            have tx8_1v908 : Ti x8_1v908 z1639 := by rw [ex8_1v908]; exact t1640
            exact ih _ _ _ _ _ _ _ _ _ _ _ _ _ _ _ _  tx1 tx2 tx3 tx4 tx5 tx6_3v906 tx7 tx8_1v908 hI (by omega) (by omega) (by omega) (by omega) (by omega)
      · replace c1602 := c_eq tr_4v887 lit_0 c1602
        unfold pX11_origin_114
        obtain ⟨z1642, t1643, f1644⟩ := t_add tx8 lit_1
        first | replace f1644 := f1644 (by omega) | clear f1644
        intro x8_1v909 ex8_1v909
        have tx8_1v909 : Ti x8_1v909 z1642 := by rw [ex8_1v909]; exact t1643
        exact ih _ _ _ _ _ _ _ _ _ _ _ _ _ _ _ _  tx1 tx2 tx3 tx4 tx5 tx6 tx7 tx8_1v909 hI (by omega) (by omega) (by omega) (by omega) (by omega)
set_option maxHeartbeats 4000000 in
set_option maxRecDepth 100000 in
theorem sX11_origin_19 {T W H P S M : Int} {post : Int32 → Wd → Prop} {w : Wd}  (hp : ∀ (r : Int32) (zr : Int), Ti r zr → post r w) : ∀ (n : Nat) (x1 : Int32) (x2 : Int32) (x3 : Int32) (x4 : Int32) (x5 : Int32) (zx1 : Int) (zx2 : Int) (zx3 : Int) (zx4 : Int) (zx5 : Int), Ti x1 zx1 → Ti x2 zx2 → Ti x3 zx3 → Ti x4 zx4 → Ti x5 zx5 → IM T W H P S M w → (0 ≤ zx5 ∧ zx5 ≤ 12) → (13 - zx5) < (n : Int) → pX11_origin_19   post  n x1 x2 x3 x4 x5 w := by
  intro n
  induction n with
  | zero =>
    intro x1 x2 x3 x4 x5 zx1 zx2 zx3 zx4 zx5  tx1 tx2 tx3 tx4 tx5 hI h0 hm
    exact absurd hm (by omega)
  | succ n ih =>
    intro x1 x2 x3 x4 x5 zx1 zx2 zx3 zx4 zx5  tx1 tx2 tx3 tx4 tx5 hI h0 hm
    unfold pX11_origin_19
    have hk := im_k hI
    refine sX11_width   (hI := hI)   (hp := fun r_1v910 zr_1v910 tr_1v910 p1645 => ?_)
    refine ⟨fun c1646 => ?_, fun c1646 => ?_⟩
    · replace c1646 := c_le tr_1v910 tx5 c1646
      refine ⟨fun c1647 => ?_, fun c1647 => ?_⟩
      · replace c1647 := c_neq tx1 lit_0 c1647
        exact hp _ _ tx4 
      · replace c1647 := c_eq tx1 lit_0 c1647
        exact hp _ _ tx3 
    · replace c1646 := c_nle tr_1v910 tx5 c1646
      exact ⟨70000, sX11_origin_37  (M19 := (n : Int)) (hk19 := ih)  (hp := hp) 70000 _ _ _ _ _ _ _ _ _ _ _ _ _ _ _ _  tx1 tx2 tx3 tx4 tx5 lit_0 lit_0 lit_0 hI (by omega) (by omega) (by omega) (by omega) (by omega)⟩
set_option maxHeartbeats 4000000 in
set_option maxRecDepth 100000 in
theorem sX11_origin {T W H P S M : Int} {post : Int32 → Wd → Prop} {x1 : Int32} {zx1 : Int} {x2 : Int32} {zx2 : Int} {w : Wd}  (tx1 : Ti x1 zx1) (tx2 : Ti x2 zx2) (hI : IM T W H P S M w)  (hp : ∀ (r : Int32) (zr : Int), Ti r zr → post r w) : pX11_origin   post  x1 x2 w := by
  unfold pX11_origin
  have hk := im_k hI
  refine sX11_isIn   (hI := hI) (tx0 := tx1) (tx1 := lit_0) (tx2 := lit_1)  (hp := fun r_1v912 zr_1v912 tr_1v912 p1648 p1649 => ?_)
  refine ⟨fun c1650 => ?_, fun c1650 => ?_⟩
  · replace c1650 := c_neq tr_1v912 lit_0 c1650
    exact ⟨70000, sX11_origin_19    (hp := hp) 70000 _ _ _ _ _ _ _ _ _ _  tx1 tx2 lit_0 lit_0 lit_0 hI (by omega) (by omega)⟩
  · replace c1650 := c_eq tr_1v912 lit_0 c1650
    exact hp _ _ lit_m1 
set_option maxHeartbeats 4000000 in
set_option maxRecDepth 100000 in
theorem sX11_isFalse {T W H P S M : Int} {post : Int32 → Wd → Prop} {x1 : Int32} {zx1 : Int} {w : Wd}  (tx1 : Ti x1 zx1) (hI : IM T W H P S M w) (h0 : 0 ≤ zx1 ∧ zx1 ≤ 39) (hp : ∀ (r : Int32) (zr : Int), Ti r zr → post r w) : pX11_isFalse   post  x1 w := by
  unfold pX11_isFalse
  have hk := im_k hI
  refine ⟨vp_of tx1 (by omega) (by omega), ?_⟩
  obtain ⟨z1651, t1652⟩ := t_any (w.2.1 355 x1.toNatClampNeg)
  refine sX11_isSeal   (hI := hI) (tx1 := t1652)  (hp := fun r_1v914 zr_1v914 tr_1v914 p1654 => ?_)
  refine ⟨fun c1655 => ?_, fun c1655 => ?_⟩
  · replace c1655 := c_neq tr_1v914 lit_0 c1655
    refine ⟨vp_of tx1 (by omega) (by omega), ?_⟩
    refine ⟨vp_of tx1 (by omega) (by omega), ?_⟩
    refine sX11_rowOf   (hI := hI) (tx1 := t1652) (h0 := (by omega)) (hp := fun r_4v920 zr_4v920 tr_4v920 p1656 => ?_)
    refine sX11_turnedRow   (hI := hI) (tx1 := tr_4v920)  (hp := fun r_6v924 zr_6v924 tr_6v924 => ?_)
    obtain ⟨z1657, t1658⟩ := t_any ((w.2.1 354 x1.toNatClampNeg) &&& (r_6v924 ^^^ (-1 : Int32)))
    refine ⟨fun c1659 => ?_, fun c1659 => ?_⟩
    · replace c1659 := c_neq t1658 lit_0 c1659
      exact hp _ _ lit_1 
    · replace c1659 := c_eq t1658 lit_0 c1659
      refine ⟨vp_of tx1 (by omega) (by omega), ?_⟩
      refine ⟨vp_of tx1 (by omega) (by omega), ?_⟩
      obtain ⟨z1660, t1661, f1662⟩ := t_mul lit_4 t1652
      first | replace f1662 := f1662 (by omega) | clear f1662
      obtain ⟨z1663, t1664, f1665⟩ := t_add t1661 lit_3
      first | replace f1665 := f1665 (by omega) | clear f1665
      refine ⟨vp_of t1664 (by omega) (by omega), ?_⟩
      obtain ⟨z1666, t1667⟩ := t_any (w.2.1 341 (((4 : Int32) * (w.2.1 355 x1.toNatClampNeg)) + (3 : Int32)).toNatClampNeg)
      obtain ⟨z1669, t1670⟩ := t_any (w.2.1 356 x1.toNatClampNeg)
      refine ⟨fun c1672 => ?_, fun c1672 => ?_⟩
      · replace c1672 := c_le t1667 t1670 c1672
        exact hp _ _ lit_0 
      · replace c1672 := c_nle t1667 t1670 c1672
        exact hp _ _ lit_1 
  · replace c1655 := c_eq tr_1v914 lit_0 c1655
    exact hp _ _ lit_1 
set_option maxHeartbeats 4000000 in
set_option maxRecDepth 100000 in
theorem sX11_falses_9 {T W H P S M : Int} {post : Int32 → Wd → Prop}   (hp : ∀ (r : Int32) (zr : Int) (w9 : Wd), Ti r zr → IM T W H P S M w9 → post r w9) : ∀ (n : Nat) (x1 : Int32) (x2 : Int32) (x3 : Int32) (zx1 : Int) (zx2 : Int) (zx3 : Int) (w : Wd), Ti x1 zx1 → Ti x2 zx2 → Ti x3 zx3 → IM T W H P S M w → (0 ≤ zx3 ∧ zx3 ≤ 40) → (Rg (w.1 300 48) 0 8) → (41 - zx3) < (n : Int) → pX11_falses_9   post  n x1 x2 x3 w := by
  intro n
  induction n with
  | zero =>
    intro x1 x2 x3 zx1 zx2 zx3 w tx1 tx2 tx3 hI h0 h1 hm
    exact absurd hm (by omega)
  | succ n ih =>
    intro x1 x2 x3 zx1 zx2 zx3 w tx1 tx2 tx3 hI h0 h1 hm
    unfold pX11_falses_9
    have hk := im_k hI
    obtain ⟨z1673, t1674⟩ := t_any (w.1 300 48)
    have f1675 := img_48 hI t1674
    have f1676 := Rg.g h1 t1674
    obtain ⟨z1677, t1678⟩ := t_any (w.1 300 58)
    have f1679 := img_58 hI t1678
    refine ⟨fun c1680 => ?_, fun c1680 => ?_⟩
    · replace c1680 := c_le t1678 tx3 c1680
      exact hp _ _ _  tx2 hI 
    · replace c1680 := c_nle t1678 tx3 c1680
      refine sX11_counts   (hI := hI) (tx1 := tx3) (tx2 := lit_1) (tx3 := tx1) (h0 := (by omega)) (hp := fun r_2v926 zr_2v926 tr_2v926 p1681 => ?_)
      refine ⟨fun c1682 => ?_, fun c1682 => ?_⟩
      · replace c1682 := c_eq tr_2v926 lit_0 c1682
        unfold pX11_falses_73
        obtain ⟨z1683, t1684, f1685⟩ := t_add tx3 lit_1
        first | replace f1685 := f1685 (by omega) | clear f1685
        intro x3_1v938 ex3_1v938
        have tx3_1v938 : Ti x3_1v938 z1683 := by rw [ex3_1v938]; exact t1684
        exact ih _ _ _ _ _ _ _ tx1 tx2 tx3_1v938 hI (by omega) (Rg.m t1674 (by omega) (by omega)) (by omega)
      · replace c1682 := c_neq tr_2v926 lit_0 c1682
        refine sX11_isFalse   (hI := hI) (tx1 := tx3) (h0 := (by omega)) (hp := fun r_5v933 zr_5v933 tr_5v933 => ?_)
        refine ⟨fun c1686 => ?_, fun c1686 => ?_⟩
        · replace c1686 := c_neq tr_5v933 lit_0 c1686
          obtain ⟨z1687, t1688, f1689⟩ := t_add tx2 lit_1
          first | replace f1689 := f1689 (by omega) | clear f1689
          intro x2_8v939 ex2_8v939
          have tx2_8v939 : Ti x2_8v939 z1687 := by rw [ex2_8v939]; exact t1688
          refine ⟨fun c1690 => ?_, fun c1690 => ?_⟩
          · replace c1690 := c_neq t1674 lit_8 c1690
            refine ⟨vp_of t1674 (by omega) (by omega), ?_⟩
            intro w_10v940 ew_10v940
            have hIw_10v940 := ims_A hI ew_10v940 (by decide)
            intro w_11v941 ew_11v941
            have t1691 : Ti (w_10v940.1 300 48) z1673 := by rw [e1_A ew_10v940]; exact t1674
            obtain ⟨z1692, t1693, f1694⟩ := t_add t1691 lit_1
            first | replace f1694 := f1694 (by omega) | clear f1694
            have hIw_11v941 := ims_48 hIw_10v940 ew_11v941 t1693 (by omega) (by omega)
            unfold pX11_falses_73
            obtain ⟨z1695, t1696, f1697⟩ := t_add tx3 lit_1
            first | replace f1697 := f1697 (by omega) | clear f1697
            intro x3_1v942 ex3_1v942
            have tx3_1v942 : Ti x3_1v942 z1695 := by rw [ex3_1v942]; exact t1696
            have t1698 : Ti (w_11v941.1 300 48) z1692 := by rw [ew_11v941, sI_at]; exact t1693
            exact ih _ _ _ _ _ _ _ tx1 tx2_8v939 tx3_1v942 hIw_11v941 (by omega) (Rg.m t1698 (by omega) (by omega)) (by omega)
          · replace c1690 := c_eq t1674 lit_8 c1690
            unfold pX11_falses_73
            obtain ⟨z1699, t1700, f1701⟩ := t_add tx3 lit_1
            first | replace f1701 := f1701 (by omega) | clear f1701
            intro x3_1v943 ex3_1v943
            have tx3_1v943 : Ti x3_1v943 z1699 := by rw [ex3_1v943]; exact t1700
            exact ih _ _ _ _ _ _ _ tx1 tx2_8v939 tx3_1v943 hI (by omega) (Rg.m t1674 (by omega) (by omega)) (by omega)
        · replace c1686 := c_eq tr_5v933 lit_0 c1686
          unfold pX11_falses_73
          obtain ⟨z1702, t1703, f1704⟩ := t_add tx3 lit_1
          first | replace f1704 := f1704 (by omega) | clear f1704
          intro x3_1v944 ex3_1v944
          have tx3_1v944 : Ti x3_1v944 z1702 := by rw [ex3_1v944]; exact t1703
          exact ih _ _ _ _ _ _ _ tx1 tx2 tx3_1v944 hI (by omega) (Rg.m t1674 (by omega) (by omega)) (by omega)
set_option maxHeartbeats 4000000 in
set_option maxRecDepth 100000 in
theorem sX11_falses {T W H P S M : Int} {post : Int32 → Wd → Prop} {x1 : Int32} {zx1 : Int} {w : Wd}  (tx1 : Ti x1 zx1) (hI : IM T W H P S M w)  (hp : ∀ (r : Int32) (zr : Int) (w9 : Wd), Ti r zr → IM T W H P S M w9 → post r w9) : pX11_falses   post  x1 w := by
  unfold pX11_falses
  have hk := im_k hI
  intro w_1v945 ew_1v945
  have hIw_1v945 := ims_48 hI ew_1v945 lit_0 (by omega) (by omega)
  have t1705 : Ti (w_1v945.1 300 48) 0 := by rw [ew_1v945, sI_at]; exact lit_0
  exact ⟨70000, sX11_falses_9    (hp := hp) 70000 _ _ _ _ _ _ _ tx1 lit_0 lit_0 hIw_1v945 (by omega) (Rg.m t1705 (by omega) (by omega)) (by omega)⟩
set_option maxHeartbeats 4000000 in
set_option maxRecDepth 100000 in
theorem sX11_span_36 {T W H P S M : Int} {post : Int32 → Wd → Prop} {w : Wd}  (hp : ∀ (r : Int32) (zr : Int), Ti r zr → post r w) : ∀ (n : Nat) (x1 : Int32) (x2 : Int32) (x3 : Int32) (x4 : Int32) (x5 : Int32) (x6 : Int32) (zx1 : Int) (zx2 : Int) (zx3 : Int) (zx4 : Int) (zx5 : Int) (zx6 : Int), Ti x1 zx1 → Ti x2 zx2 → Ti x3 zx3 → Ti x4 zx4 → Ti x5 zx5 → Ti x6 zx6 → IM T W H P S M w → (0 ≤ zx6 ∧ zx6 ≤ 40) → (41 - zx6) < (n : Int) → pX11_span_36   post  n x1 x2 x3 x4 x5 x6 w := by
  intro n
  induction n with
  | zero =>
    intro x1 x2 x3 x4 x5 x6 zx1 zx2 zx3 zx4 zx5 zx6  tx1 tx2 tx3 tx4 tx5 tx6 hI h0 hm
    exact absurd hm (by omega)
  | succ n ih =>
    intro x1 x2 x3 x4 x5 x6 zx1 zx2 zx3 zx4 zx5 zx6  tx1 tx2 tx3 tx4 tx5 tx6 hI h0 hm
    unfold pX11_span_36
    have hk := im_k hI
    obtain ⟨z1706, t1707⟩ := t_any (w.1 300 58)
    have f1708 := img_58 hI t1707
    refine ⟨fun c1709 => ?_, fun c1709 => ?_⟩
    · replace c1709 := c_le t1707 tx6 c1709
      refine ⟨fun c1710 => ?_, fun c1710 => ?_⟩
      · replace c1710 := c_neq tx2 lit_2 c1710
        refine ⟨fun c1711 => ?_, fun c1711 => ?_⟩
        · replace c1711 := c_le tx4 tx5 c1711
          refine ⟨fun c1712 => ?_, fun c1712 => ?_⟩
          · replace c1712 := c_neq tx2 lit_0 c1712
            exact hp _ _ tx5 
          · replace c1712 := c_eq tx2 lit_0 c1712
            exact hp _ _ tx4 
        · replace c1711 := c_nle tx4 tx5 c1711
          exact hp _ _ lit_m1 
      · replace c1710 := c_eq tx2 lit_2 c1710
        refine ⟨fun c1713 => ?_, fun c1713 => ?_⟩
        · replace c1713 := c_le tx4 tx5 c1713
          obtain ⟨z1714, t1715, f1716⟩ := t_sub tx5 tx4
          first | replace f1716 := f1716 (by omega) | clear f1716
          obtain ⟨z1717, t1718, f1719⟩ := t_add t1715 lit_1
          first | replace f1719 := f1719 (by omega) | clear f1719
          exact hp _ _ t1718 
        · replace c1713 := c_nle tx4 tx5 c1713
          exact hp _ _ lit_0 
    · replace c1709 := c_nle t1707 tx6 c1709
      refine sX11_counts   (hI := hI) (tx1 := tx6) (tx2 := lit_2) (tx3 := tx3) (h0 := (by omega)) (hp := fun r_6v946 zr_6v946 tr_6v946 p1720 => ?_)
      refine ⟨fun c1721 => ?_, fun c1721 => ?_⟩
      · replace c1721 := c_eq tr_6v946 lit_0 c1721
        unfold pX11_span_137
        obtain ⟨z1722, t1723, f1724⟩ := t_add tx6 lit_1
        first | replace f1724 := f1724 (by omega) | clear f1724
        intro x6_1v950 ex6_1v950
        have tx6_1v950 : Ti x6_1v950 z1722 := by rw [ex6_1v950]; exact t1723
        exact ih _ _ _ _ _ _ _ _ _ _ _ _  tx1 tx2 tx3 tx4 tx5 tx6_1v950 hI (by omega) (by omega)
      · replace c1721 := c_neq tr_6v946 lit_0 c1721
        refine ⟨vp_of tx6 (by omega) (by omega), ?_⟩
        obtain ⟨z1725, t1726⟩ := t_any (w.2.1 354 x6.toNatClampNeg)
        refine ⟨fun c1728 => ?_, fun c1728 => ?_⟩
        · replace c1728 := c_eq t1726 tx1 c1728
          refine ⟨vp_of tx6 (by omega) (by omega), ?_⟩
          obtain ⟨z1729, t1730⟩ := t_any (w.2.1 356 x6.toNatClampNeg)
          refine ⟨fun c1732 => ?_, fun c1732 => ?_⟩
          · replace c1732 := c_neq t1730 lit_1 c1732
            unfold pX11_span_106
            refine ⟨vp_of tx6 (by omega) (by omega), ?_⟩
            refine ⟨fun c1733 => ?_, fun c1733 => ?_⟩
            · replace c1733 := c_neq t1730 lit_0 c1733
              unfold pX11_span_137
              obtain ⟨z1734, t1735, f1736⟩ := t_add tx6 lit_1
              first | replace f1736 := f1736 (by omega) | clear f1736
              intro x6_1v952 ex6_1v952
              have tx6_1v952 : Ti x6_1v952 z1734 := by rw [ex6_1v952]; exact t1735
              exact ih _ _ _ _ _ _ _ _ _ _ _ _  tx1 tx2 tx3 tx4 tx5 tx6_1v952 hI (by omega) (by omega)
            · replace c1733 := c_eq t1730 lit_0 c1733
              refine ⟨vp_of tx6 (by omega) (by omega), ?_⟩
              obtain ⟨z1737, t1738⟩ := t_any (w.2.1 355 x6.toNatClampNeg)
              refine ⟨fun c1740 => ?_, fun c1740 => ?_⟩
              · replace c1740 := c_le tx5 t1738 c1740
                unfold pX11_span_137
                obtain ⟨z1741, t1742, f1743⟩ := t_add tx6 lit_1
                first | replace f1743 := f1743 (by omega) | clear f1743
                intro x6_1v953 ex6_1v953
                have tx6_1v953 : Ti x6_1v953 z1741 := by rw [ex6_1v953]; exact t1742
                exact ih _ _ _ _ _ _ _ _ _ _ _ _  tx1 tx2 tx3 tx4 tx5 tx6_1v953 hI (by omega) (by omega)
              · replace c1740 := c_nle tx5 t1738 c1740
                refine ⟨vp_of tx6 (by omega) (by omega), ?_⟩
                intro x5_3v951 ex5_3v951
                have tx5_3v951 : Ti x5_3v951 z1737 := by rw [ex5_3v951]; exact t1738
                unfold pX11_span_137
                obtain ⟨z1744, t1745, f1746⟩ := t_add tx6 lit_1
                first | replace f1746 := f1746 (by omega) | clear f1746
                intro x6_1v954 ex6_1v954
                have tx6_1v954 : Ti x6_1v954 z1744 := by rw [ex6_1v954]; exact t1745
                exact ih _ _ _ _ _ _ _ _ _ _ _ _  tx1 tx2 tx3 tx4 tx5_3v951 tx6_1v954 hI (by omega) (by omega)
          · replace c1732 := c_eq t1730 lit_1 c1732
            refine ⟨vp_of tx6 (by omega) (by omega), ?_⟩
            obtain ⟨z1747, t1748⟩ := t_any (w.2.1 355 x6.toNatClampNeg)
            obtain ⟨z1750, t1751, f1752⟩ := t_add t1748 lit_1
            first | replace f1752 := f1752 (by omega) | clear f1752
            refine ⟨fun c1753 => ?_, fun c1753 => ?_⟩
            · replace c1753 := c_le t1751 tx4 c1753
              unfold pX11_span_106
              refine ⟨vp_of tx6 (by omega) (by omega), ?_⟩
              refine ⟨fun c1754 => ?_, fun c1754 => ?_⟩
              · replace c1754 := c_neq t1730 lit_0 c1754
                unfold pX11_span_137
                obtain ⟨z1755, t1756, f1757⟩ := t_add tx6 lit_1
                first | replace f1757 := f1757 (by omega) | clear f1757
                intro x6_1v956 ex6_1v956
                have tx6_1v956 : Ti x6_1v956 z1755 := by rw [ex6_1v956]; exact t1756
                exact ih _ _ _ _ _ _ _ _ _ _ _ _  tx1 tx2 tx3 tx4 tx5 tx6_1v956 hI (by omega) (by omega)
              · replace c1754 := c_eq t1730 lit_0 c1754
                refine ⟨vp_of tx6 (by omega) (by omega), ?_⟩
                refine ⟨fun c1758 => ?_, fun c1758 => ?_⟩
                · replace c1758 := c_le tx5 t1748 c1758
                  unfold pX11_span_137
                  obtain ⟨z1759, t1760, f1761⟩ := t_add tx6 lit_1
                  first | replace f1761 := f1761 (by omega) | clear f1761
                  intro x6_1v957 ex6_1v957
                  have tx6_1v957 : Ti x6_1v957 z1759 := by rw [ex6_1v957]; exact t1760
                  exact ih _ _ _ _ _ _ _ _ _ _ _ _  tx1 tx2 tx3 tx4 tx5 tx6_1v957 hI (by omega) (by omega)
                · replace c1758 := c_nle tx5 t1748 c1758
                  refine ⟨vp_of tx6 (by omega) (by omega), ?_⟩
                  intro x5_3v955 ex5_3v955
                  have tx5_3v955 : Ti x5_3v955 z1747 := by rw [ex5_3v955]; exact t1748
                  unfold pX11_span_137
                  obtain ⟨z1762, t1763, f1764⟩ := t_add tx6 lit_1
                  first | replace f1764 := f1764 (by omega) | clear f1764
                  intro x6_1v958 ex6_1v958
                  have tx6_1v958 : Ti x6_1v958 z1762 := by rw [ex6_1v958]; exact t1763
                  exact ih _ _ _ _ _ _ _ _ _ _ _ _  tx1 tx2 tx3 tx4 tx5_3v955 tx6_1v958 hI (by omega) (by omega)
            · replace c1753 := c_nle t1751 tx4 c1753
              refine ⟨vp_of tx6 (by omega) (by omega), ?_⟩
              intro x4_12v949 ex4_12v949
              have tx4_12v949 : Ti x4_12v949 z1750 := by rw [ex4_12v949]; exact t1751
              unfold pX11_span_106
              refine ⟨vp_of tx6 (by omega) (by omega), ?_⟩
              refine ⟨fun c1765 => ?_, fun c1765 => ?_⟩
              · replace c1765 := c_neq t1730 lit_0 c1765
                unfold pX11_span_137
                obtain ⟨z1766, t1767, f1768⟩ := t_add tx6 lit_1
                first | replace f1768 := f1768 (by omega) | clear f1768
                intro x6_1v960 ex6_1v960
                have tx6_1v960 : Ti x6_1v960 z1766 := by rw [ex6_1v960]; exact t1767
                exact ih _ _ _ _ _ _ _ _ _ _ _ _  tx1 tx2 tx3 tx4_12v949 tx5 tx6_1v960 hI (by omega) (by omega)
              · replace c1765 := c_eq t1730 lit_0 c1765
                refine ⟨vp_of tx6 (by omega) (by omega), ?_⟩
                refine ⟨fun c1769 => ?_, fun c1769 => ?_⟩
                · replace c1769 := c_le tx5 t1748 c1769
                  unfold pX11_span_137
                  obtain ⟨z1770, t1771, f1772⟩ := t_add tx6 lit_1
                  first | replace f1772 := f1772 (by omega) | clear f1772
                  intro x6_1v961 ex6_1v961
                  have tx6_1v961 : Ti x6_1v961 z1770 := by rw [ex6_1v961]; exact t1771
                  exact ih _ _ _ _ _ _ _ _ _ _ _ _  tx1 tx2 tx3 tx4_12v949 tx5 tx6_1v961 hI (by omega) (by omega)
                · replace c1769 := c_nle tx5 t1748 c1769
                  refine ⟨vp_of tx6 (by omega) (by omega), ?_⟩
                  intro x5_3v959 ex5_3v959
                  have tx5_3v959 : Ti x5_3v959 z1747 := by rw [ex5_3v959]; exact t1748
                  unfold pX11_span_137
                  obtain ⟨z1773, t1774, f1775⟩ := t_add tx6 lit_1
                  first | replace f1775 := f1775 (by omega) | clear f1775
                  intro x6_1v962 ex6_1v962
                  have tx6_1v962 : Ti x6_1v962 z1773 := by rw [ex6_1v962]; exact t1774
                  exact ih _ _ _ _ _ _ _ _ _ _ _ _  tx1 tx2 tx3 tx4_12v949 tx5_3v959 tx6_1v962 hI (by omega) (by omega)
        · replace c1728 := c_neq t1726 tx1 c1728
          unfold pX11_span_137
          obtain ⟨z1776, t1777, f1778⟩ := t_add tx6 lit_1
          first | replace f1778 := f1778 (by omega) | clear f1778
          intro x6_1v963 ex6_1v963
          have tx6_1v963 : Ti x6_1v963 z1776 := by rw [ex6_1v963]; exact t1777
          exact ih _ _ _ _ _ _ _ _ _ _ _ _  tx1 tx2 tx3 tx4 tx5 tx6_1v963 hI (by omega) (by omega)
set_option maxHeartbeats 4000000 in
set_option maxRecDepth 100000 in
theorem sX11_span {T W H P S M : Int} {post : Int32 → Wd → Prop} {x1 : Int32} {zx1 : Int} {x2 : Int32} {zx2 : Int} {x3 : Int32} {zx3 : Int} {w : Wd}  (tx1 : Ti x1 zx1) (tx2 : Ti x2 zx2) (tx3 : Ti x3 zx3) (hI : IM T W H P S M w)  (hp : ∀ (r : Int32) (zr : Int), Ti r zr → post r w) : pX11_span   post  x1 x2 x3 w := by
  unfold pX11_span
  have hk := im_k hI
  refine sX11_width   (hI := hI)   (hp := fun r_1v964 zr_1v964 tr_1v964 p1779 => ?_)
  obtain ⟨z1780, t1781, f1782⟩ := t_sub tr_1v964 lit_1
  first | replace f1782 := f1782 (by omega) | clear f1782
  refine sX11_isIn   (hI := hI) (tx0 := tx1) (tx1 := lit_0) (tx2 := t1781)  (hp := fun r_3v970 zr_3v970 tr_3v970 p1783 p1784 => ?_)
  refine ⟨fun c1785 => ?_, fun c1785 => ?_⟩
  · replace c1785 := c_eq tr_3v970 lit_0 c1785
    exact hp _ _ lit_m1 
  · replace c1785 := c_neq tr_3v970 lit_0 c1785
    refine sX11_isIn   (hI := hI) (tx0 := tx2) (tx1 := lit_0) (tx2 := lit_2)  (hp := fun r_6v974 zr_6v974 tr_6v974 p1786 p1787 => ?_)
    refine ⟨fun c1788 => ?_, fun c1788 => ?_⟩
    · replace c1788 := c_neq tr_6v974 lit_0 c1788
      exact ⟨70000, sX11_span_36    (hp := hp) 70000 _ _ _ _ _ _ _ _ _ _ _ _  tx1 tx2 tx3 lit_0 lit_999 lit_0 hI (by omega) (by omega)⟩
    · replace c1788 := c_eq tr_6v974 lit_0 c1788
      exact hp _ _ lit_m1 
set_option maxHeartbeats 4000000 in
set_option maxRecDepth 100000 in
theorem sX11_layLinks_142 {T W H P S M : Int} {k30 : Int32 → Int32 → Wd → Prop} {M30 : Int} {post : Int32 → Wd → Prop}  (hk30 : ∀ (x1 : Int32) (x2 : Int32) (zx1 : Int) (zx2 : Int) (w : Wd), Ti x1 zx1 → Ti x2 zx2 → IM T W H P S M w → (0 ≤ zx2 ∧ zx2 ≤ 40) → (41 - zx2) < M30 → k30 x1 x2 w) (hp : ∀ (r : Int32) (zr : Int) (w9 : Wd), Ti r zr → IM T W H P S M w9 → post r w9) : ∀ (n : Nat) (x1 : Int32) (x2 : Int32) (x3 : Int32) (x5 : Int32) (x6 : Int32) (x7 : Int32) (zx1 : Int) (zx2 : Int) (zx3 : Int) (zx5 : Int) (zx6 : Int) (zx7 : Int) (w : Wd), Ti x1 zx1 → Ti x2 zx2 → Ti x3 zx3 → Ti x5 zx5 → Ti x6 zx6 → Ti x7 zx7 → IM T W H P S M w → (0 ≤ zx7 ∧ zx7 ≤ 8) → (0 ≤ zx3 ∧ zx3 ≤ 7) → (zx2 ≤ 39) → (0 ≤ zx2 ∧ zx2 ≤ 40) → ((41 - zx2) ≤ M30) → (9 - zx7) < (n : Int) → pX11_layLinks_142 k30  post  n x1 x2 x3 x5 x6 x7 w := by
  intro n
  induction n with
  | zero =>
    intro x1 x2 x3 x5 x6 x7 zx1 zx2 zx3 zx5 zx6 zx7 w tx1 tx2 tx3 tx5 tx6 tx7 hI h0 h1 h2 h3 h4 hm
    exact absurd hm (by omega)
  | succ n ih =>
    intro x1 x2 x3 x5 x6 x7 zx1 zx2 zx3 zx5 zx6 zx7 w tx1 tx2 tx3 tx5 tx6 tx7 hI h0 h1 h2 h3 h4 hm
    unfold pX11_layLinks_142
    have hk := im_k hI
    refine ⟨fun c1789 => ?_, fun c1789 => ?_⟩
    · replace c1789 := c_le lit_8 tx7 c1789
      unfold pX11_layLinks_195
      obtain ⟨z1790, t1791, f1792⟩ := t_add tx2 lit_1
      first | replace f1792 := f1792 (by omega) | clear f1792
      intro x2_1v978 ex2_1v978
      have tx2_1v978 : Ti x2_1v978 z1790 := by rw [ex2_1v978]; exact t1791
      exact hk30 _ _ _ _ _ tx1 tx2_1v978 hI (by omega) (by omega)
    · replace c1789 := c_nle lit_8 tx7 c1789
      refine ⟨vp_of tx7 (by omega) (by omega), ?_⟩
      obtain ⟨z1793, t1794⟩ := t_any (w.2.1 367 x7.toNatClampNeg)
      refine ⟨fun c1796 => ?_, fun c1796 => ?_⟩
      · replace c1796 := c_eq t1794 tx5 c1796
        refine ⟨vp_of tx3 (by omega) (by omega), ?_⟩
        refine ⟨vp_of tx7 (by omega) (by omega), ?_⟩
        intro w_3v976 ew_3v976
        have hIw_3v976 := ims_A hI ew_3v976 (by decide)
        refine ⟨vp_of tx7 (by omega) (by omega), ?_⟩
        refine ⟨vp_of tx7 (by omega) (by omega), ?_⟩
        intro w_4v977 ew_4v977
        have hIw_4v977 := ims_A hIw_3v976 ew_4v977 (by decide)
        unfold pX11_layLinks_189
        obtain ⟨z1797, t1798, f1799⟩ := t_add tx7 lit_1
        first | replace f1799 := f1799 (by omega) | clear f1799
        intro x7_1v979 ex7_1v979
        have tx7_1v979 : Ti x7_1v979 z1797 := by rw [ex7_1v979]; exact t1798
        exact ih _ _ _ _ _ _ _ _ _ _ _ _ _ tx1 tx2 tx3 tx5 tx6 tx7_1v979 hIw_4v977 (by omega) (by omega) (by omega) (by omega) (by omega) (by omega)
      · replace c1796 := c_neq t1794 tx5 c1796
        unfold pX11_layLinks_189
        obtain ⟨z1800, t1801, f1802⟩ := t_add tx7 lit_1
        first | replace f1802 := f1802 (by omega) | clear f1802
        intro x7_1v980 ex7_1v980
        have tx7_1v980 : Ti x7_1v980 z1800 := by rw [ex7_1v980]; exact t1801
        exact ih _ _ _ _ _ _ _ _ _ _ _ _ _ tx1 tx2 tx3 tx5 tx6 tx7_1v980 hI (by omega) (by omega) (by omega) (by omega) (by omega) (by omega)
set_option maxHeartbeats 4000000 in
set_option maxRecDepth 100000 in
theorem sX11_layLinks_30 {T W H P S M : Int} {post : Int32 → Wd → Prop}   (hp : ∀ (r : Int32) (zr : Int) (w9 : Wd), Ti r zr → IM T W H P S M w9 → post r w9) : ∀ (n : Nat) (x1 : Int32) (x2 : Int32) (zx1 : Int) (zx2 : Int) (w : Wd), Ti x1 zx1 → Ti x2 zx2 → IM T W H P S M w → (0 ≤ zx2 ∧ zx2 ≤ 40) → (41 - zx2) < (n : Int) → pX11_layLinks_30   post  n x1 x2 w := by
  intro n
  induction n with
  | zero =>
    intro x1 x2 zx1 zx2 w tx1 tx2 hI h0 hm
    exact absurd hm (by omega)
  | succ n ih =>
    intro x1 x2 zx1 zx2 w tx1 tx2 hI h0 hm
    unfold pX11_layLinks_30
    have hk := im_k hI
    obtain ⟨z1803, t1804⟩ := t_any (w.1 300 58)
    have f1805 := img_58 hI t1804
    refine ⟨fun c1806 => ?_, fun c1806 => ?_⟩
    · replace c1806 := c_le t1804 tx2 c1806
      exact hp _ _ _  lit_1 hI 
    · replace c1806 := c_nle t1804 tx2 c1806
      refine sX11_counts   (hI := hI) (tx1 := tx2) (tx2 := lit_3) (tx3 := tx1) (h0 := (by omega)) (hp := fun r_2v981 zr_2v981 tr_2v981 p1807 => ?_)
      refine ⟨fun c1808 => ?_, fun c1808 => ?_⟩
      · replace c1808 := c_neq tr_2v981 lit_0 c1808
        refine ⟨vp_of tx2 (by omega) (by omega), ?_⟩
        obtain ⟨z1809, t1810⟩ := t_any (w.2.1 354 x2.toNatClampNeg)
        have f1811 := img_lnk (e := p1807.resolve_left (by omega)) hI tx2 t1804 (by omega) (by omega)
        have f1812 := Rg.g f1811.1 t1810
        intro x3_5v987 ex3_5v987
        have tx3_5v987 : Ti x3_5v987 z1809 := by rw [ex3_5v987]; exact t1810
        refine ⟨vp_of tx2 (by omega) (by omega), ?_⟩
        obtain ⟨z1813, t1814⟩ := t_any (w.2.1 355 x2.toNatClampNeg)
        have f1815 := img_lnk (e := p1807.resolve_left (by omega)) hI tx2 t1804 (by omega) (by omega)
        have f1816 := Rg.g f1815.2 t1814
        intro x4_6v988 ex4_6v988
        have tx4_6v988 : Ti x4_6v988 z1813 := by rw [ex4_6v988]; exact t1814
        refine ⟨vp_of tx3_5v987 (by omega) (by omega), ?_⟩
        refine ⟨vp_of tx4_6v988 (by omega) (by omega), ?_⟩
        obtain ⟨z1817, t1818⟩ := t_any (w.2.1 367 x3_5v987.toNatClampNeg)
        obtain ⟨z1820, t1821⟩ := t_any (w.2.1 367 x4_6v988.toNatClampNeg)
        refine ⟨fun c1823 => ?_, fun c1823 => ?_⟩
        · replace c1823 := c_neq t1818 t1821 c1823
          refine ⟨vp_of tx4_6v988 (by omega) (by omega), ?_⟩
          intro x5_8v989 ex5_8v989
          have tx5_8v989 : Ti x5_8v989 z1820 := by rw [ex5_8v989]; exact t1821
          refine ⟨vp_of tx3_5v987 (by omega) (by omega), ?_⟩
          refine ⟨vp_of tx4_6v988 (by omega) (by omega), ?_⟩
          refine ⟨vp_of tx2 (by omega) (by omega), ?_⟩
          obtain ⟨z1824, t1825⟩ := t_any (((w.2.1 366 x3_5v987.toNatClampNeg) ^^^ (w.2.1 366 x4_6v988.toNatClampNeg)) ^^^ (w.2.1 356 x2.toNatClampNeg))
          intro x6_9v990 ex6_9v990
          have tx6_9v990 : Ti x6_9v990 z1824 := by rw [ex6_9v990]; exact t1825
          exact ⟨70000, sX11_layLinks_142  (M30 := (n : Int)) (hk30 := ih)  (hp := hp) 70000 _ _ _ _ _ _ _ _ _ _ _ _ _ tx1 tx2 tx3_5v987 tx5_8v989 tx6_9v990 lit_0 hI (by omega) (by omega) (by omega) (by omega) (by omega) (by omega)⟩
        · replace c1823 := c_eq t1818 t1821 c1823
          refine ⟨vp_of tx3_5v987 (by omega) (by omega), ?_⟩
          refine ⟨vp_of tx4_6v988 (by omega) (by omega), ?_⟩
          refine ⟨vp_of tx2 (by omega) (by omega), ?_⟩
          obtain ⟨z1826, t1827⟩ := t_any ((w.2.1 366 x3_5v987.toNatClampNeg) ^^^ (w.2.1 366 x4_6v988.toNatClampNeg))
          obtain ⟨z1828, t1829⟩ := t_any (w.2.1 356 x2.toNatClampNeg)
          refine ⟨fun c1831 => ?_, fun c1831 => ?_⟩
          · replace c1831 := c_eq t1827 t1829 c1831
            unfold pX11_layLinks_195
            obtain ⟨z1832, t1833, f1834⟩ := t_add tx2 lit_1
            first | replace f1834 := f1834 (by omega) | clear f1834
            intro x2_1v991 ex2_1v991
            have tx2_1v991 : Ti x2_1v991 z1832 := by rw [ex2_1v991]; exact t1833
            exact ih _ _ _ _ _ tx1 tx2_1v991 hI (by omega) (by omega)
          · replace c1831 := c_neq t1827 t1829 c1831
            exact hp _ _ _  lit_0 hI 
      · replace c1808 := c_eq tr_2v981 lit_0 c1808
        unfold pX11_layLinks_195
        obtain ⟨z1835, t1836, f1837⟩ := t_add tx2 lit_1
        first | replace f1837 := f1837 (by omega) | clear f1837
        intro x2_1v992 ex2_1v992
        have tx2_1v992 : Ti x2_1v992 z1835 := by rw [ex2_1v992]; exact t1836
        exact ih _ _ _ _ _ tx1 tx2_1v992 hI (by omega) (by omega)
set_option maxHeartbeats 4000000 in
set_option maxRecDepth 100000 in
theorem sX11_layLinks_2 {T W H P S M : Int} {post : Int32 → Wd → Prop}   (hp : ∀ (r : Int32) (zr : Int) (w9 : Wd), Ti r zr → IM T W H P S M w9 → post r w9) : ∀ (n : Nat) (x1 : Int32) (x2 : Int32) (zx1 : Int) (zx2 : Int) (w : Wd), Ti x1 zx1 → Ti x2 zx2 → IM T W H P S M w → (0 ≤ zx2 ∧ zx2 ≤ 8) → (9 - zx2) < (n : Int) → pX11_layLinks_2   post  n x1 x2 w := by
  intro n
  induction n with
  | zero =>
    intro x1 x2 zx1 zx2 w tx1 tx2 hI h0 hm
    exact absurd hm (by omega)
  | succ n ih =>
    intro x1 x2 zx1 zx2 w tx1 tx2 hI h0 hm
    unfold pX11_layLinks_2
    have hk := im_k hI
    refine ⟨fun c1838 => ?_, fun c1838 => ?_⟩
    · replace c1838 := c_le lit_8 tx2 c1838
      exact ⟨70000, sX11_layLinks_30    (hp := hp) 70000 _ _ _ _ _ tx1 lit_0 hI (by omega) (by omega)⟩
    · replace c1838 := c_nle lit_8 tx2 c1838
      refine ⟨vp_of tx2 (by omega) (by omega), ?_⟩
      intro w_2v993 ew_2v993
      have hIw_2v993 := ims_A hI ew_2v993 (by decide)
      refine ⟨vp_of tx2 (by omega) (by omega), ?_⟩
      intro w_3v994 ew_3v994
      have hIw_3v994 := ims_A hIw_2v993 ew_3v994 (by decide)
      obtain ⟨z1839, t1840, f1841⟩ := t_add tx2 lit_1
      first | replace f1841 := f1841 (by omega) | clear f1841
      intro x2_4v995 ex2_4v995
      have tx2_4v995 : Ti x2_4v995 z1839 := by rw [ex2_4v995]; exact t1840
      exact ih _ _ _ _ _ tx1 tx2_4v995 hIw_3v994 (by omega) (by omega)
set_option maxHeartbeats 4000000 in
set_option maxRecDepth 100000 in
theorem sX11_layLinks {T W H P S M : Int} {post : Int32 → Wd → Prop} {x1 : Int32} {zx1 : Int} {w : Wd}  (tx1 : Ti x1 zx1) (hI : IM T W H P S M w)  (hp : ∀ (r : Int32) (zr : Int) (w9 : Wd), Ti r zr → IM T W H P S M w9 → post r w9) : pX11_layLinks   post  x1 w := by
  unfold pX11_layLinks
  have hk := im_k hI
  exact ⟨70000, sX11_layLinks_2    (hp := hp) 70000 _ _ _ _ _ tx1 lit_0 hI (by omega) (by omega)⟩
set_option maxHeartbeats 4000000 in
set_option maxRecDepth 100000 in
theorem sX11_backward {T W H P S M : Int} {post : Int32 → Wd → Prop} {x1 : Int32} {zx1 : Int} {x2 : Int32} {zx2 : Int} {w : Wd}  (tx1 : Ti x1 zx1) (tx2 : Ti x2 zx2) (hI : IM T W H P S M w)  (hp : ∀ (r : Int32) (zr : Int) (w9 : Wd), Ti r zr → IM T W H P S M w9 → post r w9) : pX11_backward   post  x1 x2 w := by
  unfold pX11_backward
  have hk := im_k hI
  refine sX11_isIn   (hI := hI) (tx0 := tx1) (tx1 := lit_0) (tx2 := lit_7)  (hp := fun r_1v996 zr_1v996 tr_1v996 p1842 p1843 => ?_)
  refine ⟨fun c1844 => ?_, fun c1844 => ?_⟩
  · replace c1844 := c_neq tr_1v996 lit_0 c1844
    refine sX11_layLinks   (hI := hI) (tx1 := tx2)  (hp := fun r_4v1000 zr_4v1000 w_5v1001  tr_4v1000 hIw_5v1001  => ?_)
    refine ⟨fun c1845 => ?_, fun c1845 => ?_⟩
    · replace c1845 := c_neq tr_4v1000 lit_0 c1845
      refine ⟨vp_of tx1 (by omega) (by omega), ?_⟩
      obtain ⟨z1846, t1847⟩ := t_any (w_5v1001.2.1 367 x1.toNatClampNeg)
      obtain ⟨z1849, t1850⟩ := t_any (w_5v1001.2.1 367 (0 : Int32).toNatClampNeg)
      refine ⟨fun c1852 => ?_, fun c1852 => ?_⟩
      · replace c1852 := c_neq t1847 t1850 c1852
        exact hp _ _ _  lit_m1 hIw_5v1001 
      · replace c1852 := c_eq t1847 t1850 c1852
        refine ⟨vp_of tx1 (by omega) (by omega), ?_⟩
        obtain ⟨z1853, t1854⟩ := t_any ((w_5v1001.2.1 366 x1.toNatClampNeg) ^^^ (w_5v1001.2.1 366 (0 : Int32).toNatClampNeg))
        exact hp _ _ _  t1854 hIw_5v1001 
    · replace c1845 := c_eq tr_4v1000 lit_0 c1845
      exact hp _ _ _  lit_m2 hIw_5v1001 
  · replace c1844 := c_eq tr_1v996 lit_0 c1844
    exact hp _ _ _  lit_m1 hI 
set_option maxHeartbeats 4000000 in
set_option maxRecDepth 100000 in
theorem sX11_lies {T W H P S M : Int} {post : Int32 → Wd → Prop} {x1 : Int32} {zx1 : Int} {w : Wd}  (tx1 : Ti x1 zx1) (hI : IM T W H P S M w)  (hp : ∀ (r : Int32) (zr : Int), Ti r zr → post r w) : pX11_lies   post  x1 w := by
  unfold pX11_lies
  have hk := im_k hI
  obtain ⟨z1855, t1856⟩ := t_any (w.1 300 48)
  have f1857 := img_48 hI t1856
  obtain ⟨z1858, t1859, f1860⟩ := t_sub t1856 lit_1
  first | replace f1860 := f1860 (by omega) | clear f1860
  refine sX11_isIn   (hI := hI) (tx0 := tx1) (tx1 := lit_0) (tx2 := t1859)  (hp := fun r_1v1002 zr_1v1002 tr_1v1002 p1861 p1862 => ?_)
  refine ⟨fun c1863 => ?_, fun c1863 => ?_⟩
  · replace c1863 := c_eq tr_1v1002 lit_0 c1863
    exact hp _ _ lit_m2 
  · replace c1863 := c_neq tr_1v1002 lit_0 c1863
    refine ⟨vp_of tx1 (by omega) (by omega), ?_⟩
    obtain ⟨z1864, t1865⟩ := t_any (w.2.1 348 x1.toNatClampNeg)
    exact hp _ _ t1865 
set_option maxHeartbeats 4000000 in
set_option maxRecDepth 100000 in
theorem sX11_about {T W H P S M : Int} {post : Int32 → Wd → Prop} {x1 : Int32} {zx1 : Int} {w : Wd}  (tx1 : Ti x1 zx1) (hI : IM T W H P S M w)  (hp : ∀ (r : Int32) (zr : Int), Ti r zr → post r w) : pX11_about   post  x1 w := by
  unfold pX11_about
  have hk := im_k hI
  refine ⟨fun c1867 => ?_, fun c1867 => ?_, fun c1867 => ?_, fun c1867 => ?_, fun c1867 => ?_, fun c1867 => ?_, fun c1867 => ?_, fun c1867 => ?_, fun c1867 => ?_, fun c1867 => ?_, fun c1867 => ?_, fun c1867 => ?_, fun c1867 => ?_, fun c1867 => ?_, fun c1867 => ?_⟩
  · rw [show x1.toInt = zx1 from tx1] at c1867
    exact hp _ _ lit_m1 
  · rw [show x1.toInt = zx1 from tx1] at c1867
    obtain ⟨z1868, t1869⟩ := t_any (w.1 300 29)
    have f1870 := img_29 hI t1869
    refine ⟨vp_of t1869 (by omega) (by omega), ?_⟩
    obtain ⟨z1871, t1872⟩ := t_any (w.2.1 314 (w.1 300 29).toNatClampNeg)
    have f1873 := img_314 hI t1872
    exact hp _ _ t1872 
  · rw [show x1.toInt = zx1 from tx1] at c1867
    refine sX11_width   (hI := hI)   (hp := fun r_2v1004 zr_2v1004 tr_2v1004 p1874 => ?_)
    exact hp _ _ tr_2v1004 
  · rw [show x1.toInt = zx1 from tx1] at c1867
    obtain ⟨z1875, t1876⟩ := t_any (w.2.1 341 (216 : Int32).toNatClampNeg)
    have f1877 := img_216 hI t1876
    exact hp _ _ t1876 
  · rw [show x1.toInt = zx1 from tx1] at c1867
    obtain ⟨z1878, t1879⟩ := t_any (w.2.1 341 (217 : Int32).toNatClampNeg)
    have f1880 := img_217 hI t1879
    exact hp _ _ t1879 
  · rw [show x1.toInt = zx1 from tx1] at c1867
    obtain ⟨z1881, t1882⟩ := t_any (w.2.1 341 (218 : Int32).toNatClampNeg)
    exact hp _ _ t1882 
  · rw [show x1.toInt = zx1 from tx1] at c1867
    obtain ⟨z1884, t1885⟩ := t_any (w.2.1 341 (219 : Int32).toNatClampNeg)
    exact hp _ _ t1885 
  · rw [show x1.toInt = zx1 from tx1] at c1867
    obtain ⟨z1887, t1888⟩ := t_any (w.2.1 341 (220 : Int32).toNatClampNeg)
    exact hp _ _ t1888 
  · rw [show x1.toInt = zx1 from tx1] at c1867
    obtain ⟨z1890, t1891⟩ := t_any (w.1 300 42)
    exact hp _ _ t1891 
  · rw [show x1.toInt = zx1 from tx1] at c1867
    obtain ⟨z1892, t1893⟩ := t_any (w.1 300 43)
    exact hp _ _ t1893 
  · rw [show x1.toInt = zx1 from tx1] at c1867
    obtain ⟨z1894, t1895⟩ := t_any (w.1 300 58)
    have f1896 := img_58 hI t1895
    exact hp _ _ t1895 
  · rw [show x1.toInt = zx1 from tx1] at c1867
    obtain ⟨z1897, t1898⟩ := t_any (w.1 300 59)
    have f1899 := img_59 hI t1898
    exact hp _ _ t1898 
  · rw [show x1.toInt = zx1 from tx1] at c1867
    obtain ⟨z1900, t1901⟩ := t_any (w.1 300 2)
    have f1902 := img_2 hI t1901
    exact hp _ _ t1901 
  · rw [show x1.toInt = zx1 from tx1] at c1867
    obtain ⟨z1903, t1904⟩ := t_any (w.1 300 29)
    have f1905 := img_29 hI t1904
    refine ⟨vp_of t1904 (by omega) (by omega), ?_⟩
    obtain ⟨z1906, t1907⟩ := t_any (w.2.1 315 (w.1 300 29).toNatClampNeg)
    exact hp _ _ t1907 
  · rw [show x1.toInt = zx1 from tx1] at c1867
    obtain ⟨z1909, t1910⟩ := t_any (w.1 300 48)
    have f1911 := img_48 hI t1910
    exact hp _ _ t1910 
