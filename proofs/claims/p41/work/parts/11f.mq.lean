set_option maxHeartbeats 4000000 in
set_option maxRecDepth 100000 in
theorem sX11_changesOf_109 {T W H P S M : Int} {post : Int32 → Wd → Prop}   (hp : ∀ (r : Int32) (zr : Int) (w9 : Wd), Ti r zr → IM T W H P S M w9 → post r w9) : ∀ (n : Nat) (x2 : Int32) (x4 : Int32) (x5 : Int32) (zx2 : Int) (zx4 : Int) (zx5 : Int) (w : Wd), Ti x2 zx2 → Ti x4 zx4 → Ti x5 zx5 → IM T W H P S M w → (0 ≤ zx5 ∧ zx5 ≤ M) → (0 ≤ zx2 ∧ zx2 < M) → (FO M zx2 (-1) w) → (M + 1 - zx5) < (n : Int) → pX11_changesOf_109   post  n x2 x4 x5 w := by
  intro n
  induction n with
  | zero =>
    intro x2 x4 x5 zx2 zx4 zx5 w tx2 tx4 tx5 hI h0 h1 h2 hm
    exact absurd hm (by omega)
  | succ n ih =>
    intro x2 x4 x5 zx2 zx4 zx5 w tx2 tx4 tx5 hI h0 h1 h2 hm
    unfold pX11_changesOf_109
    have hk := im_k hI
    obtain ⟨z1260, t1261⟩ := t_any (w.1 300 63)
    have f1262 := img_63 hI t1261
    refine ⟨fun c1263 => ?_, fun c1263 => ?_⟩
    · replace c1263 := c_le t1261 tx5 c1263
      exact hp _ _ _  tx4 hI 
    · replace c1263 := c_nle t1261 tx5 c1263
      exact ⟨70000, sX11_changesOf_125  (M109 := (n : Int)) (hk109 := ih)  (hp := hp) 70000 _ _ _ _ _ _ _ _ _ _ _ tx2 tx4 tx5 tx5 lit_0 hI (by omega) (by omega) (by omega) (by omega) (by omega) (fo_w h2 (by omega)) (by omega) (by omega)⟩
set_option maxHeartbeats 4000000 in
set_option maxRecDepth 100000 in
theorem sX11_changesOf_13 {T W H P S M : Int} {post : Int32 → Wd → Prop}   (hp : ∀ (r : Int32) (zr : Int) (w9 : Wd), Ti r zr → IM T W H P S M w9 → post r w9) : ∀ (n : Nat) (x2 : Int32) (x3 : Int32) (x4 : Int32) (x5 : Int32) (zx2 : Int) (zx3 : Int) (zx4 : Int) (zx5 : Int) (w : Wd), Ti x2 zx2 → Ti x3 zx3 → Ti x4 zx4 → Ti x5 zx5 → IM T W H P S M w → (-1 ≤ zx5 ∧ zx5 < M) → (0 ≤ zx2 ∧ zx2 < M) → (0 ≤ zx3) → (FO M zx2 zx5 w) → (zx5 + 2) < (n : Int) → pX11_changesOf_13   post  n x2 x3 x4 x5 w := by
  intro n
  induction n with
  | zero =>
    intro x2 x3 x4 x5 zx2 zx3 zx4 zx5 w tx2 tx3 tx4 tx5 hI h0 h1 h2 h3 hm
    exact absurd hm (by omega)
  | succ n ih =>
    intro x2 x3 x4 x5 zx2 zx3 zx4 zx5 w tx2 tx3 tx4 tx5 hI h0 h1 h2 h3 hm
    unfold pX11_changesOf_13
    have hk := im_k hI
    refine ⟨fun c1264 => ?_, fun c1264 => ?_⟩
    · replace c1264 := c_lt tx5 lit_0 c1264
      exact ⟨70000, sX11_changesOf_109    (hp := hp) 70000 _ _ _ _ _ _ _ tx2 tx4 lit_0 hI (by omega) (by omega) (fo_w h3 (by omega)) (by omega)⟩
    · replace c1264 := c_nlt tx5 lit_0 c1264
      refine ⟨vp_of tx5 (by omega) (by omega), ?_⟩
      intro w_2v813 ew_2v813
      have hIw_2v813 := ims_A hI ew_2v813 (by decide)
      refine ⟨fun c1265 => ?_, fun c1265 => ?_⟩
      · replace c1265 := c_neq tx5 tx2 c1265
        obtain ⟨z1267, t1268⟩ := t_any (w.1 300 63)
        have f1269 := img_63 hI t1268
        have t1266 : Ti (w_2v813.1 300 63) z1267 := by rw [e1_A ew_2v813]; exact t1268
        obtain ⟨z1270, t1271, f1272⟩ := t_sub t1266 lit_1
        first | replace f1272 := f1272 (by omega) | clear f1272
        refine ⟨nz_of t1271 (by omega), ?_⟩
        obtain ⟨z1273, t1274, f1275⟩ := t_remv tx3 t1271
        first | replace f1275 := f1275 (by omega) | clear f1275
        intro x6_4v814 ex6_4v814
        have tx6_4v814 : Ti x6_4v814 z1273 := by rw [ex6_4v814]; exact t1274
        refine ⟨nz_of t1271 (by omega), ?_⟩
        obtain ⟨z1276, t1277, f1278⟩ := t_divv tx3 t1271
        first | replace f1278 := f1278 (by omega) | clear f1278
        intro x3_5v815 ex3_5v815
        have tx3_5v815 : Ti x3_5v815 z1276 := by rw [ex3_5v815]; exact t1277
        refine ⟨fun c1279 => ?_, fun c1279 => ?_⟩
        · replace c1279 := c_le tx5 tx6_4v814 c1279
          unfold pX11_changesOf_76
          refine ⟨vp_of tx5 (by omega) (by omega), ?_⟩
          intro w_1v816 ew_1v816
          have hIw_1v816 := ims_A hIw_2v813 ew_1v816 (by decide)
          refine ⟨vp_of tx5 (by omega) (by omega), ?_⟩
          obtain ⟨z1280, t1281, f1282⟩ := t_add tx6_4v814 lit_1
          first | replace f1282 := f1282 (by omega) | clear f1282
          have t1283 : Ti (w_1v816.2.1 362 x5.toNatClampNeg) z1280 := by rw [ew_1v816, sA_at]; exact t1281
          obtain ⟨z1284, t1285, f1286⟩ := t_mul lit_7 t1283
          first | replace f1286 := f1286 (by omega) | clear f1286
          obtain ⟨z1287, t1288, f1289⟩ := t_add t1285 tx5
          first | replace f1289 := f1289 (by omega) | clear f1289
          refine ⟨vp_of t1288 (by omega) (by omega), ?_⟩
          obtain ⟨z1290, t1291⟩ := t_any (w_1v816.2.1 363 (((7 : Int32) * (w_1v816.2.1 362 x5.toNatClampNeg)) + x5).toNatClampNeg)
          obtain ⟨z1292, t1293, f1294⟩ := t_add tx4 t1291
          first | replace f1294 := f1294 (by omega) | clear f1294
          intro x4_2v817 ex4_2v817
          have tx4_2v817 : Ti x4_2v817 z1292 := by rw [ex4_2v817]; exact t1293
          unfold pX11_changesOf_100
          obtain ⟨z1295, t1296, f1297⟩ := t_add tx5 lit_m1
          first | replace f1297 := f1297 (by omega) | clear f1297
          intro x5_1v818 ex5_1v818
          have tx5_1v818 : Ti x5_1v818 z1295 := by rw [ex5_1v818]; exact t1296
          exact ih _ _ _ _ _ _ _ _ _ tx2 tx3_5v815 tx4_2v817 tx5_1v818 hIw_1v816 (by omega) (by omega) (by omega) (fo_2 h3 ew_2v813 tx5 ew_1v816 tx5 t1281 (by omega) (by omega) (by omega)) (by omega)
        · replace c1279 := c_nle tx5 tx6_4v814 c1279
          unfold pX11_changesOf_76
          refine ⟨vp_of tx5 (by omega) (by omega), ?_⟩
          intro w_1v819 ew_1v819
          have hIw_1v819 := ims_A hIw_2v813 ew_1v819 (by decide)
          refine ⟨vp_of tx5 (by omega) (by omega), ?_⟩
          have t1298 : Ti (w_1v819.2.1 362 x5.toNatClampNeg) z1273 := by rw [ew_1v819, sA_at]; exact tx6_4v814
          obtain ⟨z1299, t1300, f1301⟩ := t_mul lit_7 t1298
          first | replace f1301 := f1301 (by omega) | clear f1301
          obtain ⟨z1302, t1303, f1304⟩ := t_add t1300 tx5
          first | replace f1304 := f1304 (by omega) | clear f1304
          refine ⟨vp_of t1303 (by omega) (by omega), ?_⟩
          obtain ⟨z1305, t1306⟩ := t_any (w_1v819.2.1 363 (((7 : Int32) * (w_1v819.2.1 362 x5.toNatClampNeg)) + x5).toNatClampNeg)
          obtain ⟨z1307, t1308, f1309⟩ := t_add tx4 t1306
          first | replace f1309 := f1309 (by omega) | clear f1309
          intro x4_2v820 ex4_2v820
          have tx4_2v820 : Ti x4_2v820 z1307 := by rw [ex4_2v820]; exact t1308
          unfold pX11_changesOf_100
          obtain ⟨z1310, t1311, f1312⟩ := t_add tx5 lit_m1
          first | replace f1312 := f1312 (by omega) | clear f1312
          intro x5_1v821 ex5_1v821
          have tx5_1v821 : Ti x5_1v821 z1310 := by rw [ex5_1v821]; exact t1311
          exact ih _ _ _ _ _ _ _ _ _ tx2 tx3_5v815 tx4_2v820 tx5_1v821 hIw_1v819 (by omega) (by omega) (by omega) (fo_2 h3 ew_2v813 tx5 ew_1v819 tx5 tx6_4v814 (by omega) (by omega) (by omega)) (by omega)
      · replace c1265 := c_eq tx5 tx2 c1265
        unfold pX11_changesOf_100
        obtain ⟨z1313, t1314, f1315⟩ := t_add tx5 lit_m1
        first | replace f1315 := f1315 (by omega) | clear f1315
        intro x5_1v822 ex5_1v822
        have tx5_1v822 : Ti x5_1v822 z1313 := by rw [ex5_1v822]; exact t1314
        exact ih _ _ _ _ _ _ _ _ _ tx2 tx3 tx4 tx5_1v822 hIw_2v813 (by omega) (by omega) (by omega) (fo_1 h3 ew_2v813 tx5 (by omega) (by omega)) (by omega)
set_option maxHeartbeats 4000000 in
set_option maxRecDepth 100000 in
theorem sX11_changesOf {T W H P S M : Int} {post : Int32 → Wd → Prop} {x1 : Int32} {zx1 : Int} {x2 : Int32} {zx2 : Int} {w : Wd}  (tx1 : Ti x1 zx1) (tx2 : Ti x2 zx2) (hI : IM T W H P S M w) (h0 : 0 ≤ zx1) (h1 : 0 ≤ zx2 ∧ zx2 < M) (hp : ∀ (r : Int32) (zr : Int) (w9 : Wd), Ti r zr → IM T W H P S M w9 → post r w9) : pX11_changesOf   post  x1 x2 w := by
  unfold pX11_changesOf
  have hk := im_k hI
  obtain ⟨z1316, t1317⟩ := t_any (w.1 300 63)
  have f1318 := img_63 hI t1317
  obtain ⟨z1319, t1320, f1321⟩ := t_sub t1317 lit_1
  first | replace f1321 := f1321 (by omega) | clear f1321
  intro x5_1v823 ex5_1v823
  have tx5_1v823 : Ti x5_1v823 z1319 := by rw [ex5_1v823]; exact t1320
  exact ⟨70000, sX11_changesOf_13    (hp := hp) 70000 _ _ _ _ _ _ _ _ _ tx2 tx1 lit_0 tx5_1v823 hI (by omega) (by omega) (by omega) (fo_0 (by omega)) (by omega)⟩
set_option maxHeartbeats 4000000 in
set_option maxRecDepth 100000 in
theorem sX11_counts {T W H P S M : Int} {post : Int32 → Wd → Prop} {x1 : Int32} {zx1 : Int} {x2 : Int32} {zx2 : Int} {x3 : Int32} {zx3 : Int} {w : Wd}  (tx1 : Ti x1 zx1) (tx2 : Ti x2 zx2) (tx3 : Ti x3 zx3) (hI : IM T W H P S M w) (h0 : 0 ≤ zx1 ∧ zx1 ≤ 39) (hp : ∀ (r : Int32) (zr : Int), Ti r zr → ((zr = 0 ∨ w.2.1 353 x1.toNatClampNeg = x2)) → post r w) : pX11_counts   post  x1 x2 x3 w := by
  unfold pX11_counts
  have hk := im_k hI
  refine ⟨vp_of tx1 (by omega) (by omega), ?_⟩
  obtain ⟨z1322, t1323⟩ := t_any (w.2.1 353 x1.toNatClampNeg)
  refine ⟨fun c1325 => ?_, fun c1325 => ?_⟩
  · replace c1325 := c_neq t1323 tx2 c1325
    exact hp _ _ lit_0 (Or.inl (by omega))
  · replace c1325 := c_eq t1323 tx2 c1325
    refine ⟨vp_of tx1 (by omega) (by omega), ?_⟩
    obtain ⟨z1326, t1327⟩ := t_any (w.2.1 357 x1.toNatClampNeg)
    refine ⟨fun c1329 => ?_, fun c1329 => ?_⟩
    · replace c1329 := c_lt tx3 t1327 c1329
      exact hp _ _ lit_0 (Or.inl (by omega))
    · replace c1329 := c_nlt tx3 t1327 c1329
      refine ⟨vp_of tx1 (by omega) (by omega), ?_⟩
      obtain ⟨z1330, t1331⟩ := t_any (w.2.1 358 x1.toNatClampNeg)
      refine ⟨fun c1333 => ?_, fun c1333 => ?_⟩
      · replace c1333 := c_lt t1331 lit_0 c1333
        exact hp _ _ lit_1 (Or.inr (cq_eq t1323 tx2 (by omega)))
      · replace c1333 := c_nlt t1331 lit_0 c1333
        refine ⟨vp_of tx1 (by omega) (by omega), ?_⟩
        refine ⟨fun c1334 => ?_, fun c1334 => ?_⟩
        · replace c1334 := c_le t1331 tx3 c1334
          exact hp _ _ lit_0 (Or.inl (by omega))
        · replace c1334 := c_nle t1331 tx3 c1334
          exact hp _ _ lit_1 (Or.inr (cq_eq t1323 tx2 (by omega)))
set_option maxHeartbeats 4000000 in
set_option maxRecDepth 100000 in
theorem sX11_laySamples_92 {T W H P S M : Int} {k70 : Int32 → Wd → Prop} {M70 : Int} {post : Wd → Prop}  (hk70 : ∀ (x2 : Int32) (zx2 : Int) (w : Wd), Ti x2 zx2 → IM T W H P S M w → (0 ≤ zx2 ∧ zx2 ≤ 7) → (8 - zx2) < M70 → k70 x2 w) (hp : ∀ (w9 : Wd) (M9 : Int), IM T W H P S M9 w9 → post w9) : ∀ (n : Nat) (x2 : Int32) (x3 : Int32) (x4 : Int32) (zx2 : Int) (zx3 : Int) (zx4 : Int) (w : Wd), Ti x2 zx2 → Ti x3 zx3 → Ti x4 zx4 → IM T W H P S M w → (0 ≤ zx4 ∧ zx4 ≤ 7) → (zx2 ≤ 6) → (0 ≤ zx2 ∧ zx2 ≤ 7) → ((8 - zx2) ≤ M70) → (8 - zx4) < (n : Int) → pX11_laySamples_92 k70  post  n x2 x3 x4 w := by
  intro n
  induction n with
  | zero =>
    intro x2 x3 x4 zx2 zx3 zx4 w tx2 tx3 tx4 hI h0 h1 h2 h3 hm
    exact absurd hm (by omega)
  | succ n ih =>
    intro x2 x3 x4 zx2 zx3 zx4 w tx2 tx3 tx4 hI h0 h1 h2 h3 hm
    unfold pX11_laySamples_92
    have hk := im_k hI
    obtain ⟨z1335, t1336⟩ := t_any (w.1 300 63)
    have f1337 := img_63 hI t1336
    refine ⟨fun c1338 => ?_, fun c1338 => ?_⟩
    · replace c1338 := c_le t1336 tx4 c1338
      obtain ⟨z1339, t1340, f1341⟩ := t_add tx2 lit_1
      first | replace f1341 := f1341 (by omega) | clear f1341
      intro x2_2v824 ex2_2v824
      have tx2_2v824 : Ti x2_2v824 z1339 := by rw [ex2_2v824]; exact t1340
      exact hk70 _ _ _ tx2_2v824 hI (by omega) (by omega)
    · replace c1338 := c_nle t1336 tx4 c1338
      refine ⟨vp_of tx4 (by omega) (by omega), ?_⟩
      obtain ⟨z1342, t1343⟩ := t_any (x3 &&& ((w.2.1 361 x4.toNatClampNeg) ^^^ (-1 : Int32)))
      refine sX11_bitsOf   (hI := hI) (tx0 := t1343)  (hp := fun r_3v825 zr_3v825 tr_3v825 => ?_)
      refine ⟨vp_of tx4 (by omega) (by omega), ?_⟩
      obtain ⟨z1344, t1345⟩ := t_any ((w.2.1 361 x4.toNatClampNeg) &&& (x3 ^^^ (-1 : Int32)))
      refine sX11_bitsOf   (hI := hI) (tx0 := t1345)  (hp := fun r_5v831 zr_5v831 tr_5v831 => ?_)
      obtain ⟨z1346, t1347, f1348⟩ := t_mul lit_7 tx2
      first | replace f1348 := f1348 (by omega) | clear f1348
      obtain ⟨z1349, t1350, f1351⟩ := t_add t1347 tx4
      first | replace f1351 := f1351 (by omega) | clear f1351
      refine ⟨vp_of t1350 (by omega) (by omega), ?_⟩
      intro w_7v835 ew_7v835
      have hIw_7v835 := ims_A hI ew_7v835 (by decide)
      obtain ⟨z1352, t1353, f1354⟩ := t_add tx4 lit_1
      first | replace f1354 := f1354 (by omega) | clear f1354
      intro x4_8v836 ex4_8v836
      have tx4_8v836 : Ti x4_8v836 z1352 := by rw [ex4_8v836]; exact t1353
      exact ih _ _ _ _ _ _ _ tx2 tx3 tx4_8v836 hIw_7v835 (by omega) (by omega) (by omega) (by omega) (by omega)
set_option maxHeartbeats 4000000 in
set_option maxRecDepth 100000 in
theorem sX11_laySamples_70 {T W H P S M : Int} {post : Wd → Prop}   (hp : ∀ (w9 : Wd) (M9 : Int), IM T W H P S M9 w9 → post w9) : ∀ (n : Nat) (x2 : Int32) (zx2 : Int) (w : Wd), Ti x2 zx2 → IM T W H P S M w → (0 ≤ zx2 ∧ zx2 ≤ 7) → (8 - zx2) < (n : Int) → pX11_laySamples_70   post  n x2 w := by
  intro n
  induction n with
  | zero =>
    intro x2 zx2 w tx2 hI h0 hm
    exact absurd hm (by omega)
  | succ n ih =>
    intro x2 zx2 w tx2 hI h0 hm
    unfold pX11_laySamples_70
    have hk := im_k hI
    obtain ⟨z1355, t1356⟩ := t_any (w.1 300 63)
    have f1357 := img_63 hI t1356
    refine ⟨fun c1358 => ?_, fun c1358 => ?_⟩
    · replace c1358 := c_le t1356 tx2 c1358
      exact hp  _ _  hI 
    · replace c1358 := c_nle t1356 tx2 c1358
      refine ⟨vp_of tx2 (by omega) (by omega), ?_⟩
      obtain ⟨z1359, t1360⟩ := t_any (w.2.1 361 x2.toNatClampNeg)
      refine sX11_turnedRow   (hI := hI) (tx1 := t1360)  (hp := fun r_2v837 zr_2v837 tr_2v837 => ?_)
      exact ⟨70000, sX11_laySamples_92  (M70 := (n : Int)) (hk70 := ih)  (hp := hp) 70000 _ _ _ _ _ _ _ tx2 tr_2v837 lit_0 hI (by omega) (by omega) (by omega) (by omega) (by omega)⟩
set_option maxHeartbeats 4000000 in
set_option maxRecDepth 100000 in
theorem sX11_laySamples_7 {T W H P S : Int} {post : Wd → Prop}   (hp : ∀ (w9 : Wd) (M9 : Int), IM T W H P S M9 w9 → post w9) : ∀ (n : Nat) (x1 : Int32) (x2 : Int32) (zx1 : Int) (zx2 : Int) (w : Wd), Ti x1 zx1 → Ti x2 zx2 → IMe T W H P S w → (0 ≤ zx2 ∧ zx2 ≤ 40) → (41 - zx2) < (n : Int) → pX11_laySamples_7   post  n x1 x2 w := by
  intro n
  induction n with
  | zero =>
    intro x1 x2 zx1 zx2 w tx1 tx2 hI h0 hm
    obtain ⟨M, hI⟩ := hI
    exact absurd hm (by omega)
  | succ n ih =>
    intro x1 x2 zx1 zx2 w tx1 tx2 hI h0 hm
    obtain ⟨M, hI⟩ := hI
    unfold pX11_laySamples_7
    have hk := im_k hI
    obtain ⟨z1362, t1363⟩ := t_any (w.1 300 58)
    have f1364 := img_58 hI t1363
    refine ⟨fun c1365 => ?_, fun c1365 => ?_⟩
    · replace c1365 := c_le t1363 tx2 c1365
      unfold pX11_laySamples_68
      exact ⟨70000, sX11_laySamples_70    (hp := hp) 70000 _ _ _ lit_0 hI (by omega) (by omega)⟩
    · replace c1365 := c_nle t1363 tx2 c1365
      obtain ⟨z1366, t1367⟩ := t_any (w.1 300 63)
      have f1368 := img_63 hI t1367
      refine ⟨fun c1369 => ?_, fun c1369 => ?_⟩
      · replace c1369 := c_le lit_7 t1367 c1369
        unfold pX11_laySamples_68
        exact ⟨70000, sX11_laySamples_70    (hp := hp) 70000 _ _ _ lit_0 hI (by omega) (by omega)⟩
      · replace c1369 := c_nle lit_7 t1367 c1369
        refine sX11_counts   (hI := hI) (tx1 := tx2) (tx2 := lit_0) (tx3 := tx1) (h0 := (by omega)) (hp := fun r_3v839 zr_3v839 tr_3v839 p1370 => ?_)
        refine ⟨fun c1371 => ?_, fun c1371 => ?_⟩
        · replace c1371 := c_neq tr_3v839 lit_0 c1371
          refine ⟨vp_of tx2 (by omega) (by omega), ?_⟩
          refine ⟨vp_of t1367 (by omega) (by omega), ?_⟩
          intro w_6v843 ew_6v843
          have hIw_6v843 := ims_A hI ew_6v843 (by decide)
          intro w_7v844 ew_7v844
          have t1372 : Ti (w_6v843.1 300 63) z1366 := by rw [e1_A ew_6v843]; exact t1367
          obtain ⟨z1373, t1374, f1375⟩ := t_add t1372 lit_1
          first | replace f1375 := f1375 (by omega) | clear f1375
          have hIw_7v844 := ims_63 hIw_6v843 ew_7v844 t1374 (by omega) (by omega)
          unfold pX11_laySamples_62
          obtain ⟨z1376, t1377, f1378⟩ := t_add tx2 lit_1
          first | replace f1378 := f1378 (by omega) | clear f1378
          intro x2_1v845 ex2_1v845
          have tx2_1v845 : Ti x2_1v845 z1376 := by rw [ex2_1v845]; exact t1377
          exact ih _ _ _ _ _ tx1 tx2_1v845 ⟨_, hIw_7v844⟩ (by omega) (by omega)
        · replace c1371 := c_eq tr_3v839 lit_0 c1371
          unfold pX11_laySamples_62
          obtain ⟨z1379, t1380, f1381⟩ := t_add tx2 lit_1
          first | replace f1381 := f1381 (by omega) | clear f1381
          intro x2_1v846 ex2_1v846
          have tx2_1v846 : Ti x2_1v846 z1379 := by rw [ex2_1v846]; exact t1380
          exact ih _ _ _ _ _ tx1 tx2_1v846 ⟨_, hI⟩ (by omega) (by omega)
set_option maxHeartbeats 4000000 in
set_option maxRecDepth 100000 in
theorem sX11_laySamples {T W H P S M : Int} {post : Wd → Prop} {x1 : Int32} {zx1 : Int} {w : Wd}  (tx1 : Ti x1 zx1) (hI : IM T W H P S M w)  (hp : ∀ (w9 : Wd) (M9 : Int), IM T W H P S M9 w9 → post w9) : pX11_laySamples   post  x1 w := by
  unfold pX11_laySamples
  have hk := im_k hI
  intro w_1v847 ew_1v847
  have hIw_1v847 := ims_63 hI ew_1v847 lit_0 (by omega) (by omega)
  exact ⟨70000, sX11_laySamples_7    (hp := hp) 70000 _ _ _ _ _ tx1 lit_0 ⟨_, hIw_1v847⟩ (by omega) (by omega)⟩
set_option maxHeartbeats 4000000 in
set_option maxRecDepth 100000 in
theorem sX11_tree_143 {T W H P S M : Int} {k76 : Int32 → Int32 → Int32 → Int32 → Int32 → Int32 → Wd → Prop} {M76 : Int} {post : Int32 → Wd → Prop}  (hk76 : ∀ (x1 : Int32) (x2 : Int32) (x4 : Int32) (x5 : Int32) (x6 : Int32) (x7 : Int32) (zx1 : Int) (zx2 : Int) (zx4 : Int) (zx5 : Int) (zx6 : Int) (zx7 : Int) (w : Wd), Ti x1 zx1 → Ti x2 zx2 → Ti x4 zx4 → Ti x5 zx5 → Ti x6 zx6 → Ti x7 zx7 → IM T W H P S M w → (0 ≤ zx7) → (zx7 ≤ 2147483647 ∧ zx4 ≤ 2147483647) → (0 ≤ zx1 ∧ zx1 < M) → (2147483648 - zx7) < M76 → k76 x1 x2 x4 x5 x6 x7 w) (hp : ∀ (r : Int32) (zr : Int) (w9 : Wd) (M9 : Int), Ti r zr → IM T W H P S M9 w9 → post r w9) : ∀ (n : Nat) (x1 : Int32) (x2 : Int32) (x4 : Int32) (x6 : Int32) (x7 : Int32) (x8 : Int32) (x9 : Int32) (zx1 : Int) (zx2 : Int) (zx4 : Int) (zx6 : Int) (zx7 : Int) (zx8 : Int) (zx9 : Int) (w : Wd), Ti x1 zx1 → Ti x2 zx2 → Ti x4 zx4 → Ti x6 zx6 → Ti x7 zx7 → Ti x8 zx8 → Ti x9 zx9 → IM T W H P S M w → (0 ≤ zx9 ∧ zx9 ≤ 7) → (zx7 < zx4 ∧ zx4 ≤ 2147483647) → (0 ≤ zx7) → (zx7 ≤ 2147483647 ∧ zx4 ≤ 2147483647) → (0 ≤ zx1 ∧ zx1 < M) → ((2147483648 - zx7) ≤ M76) → (8 - zx9) < (n : Int) → pX11_tree_143 k76  post  n x1 x2 x4 x6 x7 x8 x9 w := by
  intro n
  induction n with
  | zero =>
    intro x1 x2 x4 x6 x7 x8 x9 zx1 zx2 zx4 zx6 zx7 zx8 zx9 w tx1 tx2 tx4 tx6 tx7 tx8 tx9 hI h0 h1 h2 h3 h4 h5 hm
    exact absurd hm (by omega)
  | succ n ih =>
    intro x1 x2 x4 x6 x7 x8 x9 zx1 zx2 zx4 zx6 zx7 zx8 zx9 w tx1 tx2 tx4 tx6 tx7 tx8 tx9 hI h0 h1 h2 h3 h4 h5 hm
    unfold pX11_tree_143
    have hk := im_k hI
    obtain ⟨z1382, t1383⟩ := t_any (w.1 300 63)
    have f1384 := img_63 hI t1383
    refine ⟨fun c1385 => ?_, fun c1385 => ?_⟩
    · replace c1385 := c_le t1383 tx9 c1385
      unfold pX11_tree_172
      unfold pX11_tree_176
      obtain ⟨z1386, t1387, f1388⟩ := t_add tx7 lit_1
      first | replace f1388 := f1388 (by omega) | clear f1388
      intro x7_1v850 ex7_1v850
      have tx7_1v850 : Ti x7_1v850 z1386 := by rw [ex7_1v850]; exact t1387
      have f1389 := t_rng tx4
      exact hk76 _ _ _ _ _ _ _ _ _ _ _ _ _ tx1 tx2 tx4 tx8 tx6 tx7_1v850 hI (by omega) (by omega) (by omega) (by omega)
    · replace c1385 := c_nle t1383 tx9 c1385
      refine ⟨vp_of tx9 (by omega) (by omega), ?_⟩
      refine ⟨vp_of tx9 (by omega) (by omega), ?_⟩
      intro w_2v848 ew_2v848
      have hIw_2v848 := ims_A hI ew_2v848 (by decide)
      obtain ⟨z1390, t1391, f1392⟩ := t_add tx9 lit_1
      first | replace f1392 := f1392 (by omega) | clear f1392
      intro x9_3v849 ex9_3v849
      have tx9_3v849 : Ti x9_3v849 z1390 := by rw [ex9_3v849]; exact t1391
      exact ih _ _ _ _ _ _ _ _ _ _ _ _ _ _ _ tx1 tx2 tx4 tx6 tx7 tx8 tx9_3v849 hIw_2v848 (by omega) (by omega) (by omega) (by omega) (by omega) (by omega) (by omega)
set_option maxHeartbeats 4000000 in
set_option maxRecDepth 100000 in
theorem sX11_tree_76 {T W H P S M : Int} {post : Int32 → Wd → Prop}   (hp : ∀ (r : Int32) (zr : Int) (w9 : Wd) (M9 : Int), Ti r zr → IM T W H P S M9 w9 → post r w9) : ∀ (n : Nat) (x1 : Int32) (x2 : Int32) (x4 : Int32) (x5 : Int32) (x6 : Int32) (x7 : Int32) (zx1 : Int) (zx2 : Int) (zx4 : Int) (zx5 : Int) (zx6 : Int) (zx7 : Int) (w : Wd), Ti x1 zx1 → Ti x2 zx2 → Ti x4 zx4 → Ti x5 zx5 → Ti x6 zx6 → Ti x7 zx7 → IM T W H P S M w → (0 ≤ zx7) → (zx7 ≤ 2147483647 ∧ zx4 ≤ 2147483647) → (0 ≤ zx1 ∧ zx1 < M) → (2147483648 - zx7) < (n : Int) → pX11_tree_76   post  n x1 x2 x4 x5 x6 x7 w := by
  intro n
  induction n with
  | zero =>
    intro x1 x2 x4 x5 x6 x7 zx1 zx2 zx4 zx5 zx6 zx7 w tx1 tx2 tx4 tx5 tx6 tx7 hI h0 h1 h2 hm
    exact absurd hm (by omega)
  | succ n ih =>
    intro x1 x2 x4 x5 x6 x7 zx1 zx2 zx4 zx5 zx6 zx7 w tx1 tx2 tx4 tx5 tx6 tx7 hI h0 h1 h2 hm
    unfold pX11_tree_76
    have hk := im_k hI
    refine ⟨fun c1393 => ?_, fun c1393 => ?_⟩
    · replace c1393 := c_le tx4 tx7 c1393
      intro w_2v851 ew_2v851
      obtain ⟨z1394, t1395⟩ := t_any (w.1 300 63)
      have f1396 := img_63 hI t1395
      have hIw_2v851 := ims_48 hI ew_2v851 t1395 (by omega) (by omega)
      refine ⟨fun c1397 => ?_, fun c1397 => ?_⟩
      · replace c1397 := c_neq tx2 lit_0 c1397
        exact hp _ _ _ _ tx6 hIw_2v851 
      · replace c1397 := c_eq tx2 lit_0 c1397
        exact hp _ _ _ _ tx5 hIw_2v851 
    · replace c1393 := c_nle tx4 tx7 c1393
      refine sX11_changesOf   (hI := hI) (tx1 := tx7) (tx2 := tx1) (h0 := (by omega)) (h1 := (by omega)) (hp := fun r_4v852 zr_4v852 w_5v853  tr_4v852 hIw_5v853  => ?_)
      refine ⟨fun c1398 => ?_, fun c1398 => ?_⟩
      · replace c1398 := c_lt tr_4v852 lit_0 c1398
        unfold pX11_tree_176
        obtain ⟨z1399, t1400, f1401⟩ := t_add tx7 lit_1
        first | replace f1401 := f1401 (by omega) | clear f1401
        intro x7_1v854 ex7_1v854
        have tx7_1v854 : Ti x7_1v854 z1399 := by rw [ex7_1v854]; exact t1400
        have f1402 := t_rng tx4
        exact ih _ _ _ _ _ _ _ _ _ _ _ _ _ tx1 tx2 tx4 tx5 tx6 tx7_1v854 hIw_5v853 (by omega) (by omega) (by omega) (by omega)
      · replace c1398 := c_nlt tr_4v852 lit_0 c1398
        refine ⟨fun c1403 => ?_, fun c1403 => ?_⟩
        · replace c1403 := c_lt tx5 lit_0 c1403
          unfold pX11_tree_112
          refine ⟨fun c1404 => ?_, fun c1404 => ?_⟩
          · replace c1404 := c_lt tx5 lit_0 c1404
            unfold pX11_tree_124
            unfold pX11_tree_132
            refine ⟨fun c1405 => ?_, fun c1405 => ?_⟩
            · replace c1405 := c_neq lit_1 lit_1 c1405
              unfold pX11_tree_172
              unfold pX11_tree_176
              obtain ⟨z1406, t1407, f1408⟩ := t_add tx7 lit_1
              first | replace f1408 := f1408 (by omega) | clear f1408
              intro x7_1v855 ex7_1v855
              have tx7_1v855 : Ti x7_1v855 z1406 := by rw [ex7_1v855]; exact t1407
              have f1409 := t_rng tx4
              exact ih _ _ _ _ _ _ _ _ _ _ _ _ _ tx1 tx2 tx4 tr_4v852 lit_1 tx7_1v855 hIw_5v853 (by omega) (by omega) (by omega) (by omega)
            · replace c1405 := c_eq lit_1 lit_1 c1405
              exact ⟨70000, sX11_tree_143  (M76 := (n : Int)) (hk76 := ih)  (hp := hp) 70000 _ _ _ _ _ _ _ _ _ _ _ _ _ _ _ tx1 tx2 tx4 lit_1 tx7 tr_4v852 lit_0 hIw_5v853 (by omega) (by omega) (by omega) (by omega) (by omega) (by omega) (by omega)⟩
          · replace c1404 := c_nlt tx5 lit_0 c1404
            refine ⟨fun c1410 => ?_, fun c1410 => ?_⟩
            · replace c1410 := c_le tx5 tr_4v852 c1410
              unfold pX11_tree_132
              obtain ⟨z1411, t1412, f1413⟩ := t_add tx6 lit_1
              first | replace f1413 := f1413 (by omega) | clear f1413
              refine ⟨fun c1414 => ?_, fun c1414 => ?_⟩
              · replace c1414 := c_neq t1412 lit_1 c1414
                unfold pX11_tree_172
                unfold pX11_tree_176
                obtain ⟨z1415, t1416, f1417⟩ := t_add tx7 lit_1
                first | replace f1417 := f1417 (by omega) | clear f1417
                intro x7_1v856 ex7_1v856
                have tx7_1v856 : Ti x7_1v856 z1415 := by rw [ex7_1v856]; exact t1416
                have f1418 := t_rng tx4
                exact ih _ _ _ _ _ _ _ _ _ _ _ _ _ tx1 tx2 tx4 tr_4v852 t1412 tx7_1v856 hIw_5v853 (by omega) (by omega) (by omega) (by omega)
              · replace c1414 := c_eq t1412 lit_1 c1414
                exact ⟨70000, sX11_tree_143  (M76 := (n : Int)) (hk76 := ih)  (hp := hp) 70000 _ _ _ _ _ _ _ _ _ _ _ _ _ _ _ tx1 tx2 tx4 t1412 tx7 tr_4v852 lit_0 hIw_5v853 (by omega) (by omega) (by omega) (by omega) (by omega) (by omega) (by omega)⟩
            · replace c1410 := c_nle tx5 tr_4v852 c1410
              unfold pX11_tree_124
              unfold pX11_tree_132
              refine ⟨fun c1419 => ?_, fun c1419 => ?_⟩
              · replace c1419 := c_neq lit_1 lit_1 c1419
                unfold pX11_tree_172
                unfold pX11_tree_176
                obtain ⟨z1420, t1421, f1422⟩ := t_add tx7 lit_1
                first | replace f1422 := f1422 (by omega) | clear f1422
                intro x7_1v857 ex7_1v857
                have tx7_1v857 : Ti x7_1v857 z1420 := by rw [ex7_1v857]; exact t1421
                have f1423 := t_rng tx4
                exact ih _ _ _ _ _ _ _ _ _ _ _ _ _ tx1 tx2 tx4 tr_4v852 lit_1 tx7_1v857 hIw_5v853 (by omega) (by omega) (by omega) (by omega)
              · replace c1419 := c_eq lit_1 lit_1 c1419
                exact ⟨70000, sX11_tree_143  (M76 := (n : Int)) (hk76 := ih)  (hp := hp) 70000 _ _ _ _ _ _ _ _ _ _ _ _ _ _ _ tx1 tx2 tx4 lit_1 tx7 tr_4v852 lit_0 hIw_5v853 (by omega) (by omega) (by omega) (by omega) (by omega) (by omega) (by omega)⟩
        · replace c1403 := c_nlt tx5 lit_0 c1403
          refine ⟨fun c1424 => ?_, fun c1424 => ?_⟩
          · replace c1424 := c_le tr_4v852 tx5 c1424
            unfold pX11_tree_112
            refine ⟨fun c1425 => ?_, fun c1425 => ?_⟩
            · replace c1425 := c_lt tx5 lit_0 c1425
              unfold pX11_tree_124
              unfold pX11_tree_132
              refine ⟨fun c1426 => ?_, fun c1426 => ?_⟩
              · replace c1426 := c_neq lit_1 lit_1 c1426
                unfold pX11_tree_172
                unfold pX11_tree_176
                obtain ⟨z1427, t1428, f1429⟩ := t_add tx7 lit_1
                first | replace f1429 := f1429 (by omega) | clear f1429
                intro x7_1v858 ex7_1v858
                have tx7_1v858 : Ti x7_1v858 z1427 := by rw [ex7_1v858]; exact t1428
                have f1430 := t_rng tx4
                exact ih _ _ _ _ _ _ _ _ _ _ _ _ _ tx1 tx2 tx4 tr_4v852 lit_1 tx7_1v858 hIw_5v853 (by omega) (by omega) (by omega) (by omega)
              · replace c1426 := c_eq lit_1 lit_1 c1426
                exact ⟨70000, sX11_tree_143  (M76 := (n : Int)) (hk76 := ih)  (hp := hp) 70000 _ _ _ _ _ _ _ _ _ _ _ _ _ _ _ tx1 tx2 tx4 lit_1 tx7 tr_4v852 lit_0 hIw_5v853 (by omega) (by omega) (by omega) (by omega) (by omega) (by omega) (by omega)⟩
            · replace c1425 := c_nlt tx5 lit_0 c1425
              refine ⟨fun c1431 => ?_, fun c1431 => ?_⟩
              · replace c1431 := c_le tx5 tr_4v852 c1431
                unfold pX11_tree_132
                obtain ⟨z1432, t1433, f1434⟩ := t_add tx6 lit_1
                first | replace f1434 := f1434 (by omega) | clear f1434
                refine ⟨fun c1435 => ?_, fun c1435 => ?_⟩
                · replace c1435 := c_neq t1433 lit_1 c1435
                  unfold pX11_tree_172
                  unfold pX11_tree_176
                  obtain ⟨z1436, t1437, f1438⟩ := t_add tx7 lit_1
                  first | replace f1438 := f1438 (by omega) | clear f1438
                  intro x7_1v859 ex7_1v859
                  have tx7_1v859 : Ti x7_1v859 z1436 := by rw [ex7_1v859]; exact t1437
                  have f1439 := t_rng tx4
                  exact ih _ _ _ _ _ _ _ _ _ _ _ _ _ tx1 tx2 tx4 tr_4v852 t1433 tx7_1v859 hIw_5v853 (by omega) (by omega) (by omega) (by omega)
                · replace c1435 := c_eq t1433 lit_1 c1435
                  exact ⟨70000, sX11_tree_143  (M76 := (n : Int)) (hk76 := ih)  (hp := hp) 70000 _ _ _ _ _ _ _ _ _ _ _ _ _ _ _ tx1 tx2 tx4 t1433 tx7 tr_4v852 lit_0 hIw_5v853 (by omega) (by omega) (by omega) (by omega) (by omega) (by omega) (by omega)⟩
              · replace c1431 := c_nle tx5 tr_4v852 c1431
                unfold pX11_tree_124
                unfold pX11_tree_132
                refine ⟨fun c1440 => ?_, fun c1440 => ?_⟩
                · replace c1440 := c_neq lit_1 lit_1 c1440
                  unfold pX11_tree_172
                  unfold pX11_tree_176
                  obtain ⟨z1441, t1442, f1443⟩ := t_add tx7 lit_1
                  first | replace f1443 := f1443 (by omega) | clear f1443
                  intro x7_1v860 ex7_1v860
                  have tx7_1v860 : Ti x7_1v860 z1441 := by rw [ex7_1v860]; exact t1442
                  have f1444 := t_rng tx4
                  exact ih _ _ _ _ _ _ _ _ _ _ _ _ _ tx1 tx2 tx4 tr_4v852 lit_1 tx7_1v860 hIw_5v853 (by omega) (by omega) (by omega) (by omega)
                · replace c1440 := c_eq lit_1 lit_1 c1440
                  exact ⟨70000, sX11_tree_143  (M76 := (n : Int)) (hk76 := ih)  (hp := hp) 70000 _ _ _ _ _ _ _ _ _ _ _ _ _ _ _ tx1 tx2 tx4 lit_1 tx7 tr_4v852 lit_0 hIw_5v853 (by omega) (by omega) (by omega) (by omega) (by omega) (by omega) (by omega)⟩
          · replace c1424 := c_nle tr_4v852 tx5 c1424
            unfold pX11_tree_176
            obtain ⟨z1445, t1446, f1447⟩ := t_add tx7 lit_1
            first | replace f1447 := f1447 (by omega) | clear f1447
            intro x7_1v861 ex7_1v861
            have tx7_1v861 : Ti x7_1v861 z1445 := by rw [ex7_1v861]; exact t1446
            have f1448 := t_rng tx4
            exact ih _ _ _ _ _ _ _ _ _ _ _ _ _ tx1 tx2 tx4 tx5 tx6 tx7_1v861 hIw_5v853 (by omega) (by omega) (by omega) (by omega)
set_option maxHeartbeats 4000000 in
set_option maxRecDepth 100000 in
theorem sX11_tree_41 {T W H P S M : Int} {post : Int32 → Wd → Prop}   (hp : ∀ (r : Int32) (zr : Int) (w9 : Wd) (M9 : Int), Ti r zr → IM T W H P S M9 w9 → post r w9) : ∀ (n : Nat) (x1 : Int32) (x2 : Int32) (x4 : Int32) (x5 : Int32) (zx1 : Int) (zx2 : Int) (zx4 : Int) (zx5 : Int) (w : Wd), Ti x1 zx1 → Ti x2 zx2 → Ti x4 zx4 → Ti x5 zx5 → IM T W H P S M w → (0 ≤ zx5 ∧ zx5 ≤ 7) → (0 ≤ zx1 ∧ zx1 < M) → (8 - zx5) < (n : Int) → pX11_tree_41   post  n x1 x2 x4 x5 w := by
  intro n
  induction n with
  | zero =>
    intro x1 x2 x4 x5 zx1 zx2 zx4 zx5 w tx1 tx2 tx4 tx5 hI h0 h1 hm
    exact absurd hm (by omega)
  | succ n ih =>
    intro x1 x2 x4 x5 zx1 zx2 zx4 zx5 w tx1 tx2 tx4 tx5 hI h0 h1 hm
    unfold pX11_tree_41
    have hk := im_k hI
    obtain ⟨z1449, t1450⟩ := t_any (w.1 300 63)
    have f1451 := img_63 hI t1450
    refine ⟨fun c1452 => ?_, fun c1452 => ?_⟩
    · replace c1452 := c_le t1450 tx5 c1452
      have f1453 := t_rng tx4
      exact ⟨2147483649, sX11_tree_76    (hp := hp) 2147483649 _ _ _ _ _ _ _ _ _ _ _ _ _ tx1 tx2 tx4 lit_m1 lit_0 lit_0 hI (by omega) (by omega) (by omega) (by omega)⟩
    · replace c1452 := c_nle t1450 tx5 c1452
      obtain ⟨z1454, t1455, f1456⟩ := t_sub t1450 lit_1
      first | replace f1456 := f1456 (by omega) | clear f1456
      obtain ⟨z1457, t1458, f1459⟩ := t_mulv tx4 t1455
      first | replace f1459 := f1459 (by omega) | clear f1459
      intro x4_2v862 ex4_2v862
      have tx4_2v862 : Ti x4_2v862 z1457 := by rw [ex4_2v862]; exact t1458
      obtain ⟨z1460, t1461, f1462⟩ := t_add tx5 lit_1
      first | replace f1462 := f1462 (by omega) | clear f1462
      intro x5_3v863 ex5_3v863
      have tx5_3v863 : Ti x5_3v863 z1460 := by rw [ex5_3v863]; exact t1461
      exact ih _ _ _ _ _ _ _ _ _ tx1 tx2 tx4_2v862 tx5_3v863 hI (by omega) (by omega) (by omega)
set_option maxHeartbeats 4000000 in
set_option maxRecDepth 100000 in
theorem sX11_tree {T W H P S M : Int} {post : Int32 → Wd → Prop} {x1 : Int32} {zx1 : Int} {x2 : Int32} {zx2 : Int} {x3 : Int32} {zx3 : Int} {w : Wd}  (tx1 : Ti x1 zx1) (tx2 : Ti x2 zx2) (tx3 : Ti x3 zx3) (hI : IM T W H P S M w)  (hp : ∀ (r : Int32) (zr : Int) (w9 : Wd) (M9 : Int), Ti r zr → IM T W H P S M9 w9 → post r w9) : pX11_tree   post  x1 x2 x3 w := by
  unfold pX11_tree
  have hk := im_k hI
  intro w_1v864 ew_1v864
  have hIw_1v864 := ims_48 hI ew_1v864 lit_0 (by omega) (by omega)
  refine sX11_laySamples   (hI := hIw_1v864) (tx1 := tx3)  (hp := fun  w_2v865 g1463  hIw_2v865  => ?_)
  have f1464 := im_k hIw_2v865
  obtain ⟨z1465, t1466⟩ := t_any (w_2v865.1 300 63)
  have f1467 := img_63 hIw_2v865 t1466
  obtain ⟨z1468, t1469, f1470⟩ := t_sub t1466 lit_1
  first | replace f1470 := f1470 (by omega) | clear f1470
  refine sX11_isIn   (hI := hIw_2v865) (tx0 := tx1) (tx1 := lit_0) (tx2 := t1469)  (hp := fun r_3v866 zr_3v866 tr_3v866 p1471 p1472 => ?_)
  refine ⟨fun c1473 => ?_, fun c1473 => ?_⟩
  · replace c1473 := c_eq tr_3v866 lit_0 c1473
    exact hp _ _ _ _ lit_m1 hIw_2v865 
  · replace c1473 := c_neq tr_3v866 lit_0 c1473
    refine sX11_isIn   (hI := hIw_2v865) (tx0 := tx2) (tx1 := lit_0) (tx2 := lit_1)  (hp := fun r_6v870 zr_6v870 tr_6v870 p1474 p1475 => ?_)
    refine ⟨fun c1476 => ?_, fun c1476 => ?_⟩
    · replace c1476 := c_neq tr_6v870 lit_0 c1476
      exact ⟨70000, sX11_tree_41    (hp := hp) 70000 _ _ _ _ _ _ _ _ _ tx1 tx2 lit_1 lit_1 hIw_2v865 (by omega) (by omega) (by omega)⟩
    · replace c1476 := c_eq tr_6v870 lit_0 c1476
      exact hp _ _ _ _ lit_m1 hIw_2v865 
set_option maxHeartbeats 4000000 in
set_option maxRecDepth 100000 in
theorem sX11_centre_46 {T W H P S M : Int} {k31 : Int32 → Int32 → Int32 → Int32 → Wd → Prop} {M31 : Int} {post : Int32 → Wd → Prop}  (hk31 : ∀ (x1 : Int32) (x3 : Int32) (x4 : Int32) (x5 : Int32) (zx1 : Int) (zx3 : Int) (zx4 : Int) (zx5 : Int) (w : Wd), Ti x1 zx1 → Ti x3 zx3 → Ti x4 zx4 → Ti x5 zx5 → IM T W H P S M w → (0 ≤ zx5 ∧ zx5 ≤ 7) → (8 - zx5) < M31 → k31 x1 x3 x4 x5 w) (hp : ∀ (r : Int32) (zr : Int) (w9 : Wd) (M9 : Int), Ti r zr → IM T W H P S M9 w9 → post r w9) : ∀ (n : Nat) (x1 : Int32) (x3 : Int32) (x4 : Int32) (x5 : Int32) (x6 : Int32) (x7 : Int32) (zx1 : Int) (zx3 : Int) (zx4 : Int) (zx5 : Int) (zx6 : Int) (zx7 : Int) (w : Wd), Ti x1 zx1 → Ti x3 zx3 → Ti x4 zx4 → Ti x5 zx5 → Ti x6 zx6 → Ti x7 zx7 → IM T W H P S M w → (0 ≤ zx7 ∧ zx7 ≤ 7) → (zx5 ≤ 6) → (0 ≤ zx5 ∧ zx5 ≤ 7) → ((8 - zx5) ≤ M31) → (8 - zx7) < (n : Int) → pX11_centre_46 k31  post  n x1 x3 x4 x5 x6 x7 w := by
  intro n
  induction n with
  | zero =>
    intro x1 x3 x4 x5 x6 x7 zx1 zx3 zx4 zx5 zx6 zx7 w tx1 tx3 tx4 tx5 tx6 tx7 hI h0 h1 h2 h3 hm
    exact absurd hm (by omega)
  | succ n ih =>
    intro x1 x3 x4 x5 x6 x7 zx1 zx3 zx4 zx5 zx6 zx7 w tx1 tx3 tx4 tx5 tx6 tx7 hI h0 h1 h2 h3 hm
    unfold pX11_centre_46
    have hk := im_k hI
    obtain ⟨z1477, t1478⟩ := t_any (w.1 300 63)
    have f1479 := img_63 hI t1478
    refine ⟨fun c1480 => ?_, fun c1480 => ?_⟩
    · replace c1480 := c_le t1478 tx7 c1480
      refine ⟨fun c1481 => ?_, fun c1481 => ?_⟩
      · replace c1481 := c_lt tx3 lit_0 c1481
        unfold pX11_centre_100
        unfold pX11_centre_107
        obtain ⟨z1482, t1483, f1484⟩ := t_add tx5 lit_1
        first | replace f1484 := f1484 (by omega) | clear f1484
        intro x5_1v873 ex5_1v873
        have tx5_1v873 : Ti x5_1v873 z1482 := by rw [ex5_1v873]; exact t1483
        exact hk31 _ _ _ _ _ _ _ _ _ tx1 tx5 tx6 tx5_1v873 hI (by omega) (by omega)
      · replace c1481 := c_nlt tx3 lit_0 c1481
        refine ⟨fun c1485 => ?_, fun c1485 => ?_⟩
        · replace c1485 := c_lt tx6 tx4 c1485
          unfold pX11_centre_100
          unfold pX11_centre_107
          obtain ⟨z1486, t1487, f1488⟩ := t_add tx5 lit_1
          first | replace f1488 := f1488 (by omega) | clear f1488
          intro x5_1v874 ex5_1v874
          have tx5_1v874 : Ti x5_1v874 z1486 := by rw [ex5_1v874]; exact t1487
          exact hk31 _ _ _ _ _ _ _ _ _ tx1 tx5 tx6 tx5_1v874 hI (by omega) (by omega)
        · replace c1485 := c_nlt tx6 tx4 c1485
          unfold pX11_centre_107
          obtain ⟨z1489, t1490, f1491⟩ := t_add tx5 lit_1
          first | replace f1491 := f1491 (by omega) | clear f1491
          intro x5_1v875 ex5_1v875
          have tx5_1v875 : Ti x5_1v875 z1489 := by rw [ex5_1v875]; exact t1490
          exact hk31 _ _ _ _ _ _ _ _ _ tx1 tx3 tx4 tx5_1v875 hI (by omega) (by omega)
    · replace c1480 := c_nle t1478 tx7 c1480
      refine ⟨fun c1492 => ?_, fun c1492 => ?_⟩
      · replace c1492 := c_eq tx7 tx5 c1492
        unfold pX11_centre_80
        obtain ⟨z1493, t1494, f1495⟩ := t_add tx7 lit_1
        first | replace f1495 := f1495 (by omega) | clear f1495
        intro x7_1v876 ex7_1v876
        have tx7_1v876 : Ti x7_1v876 z1493 := by rw [ex7_1v876]; exact t1494
        exact ih _ _ _ _ _ _ _ _ _ _ _ _ _ tx1 tx3 tx4 tx5 tx6 tx7_1v876 hI (by omega) (by omega) (by omega) (by omega) (by omega)
      · replace c1492 := c_neq tx7 tx5 c1492
        obtain ⟨z1496, t1497, f1498⟩ := t_mul lit_7 tx5
        first | replace f1498 := f1498 (by omega) | clear f1498
        obtain ⟨z1499, t1500, f1501⟩ := t_add t1497 tx7
        first | replace f1501 := f1501 (by omega) | clear f1501
        refine ⟨vp_of t1500 (by omega) (by omega), ?_⟩
        obtain ⟨z1502, t1503⟩ := t_any (w.2.1 363 (((7 : Int32) * x5) + x7).toNatClampNeg)
        obtain ⟨z1505, t1506, f1507⟩ := t_add tx6 t1503
        first | replace f1507 := f1507 (by omega) | clear f1507
        intro x6_5v872 ex6_5v872
        have tx6_5v872 : Ti x6_5v872 z1505 := by rw [ex6_5v872]; exact t1506
        unfold pX11_centre_80
        obtain ⟨z1508, t1509, f1510⟩ := t_add tx7 lit_1
        first | replace f1510 := f1510 (by omega) | clear f1510
        intro x7_1v877 ex7_1v877
        have tx7_1v877 : Ti x7_1v877 z1508 := by rw [ex7_1v877]; exact t1509
        exact ih _ _ _ _ _ _ _ _ _ _ _ _ _ tx1 tx3 tx4 tx5 tx6_5v872 tx7_1v877 hI (by omega) (by omega) (by omega) (by omega) (by omega)
set_option maxHeartbeats 4000000 in
set_option maxRecDepth 100000 in
theorem sX11_centre_31 {T W H P S M : Int} {post : Int32 → Wd → Prop}   (hp : ∀ (r : Int32) (zr : Int) (w9 : Wd) (M9 : Int), Ti r zr → IM T W H P S M9 w9 → post r w9) : ∀ (n : Nat) (x1 : Int32) (x3 : Int32) (x4 : Int32) (x5 : Int32) (zx1 : Int) (zx3 : Int) (zx4 : Int) (zx5 : Int) (w : Wd), Ti x1 zx1 → Ti x3 zx3 → Ti x4 zx4 → Ti x5 zx5 → IM T W H P S M w → (0 ≤ zx5 ∧ zx5 ≤ 7) → (8 - zx5) < (n : Int) → pX11_centre_31   post  n x1 x3 x4 x5 w := by
  intro n
  induction n with
  | zero =>
    intro x1 x3 x4 x5 zx1 zx3 zx4 zx5 w tx1 tx3 tx4 tx5 hI h0 hm
    exact absurd hm (by omega)
  | succ n ih =>
    intro x1 x3 x4 x5 zx1 zx3 zx4 zx5 w tx1 tx3 tx4 tx5 hI h0 hm
    unfold pX11_centre_31
    have hk := im_k hI
    obtain ⟨z1511, t1512⟩ := t_any (w.1 300 63)
    have f1513 := img_63 hI t1512
    refine ⟨fun c1514 => ?_, fun c1514 => ?_⟩
    · replace c1514 := c_le t1512 tx5 c1514
      refine ⟨fun c1515 => ?_, fun c1515 => ?_⟩
      · replace c1515 := c_neq tx1 lit_0 c1515
        exact hp _ _ _ _ tx4 hI 
      · replace c1515 := c_eq tx1 lit_0 c1515
        exact hp _ _ _ _ tx3 hI 
    · replace c1514 := c_nle t1512 tx5 c1514
      exact ⟨70000, sX11_centre_46  (M31 := (n : Int)) (hk31 := ih)  (hp := hp) 70000 _ _ _ _ _ _ _ _ _ _ _ _ _ tx1 tx3 tx4 tx5 lit_0 lit_0 hI (by omega) (by omega) (by omega) (by omega) (by omega)⟩
set_option maxHeartbeats 4000000 in
set_option maxRecDepth 100000 in
theorem sX11_centre {T W H P S M : Int} {post : Int32 → Wd → Prop} {x1 : Int32} {zx1 : Int} {x2 : Int32} {zx2 : Int} {w : Wd}  (tx1 : Ti x1 zx1) (tx2 : Ti x2 zx2) (hI : IM T W H P S M w)  (hp : ∀ (r : Int32) (zr : Int) (w9 : Wd) (M9 : Int), Ti r zr → IM T W H P S M9 w9 → post r w9) : pX11_centre   post  x1 x2 w := by
  unfold pX11_centre
  have hk := im_k hI
  refine sX11_laySamples   (hI := hI) (tx1 := tx2)  (hp := fun  w_1v878 g1516  hIw_1v878  => ?_)
  have f1517 := im_k hIw_1v878
  obtain ⟨z1518, t1519⟩ := t_any (w_1v878.1 300 63)
  have f1520 := img_63 hIw_1v878 t1519
  refine ⟨fun c1521 => ?_, fun c1521 => ?_⟩
  · replace c1521 := c_eq t1519 lit_0 c1521
    exact hp _ _ _ _ lit_m1 hIw_1v878 
  · replace c1521 := c_neq t1519 lit_0 c1521
    refine sX11_isIn   (hI := hIw_1v878) (tx0 := tx1) (tx1 := lit_0) (tx2 := lit_1)  (hp := fun r_3v879 zr_3v879 tr_3v879 p1522 p1523 => ?_)
    refine ⟨fun c1524 => ?_, fun c1524 => ?_⟩
    · replace c1524 := c_neq tr_3v879 lit_0 c1524
      exact ⟨70000, sX11_centre_31    (hp := hp) 70000 _ _ _ _ _ _ _ _ _ tx1 lit_m1 lit_0 lit_0 hIw_1v878 (by omega) (by omega)⟩
    · replace c1524 := c_eq tr_3v879 lit_0 c1524
      exact hp _ _ _ _ lit_m1 hIw_1v878 
set_option maxHeartbeats 4000000 in
set_option maxRecDepth 100000 in
theorem sX11_layClans_140 {T W H P S M : Int} {k35 : Int32 → Int32 → Int32 → Wd → Prop} {M35 : Int} {M25 : Int} {post : Wd → Prop}  (hk35 : ∀ (x1 : Int32) (x2 : Int32) (x3 : Int32) (zx1 : Int) (zx2 : Int) (zx3 : Int) (w : Wd), Ti x1 zx1 → Ti x2 zx2 → Ti x3 zx3 → IM T W H P S M w → (0 ≤ zx3 ∧ zx3 ≤ 7) → (zx2 ≤ 6) → (0 ≤ zx2 ∧ zx2 ≤ 7) → ((8 - zx2) ≤ M25) → (8 - zx3) < M35 → k35 x1 x2 x3 w) (hp : ∀ (w9 : Wd), IM T W H P S M w9 → post w9) : ∀ (n : Nat) (x1 : Int32) (x2 : Int32) (x3 : Int32) (x4 : Int32) (x5 : Int32) (x6 : Int32) (zx1 : Int) (zx2 : Int) (zx3 : Int) (zx4 : Int) (zx5 : Int) (zx6 : Int) (w : Wd), Ti x1 zx1 → Ti x2 zx2 → Ti x3 zx3 → Ti x4 zx4 → Ti x5 zx5 → Ti x6 zx6 → IM T W H P S M w → (0 ≤ zx6 ∧ zx6 ≤ 7) → (zx3 < zx2) → (0 ≤ zx3) → (0 ≤ zx3 ∧ zx3 ≤ 7) → (zx2 ≤ 6) → (0 ≤ zx2 ∧ zx2 ≤ 7) → ((8 - zx2) ≤ M25) → ((8 - zx3) ≤ M35) → (8 - zx6) < (n : Int) → pX11_layClans_140 k35  post  n x1 x2 x3 x4 x5 x6 w := by
  intro n
  induction n with
  | zero =>
    intro x1 x2 x3 x4 x5 x6 zx1 zx2 zx3 zx4 zx5 zx6 w tx1 tx2 tx3 tx4 tx5 tx6 hI h0 h1 h2 h3 h4 h5 h6 h7 hm
    exact absurd hm (by omega)
  | succ n ih =>
    intro x1 x2 x3 x4 x5 x6 zx1 zx2 zx3 zx4 zx5 zx6 w tx1 tx2 tx3 tx4 tx5 tx6 hI h0 h1 h2 h3 h4 h5 h6 h7 hm
    unfold pX11_layClans_140
    have hk := im_k hI
    obtain ⟨z1525, t1526⟩ := t_any (w.1 300 63)
    have f1527 := img_63 hI t1526
    refine ⟨fun c1528 => ?_, fun c1528 => ?_⟩
    · replace c1528 := c_le t1526 tx6 c1528
      unfold pX11_layClans_176
      obtain ⟨z1529, t1530, f1531⟩ := t_add tx3 lit_1
      first | replace f1531 := f1531 (by omega) | clear f1531
      intro x3_1v882 ex3_1v882
      have tx3_1v882 : Ti x3_1v882 z1529 := by rw [ex3_1v882]; exact t1530
      exact hk35 _ _ _ _ _ _ _ tx1 tx2 tx3_1v882 hI (by omega) (by omega) (by omega) (by omega) (by omega)
    · replace c1528 := c_nle t1526 tx6 c1528
      refine ⟨vp_of tx6 (by omega) (by omega), ?_⟩
      obtain ⟨z1532, t1533⟩ := t_any (w.2.1 365 x6.toNatClampNeg)
      refine ⟨fun c1535 => ?_, fun c1535 => ?_⟩
      · replace c1535 := c_neq t1533 tx5 c1535
        unfold pX11_layClans_170
        obtain ⟨z1536, t1537, f1538⟩ := t_add tx6 lit_1
        first | replace f1538 := f1538 (by omega) | clear f1538
        intro x6_1v883 ex6_1v883
        have tx6_1v883 : Ti x6_1v883 z1536 := by rw [ex6_1v883]; exact t1537
        exact ih _ _ _ _ _ _ _ _ _ _ _ _ _ tx1 tx2 tx3 tx4 tx5 tx6_1v883 hI (by omega) (by omega) (by omega) (by omega) (by omega) (by omega) (by omega) (by omega) (by omega)
      · replace c1535 := c_eq t1533 tx5 c1535
        refine ⟨vp_of tx6 (by omega) (by omega), ?_⟩
        intro w_3v881 ew_3v881
        have hIw_3v881 := ims_A hI ew_3v881 (by decide)
        unfold pX11_layClans_170
        obtain ⟨z1539, t1540, f1541⟩ := t_add tx6 lit_1
        first | replace f1541 := f1541 (by omega) | clear f1541
        intro x6_1v884 ex6_1v884
        have tx6_1v884 : Ti x6_1v884 z1539 := by rw [ex6_1v884]; exact t1540
        exact ih _ _ _ _ _ _ _ _ _ _ _ _ _ tx1 tx2 tx3 tx4 tx5 tx6_1v884 hIw_3v881 (by omega) (by omega) (by omega) (by omega) (by omega) (by omega) (by omega) (by omega) (by omega)
set_option maxHeartbeats 4000000 in
set_option maxRecDepth 100000 in
theorem sX11_layClans_35 {T W H P S M : Int} {k25 : Int32 → Int32 → Wd → Prop} {M25 : Int} {post : Wd → Prop}  (hk25 : ∀ (x1 : Int32) (x2 : Int32) (zx1 : Int) (zx2 : Int) (w : Wd), Ti x1 zx1 → Ti x2 zx2 → IM T W H P S M w → (0 ≤ zx2 ∧ zx2 ≤ 7) → (8 - zx2) < M25 → k25 x1 x2 w) (hp : ∀ (w9 : Wd), IM T W H P S M w9 → post w9) : ∀ (n : Nat) (x1 : Int32) (x2 : Int32) (x3 : Int32) (zx1 : Int) (zx2 : Int) (zx3 : Int) (w : Wd), Ti x1 zx1 → Ti x2 zx2 → Ti x3 zx3 → IM T W H P S M w → (0 ≤ zx3 ∧ zx3 ≤ 7) → (zx2 ≤ 6) → (0 ≤ zx2 ∧ zx2 ≤ 7) → ((8 - zx2) ≤ M25) → (8 - zx3) < (n : Int) → pX11_layClans_35 k25  post  n x1 x2 x3 w := by
  intro n
  induction n with
  | zero =>
    intro x1 x2 x3 zx1 zx2 zx3 w tx1 tx2 tx3 hI h0 h1 h2 h3 hm
    exact absurd hm (by omega)
  | succ n ih =>
    intro x1 x2 x3 zx1 zx2 zx3 w tx1 tx2 tx3 hI h0 h1 h2 h3 hm
    unfold pX11_layClans_35
    have hk := im_k hI
    refine ⟨fun c1542 => ?_, fun c1542 => ?_⟩
    · replace c1542 := c_le tx2 tx3 c1542
      obtain ⟨z1543, t1544, f1545⟩ := t_add tx2 lit_1
      first | replace f1545 := f1545 (by omega) | clear f1545
      intro x2_2v885 ex2_2v885
      have tx2_2v885 : Ti x2_2v885 z1543 := by rw [ex2_2v885]; exact t1544
      exact hk25 _ _ _ _ _ tx1 tx2_2v885 hI (by omega) (by omega)
    · replace c1542 := c_nle tx2 tx3 c1542
      obtain ⟨z1546, t1547, f1548⟩ := t_mul lit_7 tx2
      first | replace f1548 := f1548 (by omega) | clear f1548
      obtain ⟨z1549, t1550, f1551⟩ := t_add t1547 tx3
      first | replace f1551 := f1551 (by omega) | clear f1551
      refine ⟨vp_of t1550 (by omega) (by omega), ?_⟩
      obtain ⟨z1552, t1553⟩ := t_any (w.2.1 363 (((7 : Int32) * x2) + x3).toNatClampNeg)
      refine ⟨fun c1555 => ?_, fun c1555 => ?_⟩
      · replace c1555 := c_le t1553 tx1 c1555
        unfold pX11_layClans_73
        refine ⟨vp_of tx2 (by omega) (by omega), ?_⟩
        refine ⟨vp_of tx3 (by omega) (by omega), ?_⟩
        obtain ⟨z1556, t1557⟩ := t_any (w.2.1 365 x3.toNatClampNeg)
        obtain ⟨z1559, t1560⟩ := t_any (w.2.1 365 x2.toNatClampNeg)
        refine ⟨fun c1562 => ?_, fun c1562 => ?_⟩
        · replace c1562 := c_le t1557 t1560 c1562
          refine ⟨vp_of tx3 (by omega) (by omega), ?_⟩
          unfold pX11_layClans_103
          refine ⟨vp_of tx2 (by omega) (by omega), ?_⟩
          refine ⟨vp_of tx3 (by omega) (by omega), ?_⟩
          refine ⟨fun c1563 => ?_, fun c1563 => ?_⟩
          · replace c1563 := c_le t1557 t1560 c1563
            refine ⟨vp_of tx2 (by omega) (by omega), ?_⟩
            unfold pX11_layClans_135
            exact ⟨70000, sX11_layClans_140  (M35 := (n : Int)) (hk35 := ih)  (hp := hp) 70000 _ _ _ _ _ _ _ _ _ _ _ _ _ tx1 tx2 tx3 t1557 t1560 lit_0 hI (by omega) (by omega) (by omega) (by omega) (by omega) (by omega) (by omega) (by omega) (by omega)⟩
          · replace c1563 := c_nle t1557 t1560 c1563
            refine ⟨vp_of tx3 (by omega) (by omega), ?_⟩
            unfold pX11_layClans_135
            exact ⟨70000, sX11_layClans_140  (M35 := (n : Int)) (hk35 := ih)  (hp := hp) 70000 _ _ _ _ _ _ _ _ _ _ _ _ _ tx1 tx2 tx3 t1557 t1557 lit_0 hI (by omega) (by omega) (by omega) (by omega) (by omega) (by omega) (by omega) (by omega) (by omega)⟩
        · replace c1562 := c_nle t1557 t1560 c1562
          refine ⟨vp_of tx2 (by omega) (by omega), ?_⟩
          unfold pX11_layClans_103
          refine ⟨vp_of tx2 (by omega) (by omega), ?_⟩
          refine ⟨vp_of tx3 (by omega) (by omega), ?_⟩
          refine ⟨fun c1564 => ?_, fun c1564 => ?_⟩
          · replace c1564 := c_le t1557 t1560 c1564
            refine ⟨vp_of tx2 (by omega) (by omega), ?_⟩
            unfold pX11_layClans_135
            exact ⟨70000, sX11_layClans_140  (M35 := (n : Int)) (hk35 := ih)  (hp := hp) 70000 _ _ _ _ _ _ _ _ _ _ _ _ _ tx1 tx2 tx3 t1560 t1560 lit_0 hI (by omega) (by omega) (by omega) (by omega) (by omega) (by omega) (by omega) (by omega) (by omega)⟩
          · replace c1564 := c_nle t1557 t1560 c1564
            refine ⟨vp_of tx3 (by omega) (by omega), ?_⟩
            unfold pX11_layClans_135
            exact ⟨70000, sX11_layClans_140  (M35 := (n : Int)) (hk35 := ih)  (hp := hp) 70000 _ _ _ _ _ _ _ _ _ _ _ _ _ tx1 tx2 tx3 t1560 t1557 lit_0 hI (by omega) (by omega) (by omega) (by omega) (by omega) (by omega) (by omega) (by omega) (by omega)⟩
      · replace c1555 := c_nle t1553 tx1 c1555
        obtain ⟨z1565, t1566, f1567⟩ := t_mul lit_7 tx3
        first | replace f1567 := f1567 (by omega) | clear f1567
        obtain ⟨z1568, t1569, f1570⟩ := t_add t1566 tx2
        first | replace f1570 := f1570 (by omega) | clear f1570
        refine ⟨vp_of t1569 (by omega) (by omega), ?_⟩
        obtain ⟨z1571, t1572⟩ := t_any (w.2.1 363 (((7 : Int32) * x3) + x2).toNatClampNeg)
        refine ⟨fun c1574 => ?_, fun c1574 => ?_⟩
        · replace c1574 := c_le t1572 tx1 c1574
          unfold pX11_layClans_73
          refine ⟨vp_of tx2 (by omega) (by omega), ?_⟩
          refine ⟨vp_of tx3 (by omega) (by omega), ?_⟩
          obtain ⟨z1575, t1576⟩ := t_any (w.2.1 365 x3.toNatClampNeg)
          obtain ⟨z1578, t1579⟩ := t_any (w.2.1 365 x2.toNatClampNeg)
          refine ⟨fun c1581 => ?_, fun c1581 => ?_⟩
          · replace c1581 := c_le t1576 t1579 c1581
            refine ⟨vp_of tx3 (by omega) (by omega), ?_⟩
            unfold pX11_layClans_103
            refine ⟨vp_of tx2 (by omega) (by omega), ?_⟩
            refine ⟨vp_of tx3 (by omega) (by omega), ?_⟩
            refine ⟨fun c1582 => ?_, fun c1582 => ?_⟩
            · replace c1582 := c_le t1576 t1579 c1582
              refine ⟨vp_of tx2 (by omega) (by omega), ?_⟩
              unfold pX11_layClans_135
              exact ⟨70000, sX11_layClans_140  (M35 := (n : Int)) (hk35 := ih)  (hp := hp) 70000 _ _ _ _ _ _ _ _ _ _ _ _ _ tx1 tx2 tx3 t1576 t1579 lit_0 hI (by omega) (by omega) (by omega) (by omega) (by omega) (by omega) (by omega) (by omega) (by omega)⟩
            · replace c1582 := c_nle t1576 t1579 c1582
              refine ⟨vp_of tx3 (by omega) (by omega), ?_⟩
              unfold pX11_layClans_135
              exact ⟨70000, sX11_layClans_140  (M35 := (n : Int)) (hk35 := ih)  (hp := hp) 70000 _ _ _ _ _ _ _ _ _ _ _ _ _ tx1 tx2 tx3 t1576 t1576 lit_0 hI (by omega) (by omega) (by omega) (by omega) (by omega) (by omega) (by omega) (by omega) (by omega)⟩
          · replace c1581 := c_nle t1576 t1579 c1581
            refine ⟨vp_of tx2 (by omega) (by omega), ?_⟩
            unfold pX11_layClans_103
            refine ⟨vp_of tx2 (by omega) (by omega), ?_⟩
            refine ⟨vp_of tx3 (by omega) (by omega), ?_⟩
            refine ⟨fun c1583 => ?_, fun c1583 => ?_⟩
            · replace c1583 := c_le t1576 t1579 c1583
              refine ⟨vp_of tx2 (by omega) (by omega), ?_⟩
              unfold pX11_layClans_135
              exact ⟨70000, sX11_layClans_140  (M35 := (n : Int)) (hk35 := ih)  (hp := hp) 70000 _ _ _ _ _ _ _ _ _ _ _ _ _ tx1 tx2 tx3 t1579 t1579 lit_0 hI (by omega) (by omega) (by omega) (by omega) (by omega) (by omega) (by omega) (by omega) (by omega)⟩
            · replace c1583 := c_nle t1576 t1579 c1583
              refine ⟨vp_of tx3 (by omega) (by omega), ?_⟩
              unfold pX11_layClans_135
              exact ⟨70000, sX11_layClans_140  (M35 := (n : Int)) (hk35 := ih)  (hp := hp) 70000 _ _ _ _ _ _ _ _ _ _ _ _ _ tx1 tx2 tx3 t1579 t1576 lit_0 hI (by omega) (by omega) (by omega) (by omega) (by omega) (by omega) (by omega) (by omega) (by omega)⟩
        · replace c1574 := c_nle t1572 tx1 c1574
          unfold pX11_layClans_176
          obtain ⟨z1584, t1585, f1586⟩ := t_add tx3 lit_1
          first | replace f1586 := f1586 (by omega) | clear f1586
          intro x3_1v886 ex3_1v886
          have tx3_1v886 : Ti x3_1v886 z1584 := by rw [ex3_1v886]; exact t1585
          exact ih _ _ _ _ _ _ _ tx1 tx2 tx3_1v886 hI (by omega) (by omega) (by omega) (by omega) (by omega)
set_option maxHeartbeats 4000000 in
set_option maxRecDepth 100000 in
theorem sX11_layClans_25 {T W H P S M : Int} {post : Wd → Prop}   (hp : ∀ (w9 : Wd), IM T W H P S M w9 → post w9) : ∀ (n : Nat) (x1 : Int32) (x2 : Int32) (zx1 : Int) (zx2 : Int) (w : Wd), Ti x1 zx1 → Ti x2 zx2 → IM T W H P S M w → (0 ≤ zx2 ∧ zx2 ≤ 7) → (8 - zx2) < (n : Int) → pX11_layClans_25   post  n x1 x2 w := by
  intro n
  induction n with
  | zero =>
    intro x1 x2 zx1 zx2 w tx1 tx2 hI h0 hm
    exact absurd hm (by omega)
  | succ n ih =>
    intro x1 x2 zx1 zx2 w tx1 tx2 hI h0 hm
    unfold pX11_layClans_25
    have hk := im_k hI
    obtain ⟨z1587, t1588⟩ := t_any (w.1 300 63)
    have f1589 := img_63 hI t1588
    refine ⟨fun c1590 => ?_, fun c1590 => ?_⟩
    · replace c1590 := c_le t1588 tx2 c1590
      exact hp  _   hI 
    · replace c1590 := c_nle t1588 tx2 c1590
      exact ⟨70000, sX11_layClans_35  (M25 := (n : Int)) (hk25 := ih)  (hp := hp) 70000 _ _ _ _ _ _ _ tx1 tx2 lit_0 hI (by omega) (by omega) (by omega) (by omega) (by omega)⟩
set_option maxHeartbeats 4000000 in
set_option maxRecDepth 100000 in
theorem sX11_layClans_2 {T W H P S M : Int} {post : Wd → Prop}   (hp : ∀ (w9 : Wd), IM T W H P S M w9 → post w9) : ∀ (n : Nat) (x1 : Int32) (x2 : Int32) (zx1 : Int) (zx2 : Int) (w : Wd), Ti x1 zx1 → Ti x2 zx2 → IM T W H P S M w → (0 ≤ zx2 ∧ zx2 ≤ 7) → (8 - zx2) < (n : Int) → pX11_layClans_2   post  n x1 x2 w := by
  intro n
  induction n with
  | zero =>
    intro x1 x2 zx1 zx2 w tx1 tx2 hI h0 hm
    exact absurd hm (by omega)
  | succ n ih =>
    intro x1 x2 zx1 zx2 w tx1 tx2 hI h0 hm
    unfold pX11_layClans_2
    have hk := im_k hI
    obtain ⟨z1591, t1592⟩ := t_any (w.1 300 63)
    have f1593 := img_63 hI t1592
    refine ⟨fun c1594 => ?_, fun c1594 => ?_⟩
    · replace c1594 := c_le t1592 tx2 c1594
      exact ⟨70000, sX11_layClans_25    (hp := hp) 70000 _ _ _ _ _ tx1 lit_0 hI (by omega) (by omega)⟩
    · replace c1594 := c_nle t1592 tx2 c1594
      refine ⟨vp_of tx2 (by omega) (by omega), ?_⟩
      intro w_2v887 ew_2v887
      have hIw_2v887 := ims_A hI ew_2v887 (by decide)
      obtain ⟨z1595, t1596, f1597⟩ := t_add tx2 lit_1
      first | replace f1597 := f1597 (by omega) | clear f1597
      intro x2_3v888 ex2_3v888
      have tx2_3v888 : Ti x2_3v888 z1595 := by rw [ex2_3v888]; exact t1596
      exact ih _ _ _ _ _ tx1 tx2_3v888 hIw_2v887 (by omega) (by omega)
set_option maxHeartbeats 4000000 in
set_option maxRecDepth 100000 in
theorem sX11_layClans {T W H P S M : Int} {post : Wd → Prop} {x1 : Int32} {zx1 : Int} {w : Wd}  (tx1 : Ti x1 zx1) (hI : IM T W H P S M w)  (hp : ∀ (w9 : Wd), IM T W H P S M w9 → post w9) : pX11_layClans   post  x1 w := by
  unfold pX11_layClans
  have hk := im_k hI
  exact ⟨70000, sX11_layClans_2    (hp := hp) 70000 _ _ _ _ _ tx1 lit_0 hI (by omega) (by omega)⟩
set_option maxHeartbeats 4000000 in
set_option maxRecDepth 100000 in
theorem sX11_clans_55 {T W H P S M : Int} {k40 : Int32 → Int32 → Int32 → Int32 → Wd → Prop} {M40 : Int} {post : Int32 → Wd → Prop}  (hk40 : ∀ (x2 : Int32) (x4 : Int32) (x5 : Int32) (x6 : Int32) (zx2 : Int) (zx4 : Int) (zx5 : Int) (zx6 : Int) (w : Wd), Ti x2 zx2 → Ti x4 zx4 → Ti x5 zx5 → Ti x6 zx6 → IM T W H P S M w → (0 ≤ zx6 ∧ zx6 ≤ 7) → (8 - zx6) < M40 → k40 x2 x4 x5 x6 w) (hp : ∀ (r : Int32) (zr : Int) (w9 : Wd) (M9 : Int), Ti r zr → IM T W H P S M9 w9 → post r w9) : ∀ (n : Nat) (x2 : Int32) (x4 : Int32) (x5 : Int32) (x6 : Int32) (x7 : Int32) (x8 : Int32) (zx2 : Int) (zx4 : Int) (zx5 : Int) (zx6 : Int) (zx7 : Int) (zx8 : Int) (w : Wd), Ti x2 zx2 → Ti x4 zx4 → Ti x5 zx5 → Ti x6 zx6 → Ti x7 zx7 → Ti x8 zx8 → IM T W H P S M w → (0 ≤ zx8 ∧ zx8 ≤ 7) → (zx6 ≤ 6) → (0 ≤ zx6 ∧ zx6 ≤ 7) → ((8 - zx6) ≤ M40) → (8 - zx8) < (n : Int) → pX11_clans_55 k40  post  n x2 x4 x5 x6 x7 x8 w := by
  intro n
  induction n with
  | zero =>
    intro x2 x4 x5 x6 x7 x8 zx2 zx4 zx5 zx6 zx7 zx8 w tx2 tx4 tx5 tx6 tx7 tx8 hI h0 h1 h2 h3 hm
    exact absurd hm (by omega)
  | succ n ih =>
    intro x2 x4 x5 x6 x7 x8 zx2 zx4 zx5 zx6 zx7 zx8 w tx2 tx4 tx5 tx6 tx7 tx8 hI h0 h1 h2 h3 hm
    unfold pX11_clans_55
    have hk := im_k hI
    obtain ⟨z1598, t1599⟩ := t_any (w.1 300 63)
    have f1600 := img_63 hI t1599
    refine ⟨fun c1601 => ?_, fun c1601 => ?_⟩
    · replace c1601 := c_le t1599 tx8 c1601
      refine ⟨fun c1602 => ?_, fun c1602 => ?_⟩
      · replace c1602 := c_le tx7 lit_0 c1602
        unfold pX11_clans_104
        obtain ⟨z1603, t1604, f1605⟩ := t_add tx4 lit_0
        first | replace f1605 := f1605 (by omega) | clear f1605
        intro x4_1v889 ex4_1v889
        have tx4_1v889 : Ti x4_1v889 z1603 := by rw [ex4_1v889]; exact t1604
        refine ⟨fun c1606 => ?_, fun c1606 => ?_⟩
        · replace c1606 := c_le tx7 tx5 c1606
          unfold pX11_clans_118
          obtain ⟨z1607, t1608, f1609⟩ := t_add tx6 lit_1
          first | replace f1609 := f1609 (by omega) | clear f1609
          intro x6_1v890 ex6_1v890
          have tx6_1v890 : Ti x6_1v890 z1607 := by rw [ex6_1v890]; exact t1608
          exact hk40 _ _ _ _ _ _ _ _ _ tx2 tx4_1v889 tx5 tx6_1v890 hI (by omega) (by omega)
        · replace c1606 := c_nle tx7 tx5 c1606
          unfold pX11_clans_118
          obtain ⟨z1610, t1611, f1612⟩ := t_add tx6 lit_1
          first | replace f1612 := f1612 (by omega) | clear f1612
          intro x6_1v891 ex6_1v891
          have tx6_1v891 : Ti x6_1v891 z1610 := by rw [ex6_1v891]; exact t1611
          exact hk40 _ _ _ _ _ _ _ _ _ tx2 tx4_1v889 tx7 tx6_1v891 hI (by omega) (by omega)
      · replace c1602 := c_nle tx7 lit_0 c1602
        unfold pX11_clans_104
        obtain ⟨z1613, t1614, f1615⟩ := t_add tx4 lit_1
        first | replace f1615 := f1615 (by omega) | clear f1615
        intro x4_1v892 ex4_1v892
        have tx4_1v892 : Ti x4_1v892 z1613 := by rw [ex4_1v892]; exact t1614
        refine ⟨fun c1616 => ?_, fun c1616 => ?_⟩
        · replace c1616 := c_le tx7 tx5 c1616
          unfold pX11_clans_118
          obtain ⟨z1617, t1618, f1619⟩ := t_add tx6 lit_1
          first | replace f1619 := f1619 (by omega) | clear f1619
          intro x6_1v893 ex6_1v893
          have tx6_1v893 : Ti x6_1v893 z1617 := by rw [ex6_1v893]; exact t1618
          exact hk40 _ _ _ _ _ _ _ _ _ tx2 tx4_1v892 tx5 tx6_1v893 hI (by omega) (by omega)
        · replace c1616 := c_nle tx7 tx5 c1616
          unfold pX11_clans_118
          obtain ⟨z1620, t1621, f1622⟩ := t_add tx6 lit_1
          first | replace f1622 := f1622 (by omega) | clear f1622
          intro x6_1v894 ex6_1v894
          have tx6_1v894 : Ti x6_1v894 z1620 := by rw [ex6_1v894]; exact t1621
          exact hk40 _ _ _ _ _ _ _ _ _ tx2 tx4_1v892 tx7 tx6_1v894 hI (by omega) (by omega)
    · replace c1601 := c_nle t1599 tx8 c1601
      refine ⟨vp_of tx8 (by omega) (by omega), ?_⟩
      obtain ⟨z1623, t1624⟩ := t_any (w.2.1 365 x8.toNatClampNeg)
      refine ⟨fun c1626 => ?_, fun c1626 => ?_⟩
      · replace c1626 := c_neq t1624 tx6 c1626
        unfold pX11_clans_83
        obtain ⟨z1627, t1628, f1629⟩ := t_add tx7 lit_0
        first | replace f1629 := f1629 (by omega) | clear f1629
        intro x7_1v895 ex7_1v895
        have tx7_1v895 : Ti x7_1v895 z1627 := by rw [ex7_1v895]; exact t1628
        obtain ⟨z1630, t1631, f1632⟩ := t_add tx8 lit_1
        first | replace f1632 := f1632 (by omega) | clear f1632
        intro x8_2v896 ex8_2v896
        have tx8_2v896 : Ti x8_2v896 z1630 := by rw [ex8_2v896]; exact t1631
        exact ih _ _ _ _ _ _ _ _ _ _ _ _ _ tx2 tx4 tx5 tx6 tx7_1v895 tx8_2v896 hI (by omega) (by omega) (by omega) (by omega) (by omega)
      · replace c1626 := c_eq t1624 tx6 c1626
        unfold pX11_clans_83
        obtain ⟨z1633, t1634, f1635⟩ := t_add tx7 lit_1
        first | replace f1635 := f1635 (by omega) | clear f1635
        intro x7_1v897 ex7_1v897
        have tx7_1v897 : Ti x7_1v897 z1633 := by rw [ex7_1v897]; exact t1634
        obtain ⟨z1636, t1637, f1638⟩ := t_add tx8 lit_1
        first | replace f1638 := f1638 (by omega) | clear f1638
        intro x8_2v898 ex8_2v898
        have tx8_2v898 : Ti x8_2v898 z1636 := by rw [ex8_2v898]; exact t1637
        exact ih _ _ _ _ _ _ _ _ _ _ _ _ _ tx2 tx4 tx5 tx6 tx7_1v897 tx8_2v898 hI (by omega) (by omega) (by omega) (by omega) (by omega)
set_option maxHeartbeats 4000000 in
set_option maxRecDepth 100000 in
theorem sX11_clans_40 {T W H P S M : Int} {post : Int32 → Wd → Prop}   (hp : ∀ (r : Int32) (zr : Int) (w9 : Wd) (M9 : Int), Ti r zr → IM T W H P S M9 w9 → post r w9) : ∀ (n : Nat) (x2 : Int32) (x4 : Int32) (x5 : Int32) (x6 : Int32) (zx2 : Int) (zx4 : Int) (zx5 : Int) (zx6 : Int) (w : Wd), Ti x2 zx2 → Ti x4 zx4 → Ti x5 zx5 → Ti x6 zx6 → IM T W H P S M w → (0 ≤ zx6 ∧ zx6 ≤ 7) → (8 - zx6) < (n : Int) → pX11_clans_40   post  n x2 x4 x5 x6 w := by
  intro n
  induction n with
  | zero =>
    intro x2 x4 x5 x6 zx2 zx4 zx5 zx6 w tx2 tx4 tx5 tx6 hI h0 hm
    exact absurd hm (by omega)
  | succ n ih =>
    intro x2 x4 x5 x6 zx2 zx4 zx5 zx6 w tx2 tx4 tx5 tx6 hI h0 hm
    unfold pX11_clans_40
    have hk := im_k hI
    obtain ⟨z1639, t1640⟩ := t_any (w.1 300 63)
    have f1641 := img_63 hI t1640
    refine ⟨fun c1642 => ?_, fun c1642 => ?_⟩
    · replace c1642 := c_le t1640 tx6 c1642
      refine ⟨fun c1643 => ?_, fun c1643 => ?_⟩
      · replace c1643 := c_neq tx2 lit_0 c1643
        exact hp _ _ _ _ tx5 hI 
      · replace c1643 := c_eq tx2 lit_0 c1643
        exact hp _ _ _ _ tx4 hI 
    · replace c1642 := c_nle t1640 tx6 c1642
      exact ⟨70000, sX11_clans_55  (M40 := (n : Int)) (hk40 := ih)  (hp := hp) 70000 _ _ _ _ _ _ _ _ _ _ _ _ _ tx2 tx4 tx5 tx6 lit_0 lit_0 hI (by omega) (by omega) (by omega) (by omega) (by omega)⟩
set_option maxHeartbeats 4000000 in
set_option maxRecDepth 100000 in
theorem sX11_clans {T W H P S M : Int} {post : Int32 → Wd → Prop} {x1 : Int32} {zx1 : Int} {x2 : Int32} {zx2 : Int} {x3 : Int32} {zx3 : Int} {w : Wd}  (tx1 : Ti x1 zx1) (tx2 : Ti x2 zx2) (tx3 : Ti x3 zx3) (hI : IM T W H P S M w)  (hp : ∀ (r : Int32) (zr : Int) (w9 : Wd) (M9 : Int), Ti r zr → IM T W H P S M9 w9 → post r w9) : pX11_clans   post  x1 x2 x3 w := by
  unfold pX11_clans
  have hk := im_k hI
  refine sX11_isIn   (hI := hI) (tx0 := tx1) (tx1 := lit_0) (tx2 := lit_24)  (hp := fun r_1v899 zr_1v899 tr_1v899 p1644 p1645 => ?_)
  refine ⟨fun c1646 => ?_, fun c1646 => ?_⟩
  · replace c1646 := c_eq tr_1v899 lit_0 c1646
    exact hp _ _ _ _ lit_m1 hI 
  · replace c1646 := c_neq tr_1v899 lit_0 c1646
    refine sX11_isIn   (hI := hI) (tx0 := tx2) (tx1 := lit_0) (tx2 := lit_1)  (hp := fun r_4v905 zr_4v905 tr_4v905 p1647 p1648 => ?_)
    refine ⟨fun c1649 => ?_, fun c1649 => ?_⟩
    · replace c1649 := c_neq tr_4v905 lit_0 c1649
      refine sX11_laySamples   (hI := hI) (tx1 := tx3)  (hp := fun  w_7v909 g1650  hIw_7v909  => ?_)
      have f1651 := im_k hIw_7v909
      refine sX11_layClans   (hI := hIw_7v909) (tx1 := tx1)  (hp := fun  w_8v910   hIw_8v910  => ?_)
      exact ⟨70000, sX11_clans_40    (hp := hp) 70000 _ _ _ _ _ _ _ _ _ tx2 lit_0 lit_0 lit_0 hIw_8v910 (by omega) (by omega)⟩
    · replace c1649 := c_eq tr_4v905 lit_0 c1649
      exact hp _ _ _ _ lit_m1 hI 
set_option maxHeartbeats 4000000 in
set_option maxRecDepth 100000 in
theorem sX11_origin_37 {T W H P S M : Int} {k19 : Int32 → Int32 → Int32 → Int32 → Int32 → Wd → Prop} {M19 : Int} {post : Int32 → Wd → Prop} {w : Wd} (hk19 : ∀ (x1 : Int32) (x2 : Int32) (x3 : Int32) (x4 : Int32) (x5 : Int32) (zx1 : Int) (zx2 : Int) (zx3 : Int) (zx4 : Int) (zx5 : Int), Ti x1 zx1 → Ti x2 zx2 → Ti x3 zx3 → Ti x4 zx4 → Ti x5 zx5 → IM T W H P S M w → (0 ≤ zx5 ∧ zx5 ≤ 12) → (13 - zx5) < M19 → k19 x1 x2 x3 x4 x5 w) (hp : ∀ (r : Int32) (zr : Int), Ti r zr → post r w) : ∀ (n : Nat) (x1 : Int32) (x2 : Int32) (x3 : Int32) (x4 : Int32) (x5 : Int32) (x6 : Int32) (x7 : Int32) (x8 : Int32) (zx1 : Int) (zx2 : Int) (zx3 : Int) (zx4 : Int) (zx5 : Int) (zx6 : Int) (zx7 : Int) (zx8 : Int), Ti x1 zx1 → Ti x2 zx2 → Ti x3 zx3 → Ti x4 zx4 → Ti x5 zx5 → Ti x6 zx6 → Ti x7 zx7 → Ti x8 zx8 → IM T W H P S M w → (0 ≤ zx8 ∧ zx8 ≤ 40) → (zx5 < W) → (0 ≤ zx5 ∧ zx5 ≤ 12) → ((13 - zx5) ≤ M19) → (41 - zx8) < (n : Int) → pX11_origin_37 k19  post  n x1 x2 x3 x4 x5 x6 x7 x8 w := by
  intro n
  induction n with
  | zero =>
    intro x1 x2 x3 x4 x5 x6 x7 x8 zx1 zx2 zx3 zx4 zx5 zx6 zx7 zx8  tx1 tx2 tx3 tx4 tx5 tx6 tx7 tx8 hI h0 h1 h2 h3 hm
    exact absurd hm (by omega)
  | succ n ih =>
    intro x1 x2 x3 x4 x5 x6 x7 x8 zx1 zx2 zx3 zx4 zx5 zx6 zx7 zx8  tx1 tx2 tx3 tx4 tx5 tx6 tx7 tx8 hI h0 h1 h2 h3 hm
    unfold pX11_origin_37
    have hk := im_k hI
    obtain ⟨z1652, t1653⟩ := t_any (w.1 300 58)
    have f1654 := img_58 hI t1653
    refine ⟨fun c1655 => ?_, fun c1655 => ?_⟩
    · replace c1655 := c_le t1653 tx8 c1655
      obtain ⟨z1656, t1657, f1658⟩ := t_mul lit_2 tx6
      first | replace f1658 := f1658 (by omega) | clear f1658
      refine ⟨fun c1659 => ?_, fun c1659 => ?_⟩
      · replace c1659 := c_le t1657 tx7 c1659
        unfold pX11_origin_136
        refine ⟨fun c1660 => ?_, fun c1660 => ?_⟩
        · replace c1660 := c_le t1657 tx7 c1660
          unfold pX11_origin_156
          obtain ⟨z1661, t1662, f1663⟩ := t_add tx4 t1657
          first | replace f1663 := f1663 (by omega) | clear f1663
          intro x4_1v916 ex4_1v916
          have tx4_1v916 : Ti x4_1v916 z1661 := by rw [ex4_1v916]; exact t1662
          obtain ⟨z1664, t1665, f1666⟩ := t_add tx5 lit_1
          first | replace f1666 := f1666 (by omega) | clear f1666
          intro x5_2v917 ex5_2v917
          have tx5_2v917 : Ti x5_2v917 z1664 := by rw [ex5_2v917]; exact t1665
          exact hk19 _ _ _ _ _ _ _ _ _ _  tx1 tx2 tx3 tx4_1v916 tx5_2v917 hI (by omega) (by omega)
        · replace c1660 := c_nle t1657 tx7 c1660
          unfold pX11_origin_156
          obtain ⟨z1667, t1668, f1669⟩ := t_add tx4 tx7
          first | replace f1669 := f1669 (by omega) | clear f1669
          intro x4_1v918 ex4_1v918
          have tx4_1v918 : Ti x4_1v918 z1667 := by rw [ex4_1v918]; exact t1668
          obtain ⟨z1670, t1671, f1672⟩ := t_add tx5 lit_1
          first | replace f1672 := f1672 (by omega) | clear f1672
          intro x5_2v919 ex5_2v919
          have tx5_2v919 : Ti x5_2v919 z1670 := by rw [ex5_2v919]; exact t1671
          exact hk19 _ _ _ _ _ _ _ _ _ _  tx1 tx2 tx3 tx4_1v918 tx5_2v919 hI (by omega) (by omega)
      · replace c1659 := c_nle t1657 tx7 c1659
        obtain ⟨z1673, t1674, f1675⟩ := t_shlW hI tx5
        first | replace f1675 := f1675 (by omega) | clear f1675
        obtain ⟨z1676, t1677, f1678⟩ := t_orW hI tx3 t1674
        first | replace f1678 := f1678 (by omega) | clear f1678
        intro x3_3v911 ex3_3v911
        have tx3_3v911 : Ti x3_3v911 z1676 := by rw [ex3_3v911]; exact t1677
        unfold pX11_origin_136
        refine ⟨fun c1679 => ?_, fun c1679 => ?_⟩
        · replace c1679 := c_le t1657 tx7 c1679
          unfold pX11_origin_156
          obtain ⟨z1680, t1681, f1682⟩ := t_add tx4 t1657
          first | replace f1682 := f1682 (by omega) | clear f1682
          intro x4_1v920 ex4_1v920
          have tx4_1v920 : Ti x4_1v920 z1680 := by rw [ex4_1v920]; exact t1681
          obtain ⟨z1683, t1684, f1685⟩ := t_add tx5 lit_1
          first | replace f1685 := f1685 (by omega) | clear f1685
          intro x5_2v921 ex5_2v921
          have tx5_2v921 : Ti x5_2v921 z1683 := by rw [ex5_2v921]; exact t1684
          exact hk19 _ _ _ _ _ _ _ _ _ _  tx1 tx2 tx3_3v911 tx4_1v920 tx5_2v921 hI (by omega) (by omega)
        · replace c1679 := c_nle t1657 tx7 c1679
          unfold pX11_origin_156
          obtain ⟨z1686, t1687, f1688⟩ := t_add tx4 tx7
          first | replace f1688 := f1688 (by omega) | clear f1688
          intro x4_1v922 ex4_1v922
          have tx4_1v922 : Ti x4_1v922 z1686 := by rw [ex4_1v922]; exact t1687
          obtain ⟨z1689, t1690, f1691⟩ := t_add tx5 lit_1
          first | replace f1691 := f1691 (by omega) | clear f1691
          intro x5_2v923 ex5_2v923
          have tx5_2v923 : Ti x5_2v923 z1689 := by rw [ex5_2v923]; exact t1690
          exact hk19 _ _ _ _ _ _ _ _ _ _  tx1 tx2 tx3_3v911 tx4_1v922 tx5_2v923 hI (by omega) (by omega)
    · replace c1655 := c_nle t1653 tx8 c1655
      refine sX11_counts   (hI := hI) (tx1 := tx8) (tx2 := lit_0) (tx3 := tx2) (h0 := (by omega)) (hp := fun r_4v912 zr_4v912 tr_4v912 p1692 => ?_)
      refine ⟨fun c1693 => ?_, fun c1693 => ?_⟩
      · replace c1693 := c_neq tr_4v912 lit_0 c1693
        refine ⟨vp_of tx8 (by omega) (by omega), ?_⟩
        obtain ⟨z1694, t1695⟩ := t_any (w.2.1 355 x8.toNatClampNeg)
        refine ⟨fun c1697 => ?_, fun c1697 => ?_⟩
        · replace c1697 := c_neq t1695 lit_1 c1697
          refine ⟨vp_of tx8 (by omega) (by omega), ?_⟩
          unfold pX11_origin_92
          obtain ⟨z1698, t1699, f1700⟩ := t_and (x := ((w.2.1 354 x8.toNatClampNeg) >>> (x5 &&& 31))) lit_1 (by decide)
          refine ⟨fun c1701 => ?_, fun c1701 => ?_⟩
          · replace c1701 := c_neq t1699 lit_1 c1701
            obtain ⟨z1702, t1703, f1704⟩ := t_add tx7 lit_1
            first | replace f1704 := f1704 (by omega) | clear f1704
            intro x7_2v926 ex7_2v926
            have tx7_2v926 : Ti x7_2v926 z1702 := by rw [ex7_2v926]; exact t1703
            unfold pX11_origin_114
            obtain ⟨z1705, t1706, f1707⟩ := t_add tx8 lit_1
            first | replace f1707 := f1707 (by omega) | clear f1707
            intro x8_1v928 ex8_1v928
            have tx8_1v928 : Ti x8_1v928 z1705 := by rw [ex8_1v928]; exact t1706
            exact ih _ _ _ _ _ _ _ _ _ _ _ _ _ _ _ _  tx1 tx2 tx3 tx4 tx5 tx6 tx7_2v926 tx8_1v928 hI (by omega) (by omega) (by omega) (by omega) (by omega)
          · replace c1701 := c_eq t1699 lit_1 c1701
            obtain ⟨z1708, t1709, f1710⟩ := t_add tx6 lit_1
            first | replace f1710 := f1710 (by omega) | clear f1710
            intro x6_3v927 ex6_3v927
            have tx6_3v927 : Ti x6_3v927 z1708 := by rw [ex6_3v927]; exact t1709
            unfold pX11_origin_114
            obtain ⟨z1711, t1712, f1713⟩ := t_add tx8 lit_1
            first | replace f1713 := f1713 (by omega) | clear f1713
            intro x8_1v929 ex8_1v929
            have tx8_1v929 : Ti x8_1v929 z1711 := by rw [ex8_1v929]; exact t1712
            exact ih _ _ _ _ _ _ _ _ _ _ _ _ _ _ _ _  tx1 tx2 tx3 tx4 tx5 tx6_3v927 tx7 tx8_1v929 hI (by omega) (by omega) (by omega) (by omega) (by omega)
        · replace c1697 := c_eq t1695 lit_1 c1697
          refine ⟨vp_of tx8 (by omega) (by omega), ?_⟩
          obtain ⟨z1714, t1715⟩ := t_any (w.2.1 354 x8.toNatClampNeg)
          refine sX11_turnedRow   (hI := hI) (tx1 := t1715)  (hp := fun r_8v924 zr_8v924 tr_8v924 => ?_)
          unfold pX11_origin_92
          obtain ⟨z1717, t1718, f1719⟩ := t_and (x := (r_8v924 >>> (x5 &&& 31))) lit_1 (by decide)
          refine ⟨fun c1720 => ?_, fun c1720 => ?_⟩
          · replace c1720 := c_neq t1718 lit_1 c1720
            obtain ⟨z1721, t1722, f1723⟩ := t_add tx7 lit_1
            first | replace f1723 := f1723 (by omega) | clear f1723
            intro x7_2v930 ex7_2v930
            have tx7_2v930 : Ti x7_2v930 z1721 := by rw [ex7_2v930]; exact t1722
            unfold pX11_origin_114
            obtain ⟨z1724, t1725, f1726⟩ := t_add tx8 lit_1
            first | replace f1726 := f1726 (by omega) | clear f1726
            intro x8_1v932 ex8_1v932
            have tx8_1v932 : Ti x8_1v932 z1724 := by rw [ex8_1v932]; exact t1725
            exact ih _ _ _ _ _ _ _ _ _ _ _ _ _ _ _ _  tx1 tx2 tx3 tx4 tx5 tx6 tx7_2v930 tx8_1v932 hI (by omega) (by omega) (by omega) (by omega) (by omega)
          · replace c1720 := c_eq t1718 lit_1 c1720
            obtain ⟨z1727, t1728, f1729⟩ := t_add tx6 lit_1
            first | replace f1729 := f1729 (by omega) | clear f1729
            intro x6_3v931 ex6_3v931
            have tx6_3v931 : Ti x6_3v931 z1727 := by rw [ex6_3v931]; exact t1728
            unfold pX11_origin_114
            obtain ⟨z1730, t1731, f1732⟩ := t_add tx8 lit_1
            first | replace f1732 := f1732 (by omega) | clear f1732
            intro x8_1v933 ex8_1v933
            have tx8_1v933 : Ti x8_1v933 z1730 := by rw [ex8_1v933]; exact t1731
            exact ih _ _ _ _ _ _ _ _ _ _ _ _ _ _ _ _  tx1 tx2 tx3 tx4 tx5 tx6_3v931 tx7 tx8_1v933 hI (by omega) (by omega) (by omega) (by omega) (by omega)
      · replace c1693 := c_eq tr_4v912 lit_0 c1693
        unfold pX11_origin_114
        obtain ⟨z1733, t1734, f1735⟩ := t_add tx8 lit_1
        first | replace f1735 := f1735 (by omega) | clear f1735
        intro x8_1v934 ex8_1v934
        have tx8_1v934 : Ti x8_1v934 z1733 := by rw [ex8_1v934]; exact t1734
        exact ih _ _ _ _ _ _ _ _ _ _ _ _ _ _ _ _  tx1 tx2 tx3 tx4 tx5 tx6 tx7 tx8_1v934 hI (by omega) (by omega) (by omega) (by omega) (by omega)
set_option maxHeartbeats 4000000 in
set_option maxRecDepth 100000 in
theorem sX11_origin_19 {T W H P S M : Int} {post : Int32 → Wd → Prop} {w : Wd}  (hp : ∀ (r : Int32) (zr : Int), Ti r zr → post r w) : ∀ (n : Nat) (x1 : Int32) (x2 : Int32) (x3 : Int32) (x4 : Int32) (x5 : Int32) (zx1 : Int) (zx2 : Int) (zx3 : Int) (zx4 : Int) (zx5 : Int), Ti x1 zx1 → Ti x2 zx2 → Ti x3 zx3 → Ti x4 zx4 → Ti x5 zx5 → IM T W H P S M w → (0 ≤ zx5 ∧ zx5 ≤ 12) → (13 - zx5) < (n : Int) → pX11_origin_19   post  n x1 x2 x3 x4 x5 w := by
  intro n
  induction n with
  | zero =>
    intro x1 x2 x3 x4 x5 zx1 zx2 zx3 zx4 zx5  tx1 tx2 tx3 tx4 tx5 hI h0 hm
    exact absurd hm (by omega)
  | succ n ih =>
    intro x1 x2 x3 x4 x5 zx1 zx2 zx3 zx4 zx5  tx1 tx2 tx3 tx4 tx5 hI h0 hm
    unfold pX11_origin_19
    have hk := im_k hI
    refine sX11_width   (hI := hI)   (hp := fun r_1v935 zr_1v935 tr_1v935 p1736 => ?_)
    refine ⟨fun c1737 => ?_, fun c1737 => ?_⟩
    · replace c1737 := c_le tr_1v935 tx5 c1737
      refine ⟨fun c1738 => ?_, fun c1738 => ?_⟩
      · replace c1738 := c_neq tx1 lit_0 c1738
        exact hp _ _ tx4 
      · replace c1738 := c_eq tx1 lit_0 c1738
        exact hp _ _ tx3 
    · replace c1737 := c_nle tr_1v935 tx5 c1737
      exact ⟨70000, sX11_origin_37  (M19 := (n : Int)) (hk19 := ih)  (hp := hp) 70000 _ _ _ _ _ _ _ _ _ _ _ _ _ _ _ _  tx1 tx2 tx3 tx4 tx5 lit_0 lit_0 lit_0 hI (by omega) (by omega) (by omega) (by omega) (by omega)⟩
set_option maxHeartbeats 4000000 in
set_option maxRecDepth 100000 in
theorem sX11_origin {T W H P S M : Int} {post : Int32 → Wd → Prop} {x1 : Int32} {zx1 : Int} {x2 : Int32} {zx2 : Int} {w : Wd}  (tx1 : Ti x1 zx1) (tx2 : Ti x2 zx2) (hI : IM T W H P S M w)  (hp : ∀ (r : Int32) (zr : Int), Ti r zr → post r w) : pX11_origin   post  x1 x2 w := by
  unfold pX11_origin
  have hk := im_k hI
  refine sX11_isIn   (hI := hI) (tx0 := tx1) (tx1 := lit_0) (tx2 := lit_1)  (hp := fun r_1v937 zr_1v937 tr_1v937 p1739 p1740 => ?_)
  refine ⟨fun c1741 => ?_, fun c1741 => ?_⟩
  · replace c1741 := c_neq tr_1v937 lit_0 c1741
    exact ⟨70000, sX11_origin_19    (hp := hp) 70000 _ _ _ _ _ _ _ _ _ _  tx1 tx2 lit_0 lit_0 lit_0 hI (by omega) (by omega)⟩
  · replace c1741 := c_eq tr_1v937 lit_0 c1741
    exact hp _ _ lit_m1 
set_option maxHeartbeats 4000000 in
set_option maxRecDepth 100000 in
theorem sX11_isFalse {T W H P S M : Int} {post : Int32 → Wd → Prop} {x1 : Int32} {zx1 : Int} {w : Wd}  (tx1 : Ti x1 zx1) (hI : IM T W H P S M w) (h0 : 0 ≤ zx1 ∧ zx1 ≤ 39) (hp : ∀ (r : Int32) (zr : Int), Ti r zr → post r w) : pX11_isFalse   post  x1 w := by
  unfold pX11_isFalse
  have hk := im_k hI
  refine ⟨vp_of tx1 (by omega) (by omega), ?_⟩
  obtain ⟨z1742, t1743⟩ := t_any (w.2.1 355 x1.toNatClampNeg)
  refine sX11_isSeal   (hI := hI) (tx1 := t1743)  (hp := fun r_1v939 zr_1v939 tr_1v939 p1745 => ?_)
  refine ⟨fun c1746 => ?_, fun c1746 => ?_⟩
  · replace c1746 := c_neq tr_1v939 lit_0 c1746
    refine ⟨vp_of tx1 (by omega) (by omega), ?_⟩
    refine ⟨vp_of tx1 (by omega) (by omega), ?_⟩
    refine sX11_rowOf   (hI := hI) (tx1 := t1743) (h0 := (by omega)) (hp := fun r_4v945 zr_4v945 tr_4v945 p1747 => ?_)
    refine sX11_turnedRow   (hI := hI) (tx1 := tr_4v945)  (hp := fun r_6v949 zr_6v949 tr_6v949 => ?_)
    obtain ⟨z1748, t1749⟩ := t_any ((w.2.1 354 x1.toNatClampNeg) &&& (r_6v949 ^^^ (-1 : Int32)))
    refine ⟨fun c1750 => ?_, fun c1750 => ?_⟩
    · replace c1750 := c_neq t1749 lit_0 c1750
      exact hp _ _ lit_1 
    · replace c1750 := c_eq t1749 lit_0 c1750
      refine ⟨vp_of tx1 (by omega) (by omega), ?_⟩
      refine ⟨vp_of tx1 (by omega) (by omega), ?_⟩
      obtain ⟨z1751, t1752, f1753⟩ := t_mul lit_4 t1743
      first | replace f1753 := f1753 (by omega) | clear f1753
      obtain ⟨z1754, t1755, f1756⟩ := t_add t1752 lit_3
      first | replace f1756 := f1756 (by omega) | clear f1756
      refine ⟨vp_of t1755 (by omega) (by omega), ?_⟩
      obtain ⟨z1757, t1758⟩ := t_any (w.2.1 341 (((4 : Int32) * (w.2.1 355 x1.toNatClampNeg)) + (3 : Int32)).toNatClampNeg)
      obtain ⟨z1760, t1761⟩ := t_any (w.2.1 356 x1.toNatClampNeg)
      refine ⟨fun c1763 => ?_, fun c1763 => ?_⟩
      · replace c1763 := c_le t1758 t1761 c1763
        exact hp _ _ lit_0 
      · replace c1763 := c_nle t1758 t1761 c1763
        exact hp _ _ lit_1 
  · replace c1746 := c_eq tr_1v939 lit_0 c1746
    exact hp _ _ lit_1 
set_option maxHeartbeats 4000000 in
set_option maxRecDepth 100000 in
theorem sX11_falses_9 {T W H P S M : Int} {post : Int32 → Wd → Prop}   (hp : ∀ (r : Int32) (zr : Int) (w9 : Wd), Ti r zr → IM T W H P S M w9 → post r w9) : ∀ (n : Nat) (x1 : Int32) (x2 : Int32) (x3 : Int32) (zx1 : Int) (zx2 : Int) (zx3 : Int) (w : Wd), Ti x1 zx1 → Ti x2 zx2 → Ti x3 zx3 → IM T W H P S M w → (0 ≤ zx3 ∧ zx3 ≤ 40) → (Rg (w.1 300 48) 0 8) → (41 - zx3) < (n : Int) → pX11_falses_9   post  n x1 x2 x3 w := by
  intro n
  induction n with
  | zero =>
    intro x1 x2 x3 zx1 zx2 zx3 w tx1 tx2 tx3 hI h0 h1 hm
    exact absurd hm (by omega)
  | succ n ih =>
    intro x1 x2 x3 zx1 zx2 zx3 w tx1 tx2 tx3 hI h0 h1 hm
    unfold pX11_falses_9
    have hk := im_k hI
    obtain ⟨z1764, t1765⟩ := t_any (w.1 300 48)
    have f1766 := img_48 hI t1765
    have f1767 := Rg.g h1 t1765
    obtain ⟨z1768, t1769⟩ := t_any (w.1 300 58)
    have f1770 := img_58 hI t1769
    refine ⟨fun c1771 => ?_, fun c1771 => ?_⟩
    · replace c1771 := c_le t1769 tx3 c1771
      exact hp _ _ _  tx2 hI 
    · replace c1771 := c_nle t1769 tx3 c1771
      refine sX11_counts   (hI := hI) (tx1 := tx3) (tx2 := lit_1) (tx3 := tx1) (h0 := (by omega)) (hp := fun r_2v951 zr_2v951 tr_2v951 p1772 => ?_)
      refine ⟨fun c1773 => ?_, fun c1773 => ?_⟩
      · replace c1773 := c_eq tr_2v951 lit_0 c1773
        unfold pX11_falses_73
        obtain ⟨z1774, t1775, f1776⟩ := t_add tx3 lit_1
        first | replace f1776 := f1776 (by omega) | clear f1776
        intro x3_1v963 ex3_1v963
        have tx3_1v963 : Ti x3_1v963 z1774 := by rw [ex3_1v963]; exact t1775
        exact ih _ _ _ _ _ _ _ tx1 tx2 tx3_1v963 hI (by omega) (Rg.m t1765 (by omega) (by omega)) (by omega)
      · replace c1773 := c_neq tr_2v951 lit_0 c1773
        refine sX11_isFalse   (hI := hI) (tx1 := tx3) (h0 := (by omega)) (hp := fun r_5v958 zr_5v958 tr_5v958 => ?_)
        refine ⟨fun c1777 => ?_, fun c1777 => ?_⟩
        · replace c1777 := c_neq tr_5v958 lit_0 c1777
          obtain ⟨z1778, t1779, f1780⟩ := t_add tx2 lit_1
          first | replace f1780 := f1780 (by omega) | clear f1780
          intro x2_8v964 ex2_8v964
          have tx2_8v964 : Ti x2_8v964 z1778 := by rw [ex2_8v964]; exact t1779
          refine ⟨fun c1781 => ?_, fun c1781 => ?_⟩
          · replace c1781 := c_neq t1765 lit_8 c1781
            refine ⟨vp_of t1765 (by omega) (by omega), ?_⟩
            intro w_10v965 ew_10v965
            have hIw_10v965 := ims_A hI ew_10v965 (by decide)
            intro w_11v966 ew_11v966
            have t1782 : Ti (w_10v965.1 300 48) z1764 := by rw [e1_A ew_10v965]; exact t1765
            obtain ⟨z1783, t1784, f1785⟩ := t_add t1782 lit_1
            first | replace f1785 := f1785 (by omega) | clear f1785
            have hIw_11v966 := ims_48 hIw_10v965 ew_11v966 t1784 (by omega) (by omega)
            unfold pX11_falses_73
            obtain ⟨z1786, t1787, f1788⟩ := t_add tx3 lit_1
            first | replace f1788 := f1788 (by omega) | clear f1788
            intro x3_1v967 ex3_1v967
            have tx3_1v967 : Ti x3_1v967 z1786 := by rw [ex3_1v967]; exact t1787
            have t1789 : Ti (w_11v966.1 300 48) z1783 := by rw [ew_11v966, sI_at]; exact t1784
            exact ih _ _ _ _ _ _ _ tx1 tx2_8v964 tx3_1v967 hIw_11v966 (by omega) (Rg.m t1789 (by omega) (by omega)) (by omega)
          · replace c1781 := c_eq t1765 lit_8 c1781
            unfold pX11_falses_73
            obtain ⟨z1790, t1791, f1792⟩ := t_add tx3 lit_1
            first | replace f1792 := f1792 (by omega) | clear f1792
            intro x3_1v968 ex3_1v968
            have tx3_1v968 : Ti x3_1v968 z1790 := by rw [ex3_1v968]; exact t1791
            exact ih _ _ _ _ _ _ _ tx1 tx2_8v964 tx3_1v968 hI (by omega) (Rg.m t1765 (by omega) (by omega)) (by omega)
        · replace c1777 := c_eq tr_5v958 lit_0 c1777
          unfold pX11_falses_73
          obtain ⟨z1793, t1794, f1795⟩ := t_add tx3 lit_1
          first | replace f1795 := f1795 (by omega) | clear f1795
          intro x3_1v969 ex3_1v969
          have tx3_1v969 : Ti x3_1v969 z1793 := by rw [ex3_1v969]; exact t1794
          exact ih _ _ _ _ _ _ _ tx1 tx2 tx3_1v969 hI (by omega) (Rg.m t1765 (by omega) (by omega)) (by omega)
set_option maxHeartbeats 4000000 in
set_option maxRecDepth 100000 in
theorem sX11_falses {T W H P S M : Int} {post : Int32 → Wd → Prop} {x1 : Int32} {zx1 : Int} {w : Wd}  (tx1 : Ti x1 zx1) (hI : IM T W H P S M w)  (hp : ∀ (r : Int32) (zr : Int) (w9 : Wd), Ti r zr → IM T W H P S M w9 → post r w9) : pX11_falses   post  x1 w := by
  unfold pX11_falses
  have hk := im_k hI
  intro w_1v970 ew_1v970
  have hIw_1v970 := ims_48 hI ew_1v970 lit_0 (by omega) (by omega)
  have t1796 : Ti (w_1v970.1 300 48) 0 := by rw [ew_1v970, sI_at]; exact lit_0
  exact ⟨70000, sX11_falses_9    (hp := hp) 70000 _ _ _ _ _ _ _ tx1 lit_0 lit_0 hIw_1v970 (by omega) (Rg.m t1796 (by omega) (by omega)) (by omega)⟩
set_option maxHeartbeats 4000000 in
set_option maxRecDepth 100000 in
theorem sX11_span_36 {T W H P S M : Int} {post : Int32 → Wd → Prop} {w : Wd}  (hp : ∀ (r : Int32) (zr : Int), Ti r zr → post r w) : ∀ (n : Nat) (x1 : Int32) (x2 : Int32) (x3 : Int32) (x4 : Int32) (x5 : Int32) (x6 : Int32) (zx1 : Int) (zx2 : Int) (zx3 : Int) (zx4 : Int) (zx5 : Int) (zx6 : Int), Ti x1 zx1 → Ti x2 zx2 → Ti x3 zx3 → Ti x4 zx4 → Ti x5 zx5 → Ti x6 zx6 → IM T W H P S M w → (0 ≤ zx6 ∧ zx6 ≤ 40) → (41 - zx6) < (n : Int) → pX11_span_36   post  n x1 x2 x3 x4 x5 x6 w := by
  intro n
  induction n with
  | zero =>
    intro x1 x2 x3 x4 x5 x6 zx1 zx2 zx3 zx4 zx5 zx6  tx1 tx2 tx3 tx4 tx5 tx6 hI h0 hm
    exact absurd hm (by omega)
  | succ n ih =>
    intro x1 x2 x3 x4 x5 x6 zx1 zx2 zx3 zx4 zx5 zx6  tx1 tx2 tx3 tx4 tx5 tx6 hI h0 hm
    unfold pX11_span_36
    have hk := im_k hI
    obtain ⟨z1797, t1798⟩ := t_any (w.1 300 58)
    have f1799 := img_58 hI t1798
    refine ⟨fun c1800 => ?_, fun c1800 => ?_⟩
    · replace c1800 := c_le t1798 tx6 c1800
      refine ⟨fun c1801 => ?_, fun c1801 => ?_⟩
      · replace c1801 := c_neq tx2 lit_2 c1801
        refine ⟨fun c1802 => ?_, fun c1802 => ?_⟩
        · replace c1802 := c_le tx4 tx5 c1802
          refine ⟨fun c1803 => ?_, fun c1803 => ?_⟩
          · replace c1803 := c_neq tx2 lit_0 c1803
            exact hp _ _ tx5 
          · replace c1803 := c_eq tx2 lit_0 c1803
            exact hp _ _ tx4 
        · replace c1802 := c_nle tx4 tx5 c1802
          exact hp _ _ lit_m1 
      · replace c1801 := c_eq tx2 lit_2 c1801
        refine ⟨fun c1804 => ?_, fun c1804 => ?_⟩
        · replace c1804 := c_le tx4 tx5 c1804
          obtain ⟨z1805, t1806, f1807⟩ := t_sub tx5 tx4
          first | replace f1807 := f1807 (by omega) | clear f1807
          obtain ⟨z1808, t1809, f1810⟩ := t_add t1806 lit_1
          first | replace f1810 := f1810 (by omega) | clear f1810
          exact hp _ _ t1809 
        · replace c1804 := c_nle tx4 tx5 c1804
          exact hp _ _ lit_0 
    · replace c1800 := c_nle t1798 tx6 c1800
      refine sX11_counts   (hI := hI) (tx1 := tx6) (tx2 := lit_2) (tx3 := tx3) (h0 := (by omega)) (hp := fun r_6v971 zr_6v971 tr_6v971 p1811 => ?_)
      refine ⟨fun c1812 => ?_, fun c1812 => ?_⟩
      · replace c1812 := c_eq tr_6v971 lit_0 c1812
        unfold pX11_span_137
        obtain ⟨z1813, t1814, f1815⟩ := t_add tx6 lit_1
        first | replace f1815 := f1815 (by omega) | clear f1815
        intro x6_1v975 ex6_1v975
        have tx6_1v975 : Ti x6_1v975 z1813 := by rw [ex6_1v975]; exact t1814
        exact ih _ _ _ _ _ _ _ _ _ _ _ _  tx1 tx2 tx3 tx4 tx5 tx6_1v975 hI (by omega) (by omega)
      · replace c1812 := c_neq tr_6v971 lit_0 c1812
        refine ⟨vp_of tx6 (by omega) (by omega), ?_⟩
        obtain ⟨z1816, t1817⟩ := t_any (w.2.1 354 x6.toNatClampNeg)
        refine ⟨fun c1819 => ?_, fun c1819 => ?_⟩
        · replace c1819 := c_eq t1817 tx1 c1819
          refine ⟨vp_of tx6 (by omega) (by omega), ?_⟩
          obtain ⟨z1820, t1821⟩ := t_any (w.2.1 356 x6.toNatClampNeg)
          refine ⟨fun c1823 => ?_, fun c1823 => ?_⟩
          · replace c1823 := c_neq t1821 lit_1 c1823
            unfold pX11_span_106
            refine ⟨vp_of tx6 (by omega) (by omega), ?_⟩
            refine ⟨fun c1824 => ?_, fun c1824 => ?_⟩
            · replace c1824 := c_neq t1821 lit_0 c1824
              unfold pX11_span_137
              obtain ⟨z1825, t1826, f1827⟩ := t_add tx6 lit_1
              first | replace f1827 := f1827 (by omega) | clear f1827
              intro x6_1v977 ex6_1v977
              have tx6_1v977 : Ti x6_1v977 z1825 := by rw [ex6_1v977]; exact t1826
              exact ih _ _ _ _ _ _ _ _ _ _ _ _  tx1 tx2 tx3 tx4 tx5 tx6_1v977 hI (by omega) (by omega)
            · replace c1824 := c_eq t1821 lit_0 c1824
              refine ⟨vp_of tx6 (by omega) (by omega), ?_⟩
              obtain ⟨z1828, t1829⟩ := t_any (w.2.1 355 x6.toNatClampNeg)
              refine ⟨fun c1831 => ?_, fun c1831 => ?_⟩
              · replace c1831 := c_le tx5 t1829 c1831
                unfold pX11_span_137
                obtain ⟨z1832, t1833, f1834⟩ := t_add tx6 lit_1
                first | replace f1834 := f1834 (by omega) | clear f1834
                intro x6_1v978 ex6_1v978
                have tx6_1v978 : Ti x6_1v978 z1832 := by rw [ex6_1v978]; exact t1833
                exact ih _ _ _ _ _ _ _ _ _ _ _ _  tx1 tx2 tx3 tx4 tx5 tx6_1v978 hI (by omega) (by omega)
              · replace c1831 := c_nle tx5 t1829 c1831
                refine ⟨vp_of tx6 (by omega) (by omega), ?_⟩
                intro x5_3v976 ex5_3v976
                have tx5_3v976 : Ti x5_3v976 z1828 := by rw [ex5_3v976]; exact t1829
                unfold pX11_span_137
                obtain ⟨z1835, t1836, f1837⟩ := t_add tx6 lit_1
                first | replace f1837 := f1837 (by omega) | clear f1837
                intro x6_1v979 ex6_1v979
                have tx6_1v979 : Ti x6_1v979 z1835 := by rw [ex6_1v979]; exact t1836
                exact ih _ _ _ _ _ _ _ _ _ _ _ _  tx1 tx2 tx3 tx4 tx5_3v976 tx6_1v979 hI (by omega) (by omega)
          · replace c1823 := c_eq t1821 lit_1 c1823
            refine ⟨vp_of tx6 (by omega) (by omega), ?_⟩
            obtain ⟨z1838, t1839⟩ := t_any (w.2.1 355 x6.toNatClampNeg)
            obtain ⟨z1841, t1842, f1843⟩ := t_add t1839 lit_1
            first | replace f1843 := f1843 (by omega) | clear f1843
            refine ⟨fun c1844 => ?_, fun c1844 => ?_⟩
            · replace c1844 := c_le t1842 tx4 c1844
              unfold pX11_span_106
              refine ⟨vp_of tx6 (by omega) (by omega), ?_⟩
              refine ⟨fun c1845 => ?_, fun c1845 => ?_⟩
              · replace c1845 := c_neq t1821 lit_0 c1845
                unfold pX11_span_137
                obtain ⟨z1846, t1847, f1848⟩ := t_add tx6 lit_1
                first | replace f1848 := f1848 (by omega) | clear f1848
                intro x6_1v981 ex6_1v981
                have tx6_1v981 : Ti x6_1v981 z1846 := by rw [ex6_1v981]; exact t1847
                exact ih _ _ _ _ _ _ _ _ _ _ _ _  tx1 tx2 tx3 tx4 tx5 tx6_1v981 hI (by omega) (by omega)
              · replace c1845 := c_eq t1821 lit_0 c1845
                refine ⟨vp_of tx6 (by omega) (by omega), ?_⟩
                refine ⟨fun c1849 => ?_, fun c1849 => ?_⟩
                · replace c1849 := c_le tx5 t1839 c1849
                  unfold pX11_span_137
                  obtain ⟨z1850, t1851, f1852⟩ := t_add tx6 lit_1
                  first | replace f1852 := f1852 (by omega) | clear f1852
                  intro x6_1v982 ex6_1v982
                  have tx6_1v982 : Ti x6_1v982 z1850 := by rw [ex6_1v982]; exact t1851
                  exact ih _ _ _ _ _ _ _ _ _ _ _ _  tx1 tx2 tx3 tx4 tx5 tx6_1v982 hI (by omega) (by omega)
                · replace c1849 := c_nle tx5 t1839 c1849
                  refine ⟨vp_of tx6 (by omega) (by omega), ?_⟩
                  intro x5_3v980 ex5_3v980
                  have tx5_3v980 : Ti x5_3v980 z1838 := by rw [ex5_3v980]; exact t1839
                  unfold pX11_span_137
                  obtain ⟨z1853, t1854, f1855⟩ := t_add tx6 lit_1
                  first | replace f1855 := f1855 (by omega) | clear f1855
                  intro x6_1v983 ex6_1v983
                  have tx6_1v983 : Ti x6_1v983 z1853 := by rw [ex6_1v983]; exact t1854
                  exact ih _ _ _ _ _ _ _ _ _ _ _ _  tx1 tx2 tx3 tx4 tx5_3v980 tx6_1v983 hI (by omega) (by omega)
            · replace c1844 := c_nle t1842 tx4 c1844
              refine ⟨vp_of tx6 (by omega) (by omega), ?_⟩
              intro x4_12v974 ex4_12v974
              have tx4_12v974 : Ti x4_12v974 z1841 := by rw [ex4_12v974]; exact t1842
              unfold pX11_span_106
              refine ⟨vp_of tx6 (by omega) (by omega), ?_⟩
              refine ⟨fun c1856 => ?_, fun c1856 => ?_⟩
              · replace c1856 := c_neq t1821 lit_0 c1856
                unfold pX11_span_137
                obtain ⟨z1857, t1858, f1859⟩ := t_add tx6 lit_1
                first | replace f1859 := f1859 (by omega) | clear f1859
                intro x6_1v985 ex6_1v985
                have tx6_1v985 : Ti x6_1v985 z1857 := by rw [ex6_1v985]; exact t1858
                exact ih _ _ _ _ _ _ _ _ _ _ _ _  tx1 tx2 tx3 tx4_12v974 tx5 tx6_1v985 hI (by omega) (by omega)
              · replace c1856 := c_eq t1821 lit_0 c1856
                refine ⟨vp_of tx6 (by omega) (by omega), ?_⟩
                refine ⟨fun c1860 => ?_, fun c1860 => ?_⟩
                · replace c1860 := c_le tx5 t1839 c1860
                  unfold pX11_span_137
                  obtain ⟨z1861, t1862, f1863⟩ := t_add tx6 lit_1
                  first | replace f1863 := f1863 (by omega) | clear f1863
                  intro x6_1v986 ex6_1v986
                  have tx6_1v986 : Ti x6_1v986 z1861 := by rw [ex6_1v986]; exact t1862
                  exact ih _ _ _ _ _ _ _ _ _ _ _ _  tx1 tx2 tx3 tx4_12v974 tx5 tx6_1v986 hI (by omega) (by omega)
                · replace c1860 := c_nle tx5 t1839 c1860
                  refine ⟨vp_of tx6 (by omega) (by omega), ?_⟩
                  intro x5_3v984 ex5_3v984
                  have tx5_3v984 : Ti x5_3v984 z1838 := by rw [ex5_3v984]; exact t1839
                  unfold pX11_span_137
                  obtain ⟨z1864, t1865, f1866⟩ := t_add tx6 lit_1
                  first | replace f1866 := f1866 (by omega) | clear f1866
                  intro x6_1v987 ex6_1v987
                  have tx6_1v987 : Ti x6_1v987 z1864 := by rw [ex6_1v987]; exact t1865
                  exact ih _ _ _ _ _ _ _ _ _ _ _ _  tx1 tx2 tx3 tx4_12v974 tx5_3v984 tx6_1v987 hI (by omega) (by omega)
        · replace c1819 := c_neq t1817 tx1 c1819
          unfold pX11_span_137
          obtain ⟨z1867, t1868, f1869⟩ := t_add tx6 lit_1
          first | replace f1869 := f1869 (by omega) | clear f1869
          intro x6_1v988 ex6_1v988
          have tx6_1v988 : Ti x6_1v988 z1867 := by rw [ex6_1v988]; exact t1868
          exact ih _ _ _ _ _ _ _ _ _ _ _ _  tx1 tx2 tx3 tx4 tx5 tx6_1v988 hI (by omega) (by omega)
