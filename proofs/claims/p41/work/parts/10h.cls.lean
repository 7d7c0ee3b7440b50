set_option maxHeartbeats 4000000 in
set_option maxRecDepth 100000 in
theorem sX5_joinClans_2 {T D : Int} {k : Nat} {post : Wd → Prop}   (hp : ∀ (w9 : Wd), IX k T D w9 → post w9) : ∀ (n : Nat) (x1 : Int32) (x2 : Int32) (zx1 : Int) (zx2 : Int) (w : Wd), Ti x1 zx1 → Ti x2 zx2 → IX k T D w → (0 ≤ zx2 ∧ zx2 ≤ 7) → (8 - zx2) < (n : Int) → pX5_joinClans_2   post  n x1 x2 w := by
  intro n
  induction n with
  | zero =>
    intro x1 x2 zx1 zx2 w tx1 tx2 hI h0 hm
    exact absurd hm (by omega)
  | succ n ih =>
    intro x1 x2 zx1 zx2 w tx1 tx2 hI h0 hm
    unfold pX5_joinClans_2
    have hk := ix_k hI
    obtain ⟨z3216, t3217⟩ := t_any (w.1 90 0)
    have f3218 := ixg_90_0 hI t3217
    refine ⟨fun c3219 => ?_, fun c3219 => ?_⟩
    · replace c3219 := c_le t3217 tx2 c3219
      exact ⟨70000, sX5_joinClans_25   (hp := hp) 70000 _ _ _ _ _ tx1 lit_0 hI (by omega) (by omega)⟩
    · replace c3219 := c_nle t3217 tx2 c3219
      refine ⟨vp_of tx2 (by omega) (by omega), ?_⟩
      intro w_2v1650 ew_2v1650
      have hIw_2v1650 := ixs_A hI ew_2v1650 (by decide)
      obtain ⟨z3220, t3221, f3222⟩ := t_add tx2 lit_1
      first | replace f3222 := f3222 (by omega) | clear f3222
      intro x2_3v1651 ex2_3v1651
      have tx2_3v1651 : Ti x2_3v1651 z3220 := by rw [ex2_3v1651]; exact t3221
      exact ih _ _ _ _ _ tx1 tx2_3v1651 hIw_2v1650 (by omega) (by omega)
set_option maxHeartbeats 4000000 in
set_option maxRecDepth 100000 in
theorem sX5_joinClans {T D : Int} {k : Nat} {post : Wd → Prop} {x1 : Int32} {zx1 : Int} {w : Wd}  (tx1 : Ti x1 zx1) (hI : IX k T D w)  (hp : ∀ (w9 : Wd), IX k T D w9 → post w9) : pX5_joinClans   post  x1 w := by
  unfold pX5_joinClans
  have hk := ix_k hI
  exact ⟨70000, sX5_joinClans_2   (hp := hp) 70000 _ _ _ _ _ tx1 lit_0 hI (by omega) (by omega)⟩
set_option maxHeartbeats 4000000 in
set_option maxRecDepth 100000 in
theorem sX5_largestClan_17 {T D : Int} {k : Nat} {k4 : Int32 → Int32 → Wd → Prop} {M4 : Int} {post : Int32 → Wd → Prop} {w : Wd} (hk4 : ∀ (x1 : Int32) (x2 : Int32) (zx1 : Int) (zx2 : Int), Ti x1 zx1 → Ti x2 zx2 → IX k T D w → (0 ≤ zx2 ∧ zx2 ≤ 7) → (8 - zx2) < M4 → k4 x1 x2 w) (hp : ∀ (r : Int32) (zr : Int), Ti r zr → post r w) : ∀ (n : Nat) (x1 : Int32) (x2 : Int32) (x3 : Int32) (x4 : Int32) (zx1 : Int) (zx2 : Int) (zx3 : Int) (zx4 : Int), Ti x1 zx1 → Ti x2 zx2 → Ti x3 zx3 → Ti x4 zx4 → IX k T D w → (0 ≤ zx4 ∧ zx4 ≤ 7) → (zx2 ≤ 6) → (0 ≤ zx2 ∧ zx2 ≤ 7) → ((8 - zx2) ≤ M4) → (8 - zx4) < (n : Int) → pX5_largestClan_17 k4  post  n x1 x2 x3 x4 w := by
  intro n
  induction n with
  | zero =>
    intro x1 x2 x3 x4 zx1 zx2 zx3 zx4  tx1 tx2 tx3 tx4 hI h0 h1 h2 h3 hm
    exact absurd hm (by omega)
  | succ n ih =>
    intro x1 x2 x3 x4 zx1 zx2 zx3 zx4  tx1 tx2 tx3 tx4 hI h0 h1 h2 h3 hm
    unfold pX5_largestClan_17
    have hk := ix_k hI
    obtain ⟨z3223, t3224⟩ := t_any (w.1 90 0)
    have f3225 := ixg_90_0 hI t3224
    refine ⟨fun c3226 => ?_, fun c3226 => ?_⟩
    · replace c3226 := c_le t3224 tx4 c3226
      obtain ⟨z3227, t3228, f3229⟩ := t_ite tx1 tx3 tx3 tx1
      intro x1_2v1652 ex1_2v1652
      have tx1_2v1652 : Ti x1_2v1652 z3227 := by rw [ex1_2v1652]; exact t3228
      obtain ⟨z3230, t3231, f3232⟩ := t_add tx2 lit_1
      first | replace f3232 := f3232 (by omega) | clear f3232
      intro x2_3v1653 ex2_3v1653
      have tx2_3v1653 : Ti x2_3v1653 z3230 := by rw [ex2_3v1653]; exact t3231
      exact hk4 _ _ _ _  tx1_2v1652 tx2_3v1653 hI (by omega) (by omega)
    · replace c3226 := c_nle t3224 tx4 c3226
      refine ⟨vp_of tx4 (by omega) (by omega), ?_⟩
      obtain ⟨z3233, t3234⟩ := t_any (w.2.1 100 x4.toNatClampNeg)
      refine ⟨fun c3235 => ?_, fun c3235 => ?_⟩
      · replace c3235 := c_neq t3234 tx2 c3235
        unfold pX5_largestClan_43
        obtain ⟨z3236, t3237, f3238⟩ := t_add tx3 lit_0
        first | replace f3238 := f3238 (by omega) | clear f3238
        intro x3_1v1654 ex3_1v1654
        have tx3_1v1654 : Ti x3_1v1654 z3236 := by rw [ex3_1v1654]; exact t3237
        obtain ⟨z3239, t3240, f3241⟩ := t_add tx4 lit_1
        first | replace f3241 := f3241 (by omega) | clear f3241
        intro x4_2v1655 ex4_2v1655
        have tx4_2v1655 : Ti x4_2v1655 z3239 := by rw [ex4_2v1655]; exact t3240
        exact ih _ _ _ _ _ _ _ _  tx1 tx2 tx3_1v1654 tx4_2v1655 hI (by omega) (by omega) (by omega) (by omega) (by omega)
      · replace c3235 := c_eq t3234 tx2 c3235
        unfold pX5_largestClan_43
        obtain ⟨z3242, t3243, f3244⟩ := t_add tx3 lit_1
        first | replace f3244 := f3244 (by omega) | clear f3244
        intro x3_1v1656 ex3_1v1656
        have tx3_1v1656 : Ti x3_1v1656 z3242 := by rw [ex3_1v1656]; exact t3243
        obtain ⟨z3245, t3246, f3247⟩ := t_add tx4 lit_1
        first | replace f3247 := f3247 (by omega) | clear f3247
        intro x4_2v1657 ex4_2v1657
        have tx4_2v1657 : Ti x4_2v1657 z3245 := by rw [ex4_2v1657]; exact t3246
        exact ih _ _ _ _ _ _ _ _  tx1 tx2 tx3_1v1656 tx4_2v1657 hI (by omega) (by omega) (by omega) (by omega) (by omega)
set_option maxHeartbeats 4000000 in
set_option maxRecDepth 100000 in
theorem sX5_largestClan_4 {T D : Int} {k : Nat} {post : Int32 → Wd → Prop} {w : Wd}  (hp : ∀ (r : Int32) (zr : Int), Ti r zr → post r w) : ∀ (n : Nat) (x1 : Int32) (x2 : Int32) (zx1 : Int) (zx2 : Int), Ti x1 zx1 → Ti x2 zx2 → IX k T D w → (0 ≤ zx2 ∧ zx2 ≤ 7) → (8 - zx2) < (n : Int) → pX5_largestClan_4   post  n x1 x2 w := by
  intro n
  induction n with
  | zero =>
    intro x1 x2 zx1 zx2  tx1 tx2 hI h0 hm
    exact absurd hm (by omega)
  | succ n ih =>
    intro x1 x2 zx1 zx2  tx1 tx2 hI h0 hm
    unfold pX5_largestClan_4
    have hk := ix_k hI
    obtain ⟨z3248, t3249⟩ := t_any (w.1 90 0)
    have f3250 := ixg_90_0 hI t3249
    refine ⟨fun c3251 => ?_, fun c3251 => ?_⟩
    · replace c3251 := c_le t3249 tx2 c3251
      exact hp _ _ tx1 
    · replace c3251 := c_nle t3249 tx2 c3251
      exact ⟨70000, sX5_largestClan_17 (M4 := (n : Int)) (hk4 := ih)  (hp := hp) 70000 _ _ _ _ _ _ _ _  tx1 tx2 lit_0 lit_0 hI (by omega) (by omega) (by omega) (by omega) (by omega)⟩
set_option maxHeartbeats 4000000 in
set_option maxRecDepth 100000 in
theorem sX5_largestClan {T D : Int} {k : Nat} {post : Int32 → Wd → Prop}  {w : Wd}   (hI : IX k T D w)  (hp : ∀ (r : Int32) (zr : Int), Ti r zr → post r w) : pX5_largestClan   post   w := by
  unfold pX5_largestClan
  have hk := ix_k hI
  exact ⟨70000, sX5_largestClan_4   (hp := hp) 70000 _ _ _ _  lit_0 lit_0 hI (by omega) (by omega)⟩
set_option maxHeartbeats 4000000 in
set_option maxRecDepth 100000 in
theorem sX10_clans {T D : Int} {k : Nat} {post : Int32 → Wd → Prop} {x1 : Int32} {zx1 : Int} {x2 : Int32} {zx2 : Int} {x3 : Int32} {zx3 : Int} {w : Wd}  (tx1 : Ti x1 zx1) (tx2 : Ti x2 zx2) (tx3 : Ti x3 zx3) (hI : IX k T D w)  (hp : ∀ (r : Int32) (zr : Int) (w9 : Wd), Ti r zr → IX k T D w9 → post r w9) : pX10_clans   post  x1 x2 x3 w := by
  unfold pX10_clans
  have hk := ix_k hI
  refine ⟨fun c3252 => ?_, fun c3252 => ?_⟩
  · replace c3252 := c_lt tx1 lit_0 c3252
    exact hp _ _ _  lit_m1 hI 
  · replace c3252 := c_nlt tx1 lit_0 c3252
    refine ⟨fun c3253 => ?_, fun c3253 => ?_⟩
    · replace c3253 := c_lt lit_24 tx1 c3253
      exact hp _ _ _  lit_m1 hI 
    · replace c3253 := c_nlt lit_24 tx1 c3253
      refine ⟨fun c3254 => ?_, fun c3254 => ?_⟩
      · replace c3254 := c_lt tx2 lit_0 c3254
        exact hp _ _ _  lit_m1 hI 
      · replace c3254 := c_nlt tx2 lit_0 c3254
        refine ⟨fun c3255 => ?_, fun c3255 => ?_⟩
        · replace c3255 := c_le tx2 lit_1 c3255
          obtain ⟨z3256, t3257⟩ := t_any (w.1 (rl (w.2.2.2.2 0)) 0)
          have f3258 := ixg_r0 hI t3257
          refine sX5_gather   (hI := hI) (tx2 := tx3) (tx3 := t3257)  (hp := fun  w_5v1658   hIw_5v1658  => ?_)
          refine sX5_joinClans   (hI := hIw_5v1658) (tx1 := tx1)  (hp := fun  w_6v1659   hIw_6v1659  => ?_)
          refine ⟨fun c3259 => ?_, fun c3259 => ?_⟩
          · replace c3259 := c_neq tx2 lit_0 c3259
            refine sX5_largestClan   (hI := hIw_6v1659)   (hp := fun r_8v1660 zr_8v1660 tr_8v1660 => ?_)
            exact hp _ _ _  tr_8v1660 hIw_6v1659 
          · replace c3259 := c_eq tx2 lit_0 c3259
            refine sX5_clanCount   (hI := hIw_6v1659)   (hp := fun r_10v1662 zr_10v1662 tr_10v1662 => ?_)
            exact hp _ _ _  tr_10v1662 hIw_6v1659 
        · replace c3255 := c_nle tx2 lit_1 c3255
          exact hp _ _ _  lit_m1 hI 
set_option maxHeartbeats 4000000 in
set_option maxRecDepth 100000 in
theorem sX10_samplesWith_6 {T D : Int} {k : Nat} {post : Int32 → Wd → Prop} {w : Wd}  (hp : ∀ (r : Int32) (zr : Int), Ti r zr → post r w) : ∀ (n : Nat) (x1 : Int32) (x2 : Int32) (x3 : Int32) (x4 : Int32) (x5 : Int32) (zx1 : Int) (zx2 : Int) (zx3 : Int) (zx4 : Int) (zx5 : Int), Ti x1 zx1 → Ti x2 zx2 → Ti x3 zx3 → Ti x4 zx4 → Ti x5 zx5 → IX k T D w → (0 ≤ zx5 ∧ zx5 ≤ 40) → (41 - zx5) < (n : Int) → pX10_samplesWith_6   post  n x1 x2 x3 x4 x5 w := by
  intro n
  induction n with
  | zero =>
    intro x1 x2 x3 x4 x5 zx1 zx2 zx3 zx4 zx5  tx1 tx2 tx3 tx4 tx5 hI h0 hm
    exact absurd hm (by omega)
  | succ n ih =>
    intro x1 x2 x3 x4 x5 zx1 zx2 zx3 zx4 zx5  tx1 tx2 tx3 tx4 tx5 hI h0 hm
    unfold pX10_samplesWith_6
    have hk := ix_k hI
    obtain ⟨z3260, t3261⟩ := t_any (w.1 70 0)
    have f3262 := ixg_70_0 hI t3261
    refine ⟨fun c3263 => ?_, fun c3263 => ?_⟩
    · replace c3263 := c_le t3261 tx5 c3263
      exact hp _ _ tx4 
    · replace c3263 := c_nle t3261 tx5 c3263
      refine sX3_counts   (hI := hI) (tx1 := tx5) (tx2 := lit_0) (tx3 := tx3)  (hp := fun r_2v1664 zr_2v1664 tr_2v1664 => ?_)
      refine ⟨fun c3264 => ?_, fun c3264 => ?_⟩
      · replace c3264 := c_eq tr_2v1664 lit_0 c3264
        unfold pX10_samplesWith_103
        obtain ⟨z3265, t3266, f3267⟩ := t_add tx5 lit_1
        first | replace f3267 := f3267 (by omega) | clear f3267
        intro x5_1v1666 ex5_1v1666
        have tx5_1v1666 : Ti x5_1v1666 z3265 := by rw [ex5_1v1666]; exact t3266
        exact ih _ _ _ _ _ _ _ _ _ _  tx1 tx2 tx3 tx4 tx5_1v1666 hI (by omega) (by omega)
      · replace c3264 := c_neq tr_2v1664 lit_0 c3264
        refine ⟨vp_of tx5 (by omega) (by omega), ?_⟩
        obtain ⟨z3268, t3269⟩ := t_any (w.2.1 76 x5.toNatClampNeg)
        refine ⟨fun c3270 => ?_, fun c3270 => ?_⟩
        · replace c3270 := c_eq t3269 lit_0 c3270
          unfold pX10_samplesWith_60
          refine ⟨vp_of tx5 (by omega) (by omega), ?_⟩
          obtain ⟨z3271, t3272, f3273⟩ := t_and (x := ((w.2.1 74 x5.toNatClampNeg) >>> (x1 &&& 31))) lit_1 (by decide)
          refine ⟨fun c3274 => ?_, fun c3274 => ?_⟩
          · replace c3274 := c_eq t3272 lit_0 c3274
            unfold pX10_samplesWith_85
            refine ⟨fun c3275 => ?_, fun c3275 => ?_⟩
            · replace c3275 := c_neq lit_0 tx2 c3275
              unfold pX10_samplesWith_100
              obtain ⟨z3276, t3277, f3278⟩ := t_add tx4 lit_0
              first | replace f3278 := f3278 (by omega) | clear f3278
              intro x4_1v1667 ex4_1v1667
              have tx4_1v1667 : Ti x4_1v1667 z3276 := by rw [ex4_1v1667]; exact t3277
              unfold pX10_samplesWith_103
              obtain ⟨z3279, t3280, f3281⟩ := t_add tx5 lit_1
              first | replace f3281 := f3281 (by omega) | clear f3281
              intro x5_1v1668 ex5_1v1668
              have tx5_1v1668 : Ti x5_1v1668 z3279 := by rw [ex5_1v1668]; exact t3280
              exact ih _ _ _ _ _ _ _ _ _ _  tx1 tx2 tx3 tx4_1v1667 tx5_1v1668 hI (by omega) (by omega)
            · replace c3275 := c_eq lit_0 tx2 c3275
              unfold pX10_samplesWith_100
              obtain ⟨z3282, t3283, f3284⟩ := t_add tx4 lit_1
              first | replace f3284 := f3284 (by omega) | clear f3284
              intro x4_1v1669 ex4_1v1669
              have tx4_1v1669 : Ti x4_1v1669 z3282 := by rw [ex4_1v1669]; exact t3283
              unfold pX10_samplesWith_103
              obtain ⟨z3285, t3286, f3287⟩ := t_add tx5 lit_1
              first | replace f3287 := f3287 (by omega) | clear f3287
              intro x5_1v1670 ex5_1v1670
              have tx5_1v1670 : Ti x5_1v1670 z3285 := by rw [ex5_1v1670]; exact t3286
              exact ih _ _ _ _ _ _ _ _ _ _  tx1 tx2 tx3 tx4_1v1669 tx5_1v1670 hI (by omega) (by omega)
          · replace c3274 := c_neq t3272 lit_0 c3274
            unfold pX10_samplesWith_85
            refine ⟨fun c3288 => ?_, fun c3288 => ?_⟩
            · replace c3288 := c_neq lit_1 tx2 c3288
              unfold pX10_samplesWith_100
              obtain ⟨z3289, t3290, f3291⟩ := t_add tx4 lit_0
              first | replace f3291 := f3291 (by omega) | clear f3291
              intro x4_1v1671 ex4_1v1671
              have tx4_1v1671 : Ti x4_1v1671 z3289 := by rw [ex4_1v1671]; exact t3290
              unfold pX10_samplesWith_103
              obtain ⟨z3292, t3293, f3294⟩ := t_add tx5 lit_1
              first | replace f3294 := f3294 (by omega) | clear f3294
              intro x5_1v1672 ex5_1v1672
              have tx5_1v1672 : Ti x5_1v1672 z3292 := by rw [ex5_1v1672]; exact t3293
              exact ih _ _ _ _ _ _ _ _ _ _  tx1 tx2 tx3 tx4_1v1671 tx5_1v1672 hI (by omega) (by omega)
            · replace c3288 := c_eq lit_1 tx2 c3288
              unfold pX10_samplesWith_100
              obtain ⟨z3295, t3296, f3297⟩ := t_add tx4 lit_1
              first | replace f3297 := f3297 (by omega) | clear f3297
              intro x4_1v1673 ex4_1v1673
              have tx4_1v1673 : Ti x4_1v1673 z3295 := by rw [ex4_1v1673]; exact t3296
              unfold pX10_samplesWith_103
              obtain ⟨z3298, t3299, f3300⟩ := t_add tx5 lit_1
              first | replace f3300 := f3300 (by omega) | clear f3300
              intro x5_1v1674 ex5_1v1674
              have tx5_1v1674 : Ti x5_1v1674 z3298 := by rw [ex5_1v1674]; exact t3299
              exact ih _ _ _ _ _ _ _ _ _ _  tx1 tx2 tx3 tx4_1v1673 tx5_1v1674 hI (by omega) (by omega)
        · replace c3270 := c_neq t3269 lit_0 c3270
          unfold pX10_samplesWith_60
          refine ⟨vp_of tx5 (by omega) (by omega), ?_⟩
          obtain ⟨z3301, t3302, f3303⟩ := t_and (x := ((w.2.1 74 x5.toNatClampNeg) >>> ((((w.1 (rl (w.2.2.2.2 0)) 0) - (1 : Int32)) - x1) &&& 31))) lit_1 (by decide)
          refine ⟨fun c3304 => ?_, fun c3304 => ?_⟩
          · replace c3304 := c_eq t3302 lit_0 c3304
            unfold pX10_samplesWith_85
            refine ⟨fun c3305 => ?_, fun c3305 => ?_⟩
            · replace c3305 := c_neq lit_0 tx2 c3305
              unfold pX10_samplesWith_100
              obtain ⟨z3306, t3307, f3308⟩ := t_add tx4 lit_0
              first | replace f3308 := f3308 (by omega) | clear f3308
              intro x4_1v1675 ex4_1v1675
              have tx4_1v1675 : Ti x4_1v1675 z3306 := by rw [ex4_1v1675]; exact t3307
              unfold pX10_samplesWith_103
              obtain ⟨z3309, t3310, f3311⟩ := t_add tx5 lit_1
              first | replace f3311 := f3311 (by omega) | clear f3311
              intro x5_1v1676 ex5_1v1676
              have tx5_1v1676 : Ti x5_1v1676 z3309 := by rw [ex5_1v1676]; exact t3310
              exact ih _ _ _ _ _ _ _ _ _ _  tx1 tx2 tx3 tx4_1v1675 tx5_1v1676 hI (by omega) (by omega)
            · replace c3305 := c_eq lit_0 tx2 c3305
              unfold pX10_samplesWith_100
              obtain ⟨z3312, t3313, f3314⟩ := t_add tx4 lit_1
              first | replace f3314 := f3314 (by omega) | clear f3314
              intro x4_1v1677 ex4_1v1677
              have tx4_1v1677 : Ti x4_1v1677 z3312 := by rw [ex4_1v1677]; exact t3313
              unfold pX10_samplesWith_103
              obtain ⟨z3315, t3316, f3317⟩ := t_add tx5 lit_1
              first | replace f3317 := f3317 (by omega) | clear f3317
              intro x5_1v1678 ex5_1v1678
              have tx5_1v1678 : Ti x5_1v1678 z3315 := by rw [ex5_1v1678]; exact t3316
              exact ih _ _ _ _ _ _ _ _ _ _  tx1 tx2 tx3 tx4_1v1677 tx5_1v1678 hI (by omega) (by omega)
          · replace c3304 := c_neq t3302 lit_0 c3304
            unfold pX10_samplesWith_85
            refine ⟨fun c3318 => ?_, fun c3318 => ?_⟩
            · replace c3318 := c_neq lit_1 tx2 c3318
              unfold pX10_samplesWith_100
              obtain ⟨z3319, t3320, f3321⟩ := t_add tx4 lit_0
              first | replace f3321 := f3321 (by omega) | clear f3321
              intro x4_1v1679 ex4_1v1679
              have tx4_1v1679 : Ti x4_1v1679 z3319 := by rw [ex4_1v1679]; exact t3320
              unfold pX10_samplesWith_103
              obtain ⟨z3322, t3323, f3324⟩ := t_add tx5 lit_1
              first | replace f3324 := f3324 (by omega) | clear f3324
              intro x5_1v1680 ex5_1v1680
              have tx5_1v1680 : Ti x5_1v1680 z3322 := by rw [ex5_1v1680]; exact t3323
              exact ih _ _ _ _ _ _ _ _ _ _  tx1 tx2 tx3 tx4_1v1679 tx5_1v1680 hI (by omega) (by omega)
            · replace c3318 := c_eq lit_1 tx2 c3318
              unfold pX10_samplesWith_100
              obtain ⟨z3325, t3326, f3327⟩ := t_add tx4 lit_1
              first | replace f3327 := f3327 (by omega) | clear f3327
              intro x4_1v1681 ex4_1v1681
              have tx4_1v1681 : Ti x4_1v1681 z3325 := by rw [ex4_1v1681]; exact t3326
              unfold pX10_samplesWith_103
              obtain ⟨z3328, t3329, f3330⟩ := t_add tx5 lit_1
              first | replace f3330 := f3330 (by omega) | clear f3330
              intro x5_1v1682 ex5_1v1682
              have tx5_1v1682 : Ti x5_1v1682 z3328 := by rw [ex5_1v1682]; exact t3329
              exact ih _ _ _ _ _ _ _ _ _ _  tx1 tx2 tx3 tx4_1v1681 tx5_1v1682 hI (by omega) (by omega)
set_option maxHeartbeats 4000000 in
set_option maxRecDepth 100000 in
theorem sX10_samplesWith {T D : Int} {k : Nat} {post : Int32 → Wd → Prop} {x1 : Int32} {zx1 : Int} {x2 : Int32} {zx2 : Int} {x3 : Int32} {zx3 : Int} {w : Wd}  (tx1 : Ti x1 zx1) (tx2 : Ti x2 zx2) (tx3 : Ti x3 zx3) (hI : IX k T D w)  (hp : ∀ (r : Int32) (zr : Int), Ti r zr → post r w) : pX10_samplesWith   post  x1 x2 x3 w := by
  unfold pX10_samplesWith
  have hk := ix_k hI
  exact ⟨70000, sX10_samplesWith_6   (hp := hp) 70000 _ _ _ _ _ _ _ _ _ _  tx1 tx2 tx3 lit_0 lit_0 hI (by omega) (by omega)⟩
set_option maxHeartbeats 4000000 in
set_option maxRecDepth 100000 in
theorem sX10_origin_19 {T D : Int} {k : Nat} {post : Int32 → Wd → Prop} {w : Wd}  (hp : ∀ (r : Int32) (zr : Int), Ti r zr → post r w) : ∀ (n : Nat) (x1 : Int32) (x2 : Int32) (x3 : Int32) (x4 : Int32) (x5 : Int32) (zx1 : Int) (zx2 : Int) (zx3 : Int) (zx4 : Int) (zx5 : Int), Ti x1 zx1 → Ti x2 zx2 → Ti x3 zx3 → Ti x4 zx4 → Ti x5 zx5 → IX k T D w → (0 ≤ zx5 ∧ zx5 ≤ 12) → (13 - zx5) < (n : Int) → pX10_origin_19   post  n x1 x2 x3 x4 x5 w := by
  intro n
  induction n with
  | zero =>
    intro x1 x2 x3 x4 x5 zx1 zx2 zx3 zx4 zx5  tx1 tx2 tx3 tx4 tx5 hI h0 hm
    exact absurd hm (by omega)
  | succ n ih =>
    intro x1 x2 x3 x4 x5 zx1 zx2 zx3 zx4 zx5  tx1 tx2 tx3 tx4 tx5 hI h0 hm
    unfold pX10_origin_19
    have hk := ix_k hI
    obtain ⟨z3331, t3332⟩ := t_any (w.1 (rl (w.2.2.2.2 0)) 0)
    have f3333 := ixg_r0 hI t3332
    refine ⟨fun c3334 => ?_, fun c3334 => ?_⟩
    · replace c3334 := c_le t3332 tx5 c3334
      refine ⟨fun c3335 => ?_, fun c3335 => ?_⟩
      · replace c3335 := c_neq tx1 lit_0 c3335
        exact hp _ _ tx4 
      · replace c3335 := c_eq tx1 lit_0 c3335
        exact hp _ _ tx3 
    · replace c3334 := c_nle t3332 tx5 c3334
      refine sX10_samplesWith   (hI := hI) (tx1 := tx5) (tx2 := lit_0) (tx3 := tx2)  (hp := fun r_3v1683 zr_3v1683 tr_3v1683 => ?_)
      refine sX10_samplesWith   (hI := hI) (tx1 := tx5) (tx2 := lit_1) (tx3 := tx2)  (hp := fun r_5v1688 zr_5v1688 tr_5v1688 => ?_)
      obtain ⟨z3336, t3337, f3338⟩ := t_mul lit_2 tr_5v1688
      first | replace f3338 := f3338 (by omega) | clear f3338
      refine ⟨fun c3339 => ?_, fun c3339 => ?_⟩
      · replace c3339 := c_le t3337 tr_3v1683 c3339
        unfold pX10_origin_67
        obtain ⟨z3340, t3341, f3342⟩ := t_ite t3337 tr_3v1683 t3337 tr_3v1683
        obtain ⟨z3343, t3344, f3345⟩ := t_add tx4 t3341
        first | replace f3345 := f3345 (by omega) | clear f3345
        intro x4_1v1692 ex4_1v1692
        have tx4_1v1692 : Ti x4_1v1692 z3343 := by rw [ex4_1v1692]; exact t3344
        obtain ⟨z3346, t3347, f3348⟩ := t_add tx5 lit_1
        first | replace f3348 := f3348 (by omega) | clear f3348
        intro x5_2v1693 ex5_2v1693
        have tx5_2v1693 : Ti x5_2v1693 z3346 := by rw [ex5_2v1693]; exact t3347
        exact ih _ _ _ _ _ _ _ _ _ _  tx1 tx2 tx3 tx4_1v1692 tx5_2v1693 hI (by omega) (by omega)
      · replace c3339 := c_nle t3337 tr_3v1683 c3339
        obtain ⟨z3349, t3350⟩ := t_any (x3 ||| ((1 : Int32) <<< (x5 &&& 31)))
        intro x3_8v1691 ex3_8v1691
        have tx3_8v1691 : Ti x3_8v1691 z3349 := by rw [ex3_8v1691]; exact t3350
        unfold pX10_origin_67
        obtain ⟨z3351, t3352, f3353⟩ := t_ite t3337 tr_3v1683 t3337 tr_3v1683
        obtain ⟨z3354, t3355, f3356⟩ := t_add tx4 t3352
        first | replace f3356 := f3356 (by omega) | clear f3356
        intro x4_1v1694 ex4_1v1694
        have tx4_1v1694 : Ti x4_1v1694 z3354 := by rw [ex4_1v1694]; exact t3355
        obtain ⟨z3357, t3358, f3359⟩ := t_add tx5 lit_1
        first | replace f3359 := f3359 (by omega) | clear f3359
        intro x5_2v1695 ex5_2v1695
        have tx5_2v1695 : Ti x5_2v1695 z3357 := by rw [ex5_2v1695]; exact t3358
        exact ih _ _ _ _ _ _ _ _ _ _  tx1 tx2 tx3_8v1691 tx4_1v1694 tx5_2v1695 hI (by omega) (by omega)
set_option maxHeartbeats 4000000 in
set_option maxRecDepth 100000 in
theorem sX10_origin {T D : Int} {k : Nat} {post : Int32 → Wd → Prop} {x1 : Int32} {zx1 : Int} {x2 : Int32} {zx2 : Int} {w : Wd}  (tx1 : Ti x1 zx1) (tx2 : Ti x2 zx2) (hI : IX k T D w)  (hp : ∀ (r : Int32) (zr : Int), Ti r zr → post r w) : pX10_origin   post  x1 x2 w := by
  unfold pX10_origin
  have hk := ix_k hI
  refine ⟨fun c3360 => ?_, fun c3360 => ?_⟩
  · replace c3360 := c_lt tx1 lit_0 c3360
    exact hp _ _ lit_m1 
  · replace c3360 := c_nlt tx1 lit_0 c3360
    refine ⟨fun c3361 => ?_, fun c3361 => ?_⟩
    · replace c3361 := c_le tx1 lit_1 c3361
      exact ⟨70000, sX10_origin_19   (hp := hp) 70000 _ _ _ _ _ _ _ _ _ _  tx1 tx2 lit_0 lit_0 lit_0 hI (by omega) (by omega)⟩
    · replace c3361 := c_nle tx1 lit_1 c3361
      exact hp _ _ lit_m1 
set_option maxHeartbeats 4000000 in
set_option maxRecDepth 100000 in
theorem sX10_isFalse {T D : Int} {k : Nat} {post : Int32 → Wd → Prop} {x1 : Int32} {zx1 : Int} {w : Wd}  (tx1 : Ti x1 zx1) (hI : IX k T D w) (h0 : 0 ≤ zx1 ∧ zx1 ≤ 39) (hp : ∀ (r : Int32) (zr : Int), Ti r zr → post r w) : pX10_isFalse   post  x1 w := by
  unfold pX10_isFalse
  have hk := ix_k hI
  refine ⟨vp_of tx1 (by omega) (by omega), ?_⟩
  obtain ⟨z3362, t3363⟩ := t_any (w.2.1 75 x1.toNatClampNeg)
  intro x2_1v1696 ex2_1v1696
  have tx2_1v1696 : Ti x2_1v1696 z3362 := by rw [ex2_1v1696]; exact t3363
  refine sX10_isSeal   (hI := hI) (tx1 := tx2_1v1696)  (hp := fun r_2v1697 zr_2v1697 tr_2v1697 p3364 => ?_)
  refine ⟨fun c3365 => ?_, fun c3365 => ?_⟩
  · replace c3365 := c_eq tr_2v1697 lit_0 c3365
    exact hp _ _ lit_1 
  · replace c3365 := c_neq tr_2v1697 lit_0 c3365
    refine ⟨vp_of tx1 (by omega) (by omega), ?_⟩
    refine sX10_printOf   (hI := hI) (tx1 := tx2_1v1696)  (hp := fun r_5v1701 zr_5v1701 tr_5v1701 => ?_)
    obtain ⟨z3366, t3367⟩ := t_any ((w.2.1 74 x1.toNatClampNeg) &&& (r_5v1701 ^^^ (-1 : Int32)))
    refine ⟨fun c3368 => ?_, fun c3368 => ?_⟩
    · replace c3368 := c_neq t3367 lit_0 c3368
      exact hp _ _ lit_1 
    · replace c3368 := c_eq t3367 lit_0 c3368
      refine ⟨vp_of tx1 (by omega) (by omega), ?_⟩
      refine ⟨vp_of tx2_1v1696 (by omega) (by omega), ?_⟩
      obtain ⟨z3369, t3370⟩ := t_any (w.2.1 165 x2_1v1696.toNatClampNeg)
      obtain ⟨z3371, t3372⟩ := t_any (w.2.1 76 x1.toNatClampNeg)
      refine ⟨fun c3373 => ?_, fun c3373 => ?_⟩
      · replace c3373 := c_le t3370 t3372 c3373
        exact hp _ _ lit_0 
      · replace c3373 := c_nle t3370 t3372 c3373
        exact hp _ _ lit_1 
set_option maxHeartbeats 4000000 in
set_option maxRecDepth 100000 in
theorem sX10_falses_12 {T D : Int} {k : Nat} {post : Int32 → Wd → Prop}   (hp : ∀ (r : Int32) (zr : Int) (w9 : Wd), Ti r zr → IX k T D w9 → post r w9) : ∀ (n : Nat) (x1 : Int32) (x2 : Int32) (x3 : Int32) (zx1 : Int) (zx2 : Int) (zx3 : Int) (w : Wd), Ti x1 zx1 → Ti x2 zx2 → Ti x3 zx3 → IX k T D w → (0 ≤ zx3 ∧ zx3 ≤ 40) → (41 - zx3) < (n : Int) → pX10_falses_12   post  n x1 x2 x3 w := by
  intro n
  induction n with
  | zero =>
    intro x1 x2 x3 zx1 zx2 zx3 w tx1 tx2 tx3 hI h0 hm
    exact absurd hm (by omega)
  | succ n ih =>
    intro x1 x2 x3 zx1 zx2 zx3 w tx1 tx2 tx3 hI h0 hm
    unfold pX10_falses_12
    have hk := ix_k hI
    obtain ⟨z3374, t3375⟩ := t_any (w.1 70 0)
    have f3376 := ixg_70_0 hI t3375
    refine ⟨fun c3377 => ?_, fun c3377 => ?_⟩
    · replace c3377 := c_le t3375 tx3 c3377
      exact hp _ _ _  tx2 hI 
    · replace c3377 := c_nle t3375 tx3 c3377
      refine sX3_counts   (hI := hI) (tx1 := tx3) (tx2 := lit_1) (tx3 := tx1)  (hp := fun r_2v1703 zr_2v1703 tr_2v1703 => ?_)
      refine ⟨fun c3378 => ?_, fun c3378 => ?_⟩
      · replace c3378 := c_eq tr_2v1703 lit_0 c3378
        unfold pX10_falses_61
        obtain ⟨z3379, t3380, f3381⟩ := t_add tx3 lit_1
        first | replace f3381 := f3381 (by omega) | clear f3381
        intro x3_1v1711 ex3_1v1711
        have tx3_1v1711 : Ti x3_1v1711 z3379 := by rw [ex3_1v1711]; exact t3380
        exact ih _ _ _ _ _ _ _ tx1 tx2 tx3_1v1711 hI (by omega) (by omega)
      · replace c3378 := c_neq tr_2v1703 lit_0 c3378
        refine sX10_isFalse   (hI := hI) (tx1 := tx3) (h0 := (by omega)) (hp := fun r_5v1708 zr_5v1708 tr_5v1708 => ?_)
        refine ⟨fun c3382 => ?_, fun c3382 => ?_⟩
        · replace c3382 := c_eq tr_5v1708 lit_0 c3382
          unfold pX10_falses_61
          obtain ⟨z3383, t3384, f3385⟩ := t_add tx3 lit_1
          first | replace f3385 := f3385 (by omega) | clear f3385
          intro x3_1v1713 ex3_1v1713
          have tx3_1v1713 : Ti x3_1v1713 z3383 := by rw [ex3_1v1713]; exact t3384
          exact ih _ _ _ _ _ _ _ tx1 tx2 tx3_1v1713 hI (by omega) (by omega)
        · replace c3382 := c_neq tr_5v1708 lit_0 c3382
          refine ⟨fun c3386 => ?_, fun c3386 => ?_⟩
          · replace c3386 := c_le lit_8 tx2 c3386
            unfold pX10_falses_58
            obtain ⟨z3387, t3388, f3389⟩ := t_add tx2 lit_1
            first | replace f3389 := f3389 (by omega) | clear f3389
            intro x2_1v1714 ex2_1v1714
            have tx2_1v1714 : Ti x2_1v1714 z3387 := by rw [ex2_1v1714]; exact t3388
            unfold pX10_falses_61
            obtain ⟨z3390, t3391, f3392⟩ := t_add tx3 lit_1
            first | replace f3392 := f3392 (by omega) | clear f3392
            intro x3_1v1715 ex3_1v1715
            have tx3_1v1715 : Ti x3_1v1715 z3390 := by rw [ex3_1v1715]; exact t3391
            exact ih _ _ _ _ _ _ _ tx1 tx2_1v1714 tx3_1v1715 hI (by omega) (by omega)
          · replace c3386 := c_nle lit_8 tx2 c3386
            refine sX4_lay   (hI := hI) (tx1 := tx3)  (hp := fun  w_9v1712   hIw_9v1712  => ?_)
            unfold pX10_falses_58
            obtain ⟨z3393, t3394, f3395⟩ := t_add tx2 lit_1
            first | replace f3395 := f3395 (by omega) | clear f3395
            intro x2_1v1716 ex2_1v1716
            have tx2_1v1716 : Ti x2_1v1716 z3393 := by rw [ex2_1v1716]; exact t3394
            unfold pX10_falses_61
            obtain ⟨z3396, t3397, f3398⟩ := t_add tx3 lit_1
            first | replace f3398 := f3398 (by omega) | clear f3398
            intro x3_1v1717 ex3_1v1717
            have tx3_1v1717 : Ti x3_1v1717 z3396 := by rw [ex3_1v1717]; exact t3397
            exact ih _ _ _ _ _ _ _ tx1 tx2_1v1716 tx3_1v1717 hIw_9v1712 (by omega) (by omega)
set_option maxHeartbeats 4000000 in
set_option maxRecDepth 100000 in
theorem sX10_falses {T D : Int} {k : Nat} {post : Int32 → Wd → Prop} {x1 : Int32} {zx1 : Int} {w : Wd}  (tx1 : Ti x1 zx1) (hI : IX k T D w)  (hp : ∀ (r : Int32) (zr : Int) (w9 : Wd), Ti r zr → IX k T D w9 → post r w9) : pX10_falses   post  x1 w := by
  unfold pX10_falses
  have hk := ix_k hI
  intro w_1v1718 ew_1v1718
  have hIw_1v1718 := ixs_110_1 hI ew_1v1718 lit_0 (by omega) (by omega)
  exact ⟨70000, sX10_falses_12   (hp := hp) 70000 _ _ _ _ _ _ _ tx1 lit_0 lit_0 hIw_1v1718 (by omega) (by omega)⟩
set_option maxHeartbeats 4000000 in
set_option maxRecDepth 100000 in
theorem sX10_span_30 {T D : Int} {k : Nat} {post : Int32 → Wd → Prop} {w : Wd}  (hp : ∀ (r : Int32) (zr : Int), Ti r zr → post r w) : ∀ (n : Nat) (x1 : Int32) (x2 : Int32) (x3 : Int32) (x4 : Int32) (x5 : Int32) (x6 : Int32) (zx1 : Int) (zx2 : Int) (zx3 : Int) (zx4 : Int) (zx5 : Int) (zx6 : Int), Ti x1 zx1 → Ti x2 zx2 → Ti x3 zx3 → Ti x4 zx4 → Ti x5 zx5 → Ti x6 zx6 → IX k T D w → (0 ≤ zx6 ∧ zx6 ≤ 40) → (41 - zx6) < (n : Int) → pX10_span_30   post  n x1 x2 x3 x4 x5 x6 w := by
  intro n
  induction n with
  | zero =>
    intro x1 x2 x3 x4 x5 x6 zx1 zx2 zx3 zx4 zx5 zx6  tx1 tx2 tx3 tx4 tx5 tx6 hI h0 hm
    exact absurd hm (by omega)
  | succ n ih =>
    intro x1 x2 x3 x4 x5 x6 zx1 zx2 zx3 zx4 zx5 zx6  tx1 tx2 tx3 tx4 tx5 tx6 hI h0 hm
    unfold pX10_span_30
    have hk := ix_k hI
    obtain ⟨z3399, t3400⟩ := t_any (w.1 70 0)
    have f3401 := ixg_70_0 hI t3400
    refine ⟨fun c3402 => ?_, fun c3402 => ?_⟩
    · replace c3402 := c_le t3400 tx6 c3402
      refine ⟨fun c3403 => ?_, fun c3403 => ?_⟩
      · replace c3403 := c_neq tx2 lit_2 c3403
        refine ⟨fun c3404 => ?_, fun c3404 => ?_⟩
        · replace c3404 := c_le tx4 tx5 c3404
          refine ⟨fun c3405 => ?_, fun c3405 => ?_⟩
          · replace c3405 := c_neq tx2 lit_0 c3405
            exact hp _ _ tx5 
          · replace c3405 := c_eq tx2 lit_0 c3405
            exact hp _ _ tx4 
        · replace c3404 := c_nle tx4 tx5 c3404
          exact hp _ _ lit_m1 
      · replace c3403 := c_eq tx2 lit_2 c3403
        obtain ⟨z3406, t3407, f3408⟩ := t_sub tx5 tx4
        first | replace f3408 := f3408 (by omega) | clear f3408
        obtain ⟨z3409, t3410, f3411⟩ := t_add t3407 lit_1
        first | replace f3411 := f3411 (by omega) | clear f3411
        obtain ⟨z3412, t3413, f3414⟩ := t_ite lit_0 t3410 t3410 lit_0
        exact hp _ _ t3413 
    · replace c3402 := c_nle t3400 tx6 c3402
      refine sX3_counts   (hI := hI) (tx1 := tx6) (tx2 := lit_2) (tx3 := tx3)  (hp := fun r_5v1719 zr_5v1719 tr_5v1719 => ?_)
      refine ⟨fun c3415 => ?_, fun c3415 => ?_⟩
      · replace c3415 := c_eq tr_5v1719 lit_0 c3415
        unfold pX10_span_122
        obtain ⟨z3416, t3417, f3418⟩ := t_add tx6 lit_1
        first | replace f3418 := f3418 (by omega) | clear f3418
        intro x6_1v1725 ex6_1v1725
        have tx6_1v1725 : Ti x6_1v1725 z3416 := by rw [ex6_1v1725]; exact t3417
        exact ih _ _ _ _ _ _ _ _ _ _ _ _  tx1 tx2 tx3 tx4 tx5 tx6_1v1725 hI (by omega) (by omega)
      · replace c3415 := c_neq tr_5v1719 lit_0 c3415
        refine ⟨vp_of tx6 (by omega) (by omega), ?_⟩
        obtain ⟨z3419, t3420⟩ := t_any (w.2.1 74 x6.toNatClampNeg)
        refine ⟨fun c3421 => ?_, fun c3421 => ?_⟩
        · replace c3421 := c_neq t3420 tx1 c3421
          unfold pX10_span_122
          obtain ⟨z3422, t3423, f3424⟩ := t_add tx6 lit_1
          first | replace f3424 := f3424 (by omega) | clear f3424
          intro x6_1v1726 ex6_1v1726
          have tx6_1v1726 : Ti x6_1v1726 z3422 := by rw [ex6_1v1726]; exact t3423
          exact ih _ _ _ _ _ _ _ _ _ _ _ _  tx1 tx2 tx3 tx4 tx5 tx6_1v1726 hI (by omega) (by omega)
        · replace c3421 := c_eq t3420 tx1 c3421
          refine ⟨vp_of tx6 (by omega) (by omega), ?_⟩
          obtain ⟨z3425, t3426⟩ := t_any (w.2.1 76 x6.toNatClampNeg)
          refine ⟨fun c3427 => ?_, fun c3427 => ?_⟩
          · replace c3427 := c_eq t3426 lit_0 c3427
            refine ⟨vp_of tx6 (by omega) (by omega), ?_⟩
            obtain ⟨z3428, t3429⟩ := t_any (w.2.1 75 x6.toNatClampNeg)
            obtain ⟨z3430, t3431, f3432⟩ := t_ite t3429 tx5 t3429 tx5
            intro x5_10v1723 ex5_10v1723
            have tx5_10v1723 : Ti x5_10v1723 z3430 := by rw [ex5_10v1723]; exact t3431
            unfold pX10_span_122
            obtain ⟨z3433, t3434, f3435⟩ := t_add tx6 lit_1
            first | replace f3435 := f3435 (by omega) | clear f3435
            intro x6_1v1727 ex6_1v1727
            have tx6_1v1727 : Ti x6_1v1727 z3433 := by rw [ex6_1v1727]; exact t3434
            exact ih _ _ _ _ _ _ _ _ _ _ _ _  tx1 tx2 tx3 tx4 tx5_10v1723 tx6_1v1727 hI (by omega) (by omega)
          · replace c3427 := c_neq t3426 lit_0 c3427
            refine ⟨vp_of tx6 (by omega) (by omega), ?_⟩
            obtain ⟨z3436, t3437⟩ := t_any (w.2.1 75 x6.toNatClampNeg)
            obtain ⟨z3438, t3439, f3440⟩ := t_add t3437 lit_1
            first | replace f3440 := f3440 (by omega) | clear f3440
            obtain ⟨z3441, t3442, f3443⟩ := t_ite tx4 t3439 t3439 tx4
            intro x4_11v1724 ex4_11v1724
            have tx4_11v1724 : Ti x4_11v1724 z3441 := by rw [ex4_11v1724]; exact t3442
            unfold pX10_span_122
            obtain ⟨z3444, t3445, f3446⟩ := t_add tx6 lit_1
            first | replace f3446 := f3446 (by omega) | clear f3446
            intro x6_1v1728 ex6_1v1728
            have tx6_1v1728 : Ti x6_1v1728 z3444 := by rw [ex6_1v1728]; exact t3445
            exact ih _ _ _ _ _ _ _ _ _ _ _ _  tx1 tx2 tx3 tx4_11v1724 tx5 tx6_1v1728 hI (by omega) (by omega)
set_option maxHeartbeats 4000000 in
set_option maxRecDepth 100000 in
theorem sX10_span {T D : Int} {k : Nat} {post : Int32 → Wd → Prop} {x1 : Int32} {zx1 : Int} {x2 : Int32} {zx2 : Int} {x3 : Int32} {zx3 : Int} {w : Wd}  (tx1 : Ti x1 zx1) (tx2 : Ti x2 zx2) (tx3 : Ti x3 zx3) (hI : IX k T D w)  (hp : ∀ (r : Int32) (zr : Int), Ti r zr → post r w) : pX10_span   post  x1 x2 x3 w := by
  unfold pX10_span
  have hk := ix_k hI
  refine sX10_isMark   (hI := hI) (tx1 := tx1)  (hp := fun r_1v1729 zr_1v1729 tr_1v1729 p3447 => ?_)
  refine ⟨fun c3448 => ?_, fun c3448 => ?_⟩
  · replace c3448 := c_eq tr_1v1729 lit_0 c3448
    exact hp _ _ lit_m1 
  · replace c3448 := c_neq tr_1v1729 lit_0 c3448
    refine ⟨fun c3449 => ?_, fun c3449 => ?_⟩
    · replace c3449 := c_lt tx2 lit_0 c3449
      exact hp _ _ lit_m1 
    · replace c3449 := c_nlt tx2 lit_0 c3449
      refine ⟨fun c3450 => ?_, fun c3450 => ?_⟩
      · replace c3450 := c_le tx2 lit_2 c3450
        exact ⟨70000, sX10_span_30   (hp := hp) 70000 _ _ _ _ _ _ _ _ _ _ _ _  tx1 tx2 tx3 lit_0 lit_999 lit_0 hI (by omega) (by omega)⟩
      · replace c3450 := c_nle tx2 lit_2 c3450
        exact hp _ _ lit_m1 
set_option maxHeartbeats 4000000 in
set_option maxRecDepth 100000 in
theorem sX3_join_72 {T D : Int} {k : Nat} {post : Int32 → Wd → Prop}   (hp : ∀ (r : Int32) (zr : Int) (w9 : Wd), Ti r zr → IX k T D w9 → post r w9) : ∀ (n : Nat) (x1 : Int32) (x4 : Int32) (x5 : Int32) (x6 : Int32) (zx1 : Int) (zx4 : Int) (zx5 : Int) (zx6 : Int) (w : Wd), Ti x1 zx1 → Ti x4 zx4 → Ti x5 zx5 → Ti x6 zx6 → IX k T D w → (0 ≤ zx6 ∧ zx6 ≤ 8) → (0 ≤ zx1 ∧ zx1 ≤ 7) → (9 - zx6) < (n : Int) → pX3_join_72   post  n x1 x4 x5 x6 w := by
  intro n
  induction n with
  | zero =>
    intro x1 x4 x5 x6 zx1 zx4 zx5 zx6 w tx1 tx4 tx5 tx6 hI h0 h1 hm
    exact absurd hm (by omega)
  | succ n ih =>
    intro x1 x4 x5 x6 zx1 zx4 zx5 zx6 w tx1 tx4 tx5 tx6 hI h0 h1 hm
    unfold pX3_join_72
    have hk := ix_k hI
    refine ⟨fun c3451 => ?_, fun c3451 => ?_⟩
    · replace c3451 := c_le lit_8 tx6 c3451
      exact hp _ _ _  lit_1 hI 
    · replace c3451 := c_nle lit_8 tx6 c3451
      refine ⟨vp_of tx6 (by omega) (by omega), ?_⟩
      obtain ⟨z3452, t3453⟩ := t_any (w.2.1 79 x6.toNatClampNeg)
      refine ⟨fun c3454 => ?_, fun c3454 => ?_⟩
      · replace c3454 := c_neq t3453 tx5 c3454
        unfold pX3_join_116
        obtain ⟨z3455, t3456, f3457⟩ := t_add tx6 lit_1
        first | replace f3457 := f3457 (by omega) | clear f3457
        intro x6_1v1733 ex6_1v1733
        have tx6_1v1733 : Ti x6_1v1733 z3455 := by rw [ex6_1v1733]; exact t3456
        exact ih _ _ _ _ _ _ _ _ _ tx1 tx4 tx5 tx6_1v1733 hI (by omega) (by omega) (by omega)
      · replace c3454 := c_eq t3453 tx5 c3454
        refine ⟨vp_of tx1 (by omega) (by omega), ?_⟩
        refine ⟨vp_of tx6 (by omega) (by omega), ?_⟩
        intro w_3v1731 ew_3v1731
        have hIw_3v1731 := ixs_A hI ew_3v1731 (by decide)
        refine ⟨vp_of tx6 (by omega) (by omega), ?_⟩
        refine ⟨vp_of tx6 (by omega) (by omega), ?_⟩
        intro w_4v1732 ew_4v1732
        have hIw_4v1732 := ixs_A hIw_3v1731 ew_4v1732 (by decide)
        unfold pX3_join_116
        obtain ⟨z3458, t3459, f3460⟩ := t_add tx6 lit_1
        first | replace f3460 := f3460 (by omega) | clear f3460
        intro x6_1v1734 ex6_1v1734
        have tx6_1v1734 : Ti x6_1v1734 z3458 := by rw [ex6_1v1734]; exact t3459
        exact ih _ _ _ _ _ _ _ _ _ tx1 tx4 tx5 tx6_1v1734 hIw_4v1732 (by omega) (by omega) (by omega)
set_option maxHeartbeats 4000000 in
set_option maxRecDepth 100000 in
theorem sX3_join {T D : Int} {k : Nat} {post : Int32 → Wd → Prop} {x1 : Int32} {zx1 : Int} {x2 : Int32} {zx2 : Int} {x3 : Int32} {zx3 : Int} {w : Wd}  (tx1 : Ti x1 zx1) (tx2 : Ti x2 zx2) (tx3 : Ti x3 zx3) (hI : IX k T D w)  (hp : ∀ (r : Int32) (zr : Int) (w9 : Wd), Ti r zr → IX k T D w9 → post r w9) : pX3_join   post  x1 x2 x3 w := by
  unfold pX3_join
  have hk := ix_k hI
  refine ⟨fun c3461 => ?_, fun c3461 => ?_⟩
  · replace c3461 := c_lt tx1 lit_0 c3461
    exact hp _ _ _  lit_0 hI 
  · replace c3461 := c_nlt tx1 lit_0 c3461
    refine ⟨fun c3462 => ?_, fun c3462 => ?_⟩
    · replace c3462 := c_le lit_8 tx1 c3462
      exact hp _ _ _  lit_0 hI 
    · replace c3462 := c_nle lit_8 tx1 c3462
      refine ⟨fun c3463 => ?_, fun c3463 => ?_⟩
      · replace c3463 := c_lt tx2 lit_0 c3463
        exact hp _ _ _  lit_0 hI 
      · replace c3463 := c_nlt tx2 lit_0 c3463
        refine ⟨fun c3464 => ?_, fun c3464 => ?_⟩
        · replace c3464 := c_lt tx2 lit_8 c3464
          refine ⟨vp_of tx1 (by omega) (by omega), ?_⟩
          refine ⟨vp_of tx2 (by omega) (by omega), ?_⟩
          obtain ⟨z3465, t3466⟩ := t_any (((w.2.1 80 x1.toNatClampNeg) ^^^ (w.2.1 80 x2.toNatClampNeg)) ^^^ x3)
          intro x4_5v1735 ex4_5v1735
          have tx4_5v1735 : Ti x4_5v1735 z3465 := by rw [ex4_5v1735]; exact t3466
          refine ⟨vp_of tx2 (by omega) (by omega), ?_⟩
          obtain ⟨z3467, t3468⟩ := t_any (w.2.1 79 x2.toNatClampNeg)
          intro x5_6v1736 ex5_6v1736
          have tx5_6v1736 : Ti x5_6v1736 z3467 := by rw [ex5_6v1736]; exact t3468
          refine ⟨vp_of tx1 (by omega) (by omega), ?_⟩
          obtain ⟨z3469, t3470⟩ := t_any (w.2.1 79 x1.toNatClampNeg)
          refine ⟨fun c3471 => ?_, fun c3471 => ?_⟩
          · replace c3471 := c_neq t3470 tx5_6v1736 c3471
            exact ⟨70000, sX3_join_72   (hp := hp) 70000 _ _ _ _ _ _ _ _ _ tx1 tx4_5v1735 tx5_6v1736 lit_0 hI (by omega) (by omega) (by omega)⟩
          · replace c3471 := c_eq t3470 tx5_6v1736 c3471
            refine ⟨fun c3472 => ?_, fun c3472 => ?_⟩
            · replace c3472 := c_neq tx4_5v1735 lit_0 c3472
              exact hp _ _ _  lit_0 hI 
            · replace c3472 := c_eq tx4_5v1735 lit_0 c3472
              exact hp _ _ _  lit_1 hI 
        · replace c3464 := c_nlt tx2 lit_8 c3464
          exact hp _ _ _  lit_0 hI 
set_option maxHeartbeats 4000000 in
set_option maxRecDepth 100000 in
theorem sX3_sideOf_42 {T D : Int} {k : Nat} {post : Int32 → Wd → Prop}   (hp : ∀ (r : Int32) (zr : Int) (w9 : Wd), Ti r zr → IX k T D w9 → post r w9) : ∀ (n : Nat) (x1 : Int32) (x2 : Int32) (x3 : Int32) (zx1 : Int) (zx2 : Int) (zx3 : Int) (w : Wd), Ti x1 zx1 → Ti x2 zx2 → Ti x3 zx3 → IX k T D w → (0 ≤ zx3 ∧ zx3 ≤ 40) → (0 ≤ zx1 ∧ zx1 ≤ 7) → (41 - zx3) < (n : Int) → pX3_sideOf_42   post  n x1 x2 x3 w := by
  intro n
  induction n with
  | zero =>
    intro x1 x2 x3 zx1 zx2 zx3 w tx1 tx2 tx3 hI h0 h1 hm
    exact absurd hm (by omega)
  | succ n ih =>
    intro x1 x2 x3 zx1 zx2 zx3 w tx1 tx2 tx3 hI h0 h1 hm
    unfold pX3_sideOf_42
    have hk := ix_k hI
    obtain ⟨z3473, t3474⟩ := t_any (w.1 70 0)
    have f3475 := ixg_70_0 hI t3474
    refine ⟨fun c3476 => ?_, fun c3476 => ?_⟩
    · replace c3476 := c_le t3474 tx3 c3476
      refine ⟨vp_of tx1 (by omega) (by omega), ?_⟩
      obtain ⟨z3477, t3478⟩ := t_any (w.2.1 79 x1.toNatClampNeg)
      obtain ⟨z3479, t3480⟩ := t_any (w.2.1 79 (0 : Int32).toNatClampNeg)
      refine ⟨fun c3481 => ?_, fun c3481 => ?_⟩
      · replace c3481 := c_neq t3478 t3480 c3481
        exact hp _ _ _  lit_m1 hI 
      · replace c3481 := c_eq t3478 t3480 c3481
        refine ⟨vp_of tx1 (by omega) (by omega), ?_⟩
        obtain ⟨z3482, t3483⟩ := t_any ((w.2.1 80 x1.toNatClampNeg) ^^^ (w.2.1 80 (0 : Int32).toNatClampNeg))
        exact hp _ _ _  t3483 hI 
    · replace c3476 := c_nle t3474 tx3 c3476
      refine sX3_counts   (hI := hI) (tx1 := tx3) (tx2 := lit_3) (tx3 := tx2)  (hp := fun r_3v1737 zr_3v1737 tr_3v1737 => ?_)
      refine ⟨fun c3484 => ?_, fun c3484 => ?_⟩
      · replace c3484 := c_eq tr_3v1737 lit_0 c3484
        unfold pX3_sideOf_88
        obtain ⟨z3485, t3486, f3487⟩ := t_add tx3 lit_1
        first | replace f3487 := f3487 (by omega) | clear f3487
        intro x3_1v1743 ex3_1v1743
        have tx3_1v1743 : Ti x3_1v1743 z3485 := by rw [ex3_1v1743]; exact t3486
        exact ih _ _ _ _ _ _ _ tx1 tx2 tx3_1v1743 hI (by omega) (by omega) (by omega)
      · replace c3484 := c_neq tr_3v1737 lit_0 c3484
        refine ⟨vp_of tx3 (by omega) (by omega), ?_⟩
        refine ⟨vp_of tx3 (by omega) (by omega), ?_⟩
        refine ⟨vp_of tx3 (by omega) (by omega), ?_⟩
        obtain ⟨z3488, t3489⟩ := t_any (w.2.1 74 x3.toNatClampNeg)
        obtain ⟨z3490, t3491⟩ := t_any (w.2.1 75 x3.toNatClampNeg)
        obtain ⟨z3492, t3493⟩ := t_any (w.2.1 76 x3.toNatClampNeg)
        refine sX3_join   (hI := hI) (tx1 := t3489) (tx2 := t3491) (tx3 := t3493)  (hp := fun r_6v1741 zr_6v1741 w_7v1742  tr_6v1741 hIw_7v1742  => ?_)
        refine ⟨fun c3494 => ?_, fun c3494 => ?_⟩
        · replace c3494 := c_neq tr_6v1741 lit_0 c3494
          unfold pX3_sideOf_88
          obtain ⟨z3495, t3496, f3497⟩ := t_add tx3 lit_1
          first | replace f3497 := f3497 (by omega) | clear f3497
          intro x3_1v1744 ex3_1v1744
          have tx3_1v1744 : Ti x3_1v1744 z3495 := by rw [ex3_1v1744]; exact t3496
          exact ih _ _ _ _ _ _ _ tx1 tx2 tx3_1v1744 hIw_7v1742 (by omega) (by omega) (by omega)
        · replace c3494 := c_eq tr_6v1741 lit_0 c3494
          exact hp _ _ _  lit_m2 hIw_7v1742 
set_option maxHeartbeats 4000000 in
set_option maxRecDepth 100000 in
theorem sX3_sideOf_14 {T D : Int} {k : Nat} {post : Int32 → Wd → Prop}   (hp : ∀ (r : Int32) (zr : Int) (w9 : Wd), Ti r zr → IX k T D w9 → post r w9) : ∀ (n : Nat) (x1 : Int32) (x2 : Int32) (x3 : Int32) (zx1 : Int) (zx2 : Int) (zx3 : Int) (w : Wd), Ti x1 zx1 → Ti x2 zx2 → Ti x3 zx3 → IX k T D w → (0 ≤ zx3 ∧ zx3 ≤ 8) → (0 ≤ zx1 ∧ zx1 ≤ 7) → (9 - zx3) < (n : Int) → pX3_sideOf_14   post  n x1 x2 x3 w := by
  intro n
  induction n with
  | zero =>
    intro x1 x2 x3 zx1 zx2 zx3 w tx1 tx2 tx3 hI h0 h1 hm
    exact absurd hm (by omega)
  | succ n ih =>
    intro x1 x2 x3 zx1 zx2 zx3 w tx1 tx2 tx3 hI h0 h1 hm
    unfold pX3_sideOf_14
    have hk := ix_k hI
    refine ⟨fun c3498 => ?_, fun c3498 => ?_⟩
    · replace c3498 := c_le lit_8 tx3 c3498
      exact ⟨70000, sX3_sideOf_42   (hp := hp) 70000 _ _ _ _ _ _ _ tx1 tx2 lit_0 hI (by omega) (by omega) (by omega)⟩
    · replace c3498 := c_nle lit_8 tx3 c3498
      refine ⟨vp_of tx3 (by omega) (by omega), ?_⟩
      intro w_2v1745 ew_2v1745
      have hIw_2v1745 := ixs_A hI ew_2v1745 (by decide)
      refine ⟨vp_of tx3 (by omega) (by omega), ?_⟩
      intro w_3v1746 ew_3v1746
      have hIw_3v1746 := ixs_A hIw_2v1745 ew_3v1746 (by decide)
      obtain ⟨z3499, t3500, f3501⟩ := t_add tx3 lit_1
      first | replace f3501 := f3501 (by omega) | clear f3501
      intro x3_4v1747 ex3_4v1747
      have tx3_4v1747 : Ti x3_4v1747 z3499 := by rw [ex3_4v1747]; exact t3500
      exact ih _ _ _ _ _ _ _ tx1 tx2 tx3_4v1747 hIw_3v1746 (by omega) (by omega) (by omega)
set_option maxHeartbeats 4000000 in
set_option maxRecDepth 100000 in
theorem sX3_sideOf {T D : Int} {k : Nat} {post : Int32 → Wd → Prop} {x1 : Int32} {zx1 : Int} {x2 : Int32} {zx2 : Int} {w : Wd}  (tx1 : Ti x1 zx1) (tx2 : Ti x2 zx2) (hI : IX k T D w)  (hp : ∀ (r : Int32) (zr : Int) (w9 : Wd), Ti r zr → IX k T D w9 → post r w9) : pX3_sideOf   post  x1 x2 w := by
  unfold pX3_sideOf
  have hk := ix_k hI
  refine ⟨fun c3502 => ?_, fun c3502 => ?_⟩
  · replace c3502 := c_lt tx1 lit_0 c3502
    exact hp _ _ _  lit_m1 hI 
  · replace c3502 := c_nlt tx1 lit_0 c3502
    refine ⟨fun c3503 => ?_, fun c3503 => ?_⟩
    · replace c3503 := c_lt tx1 lit_8 c3503
      exact ⟨70000, sX3_sideOf_14   (hp := hp) 70000 _ _ _ _ _ _ _ tx1 tx2 lit_0 hI (by omega) (by omega) (by omega)⟩
    · replace c3503 := c_nlt tx1 lit_8 c3503
      exact hp _ _ _  lit_m1 hI 
set_option maxHeartbeats 4000000 in
set_option maxRecDepth 100000 in
theorem sX10_backward {T D : Int} {k : Nat} {post : Int32 → Wd → Prop} {x1 : Int32} {zx1 : Int} {x2 : Int32} {zx2 : Int} {w : Wd}  (tx1 : Ti x1 zx1) (tx2 : Ti x2 zx2) (hI : IX k T D w)  (hp : ∀ (r : Int32) (zr : Int) (w9 : Wd), Ti r zr → IX k T D w9 → post r w9) : pX10_backward   post  x1 x2 w := by
  unfold pX10_backward
  have hk := ix_k hI
  refine sX10_isPaper   (hI := hI) (tx0 := tx1)  (hp := fun r_1v1748 zr_1v1748 tr_1v1748 p3504 => ?_)
  refine ⟨fun c3505 => ?_, fun c3505 => ?_⟩
  · replace c3505 := c_eq tr_1v1748 lit_0 c3505
    exact hp _ _ _  lit_m1 hI 
  · replace c3505 := c_neq tr_1v1748 lit_0 c3505
    refine sX3_sideOf   (hI := hI) (tx1 := tx1) (tx2 := tx2)  (hp := fun r_4v1752 zr_4v1752 w_5v1753  tr_4v1752 hIw_5v1753  => ?_)
    exact hp _ _ _  tr_4v1752 hIw_5v1753 
set_option maxHeartbeats 4000000 in
set_option maxRecDepth 100000 in
theorem sX10_lies {T D : Int} {k : Nat} {post : Int32 → Wd → Prop} {x1 : Int32} {zx1 : Int} {w : Wd}  (tx1 : Ti x1 zx1) (hI : IX k T D w)  (hp : ∀ (r : Int32) (zr : Int), Ti r zr → post r w) : pX10_lies   post  x1 w := by
  unfold pX10_lies
  have hk := ix_k hI
  refine ⟨fun c3506 => ?_, fun c3506 => ?_⟩
  · replace c3506 := c_lt tx1 lit_0 c3506
    exact hp _ _ lit_m2 
  · replace c3506 := c_nlt tx1 lit_0 c3506
    obtain ⟨z3507, t3508⟩ := t_any (w.1 110 1)
    have f3509 := ixg_110_1 hI t3508
    refine ⟨fun c3510 => ?_, fun c3510 => ?_⟩
    · replace c3510 := c_lt tx1 t3508 c3510
      refine ⟨vp_of tx1 (by omega) (by omega), ?_⟩
      obtain ⟨z3511, t3512⟩ := t_any (w.2.1 111 x1.toNatClampNeg)
      exact hp _ _ t3512 
    · replace c3510 := c_nlt tx1 t3508 c3510
      exact hp _ _ lit_m2 
theorem sX2_copyPrints {T D : Int} {k : Nat} {post : Wd → Prop} {c c1 : Nat} {w : Wd} (hI : IX k T D w) (hp : ∀ (w9 : Wd), IX k T D w9 → post w9) : pX2_copyPrints post (160 + 20 * c) (160 + 20 * c1) w := by
  unfold pX2_copyPrints
  obtain ⟨z, t⟩ := t_any (w.1 (160 + 20 * c1) 6)
  have b := Rg.g (hI.2.2.2.2.2.2.2.2.2.2.1 c1).2 t
  intro w_1 e1
  have i1 := ixs_c6 hI e1 t b.1 b.2
  intro w_2 e2
  have i2 := ixs_C i1 e2 (by omega)
  intro w_3 e3
  have i3 := ixs_C i2 e3 (by omega)
  intro w_4 e4
  exact hp _ (ixs_C i3 e4 (by omega))
theorem sX2_copySeals {T D : Int} {k : Nat} {post : Wd → Prop} {c c1 : Nat} {w : Wd} (hI : IX k T D w) (hp : ∀ (w9 : Wd), IX k T D w9 → post w9) : pX2_copySeals post (160 + 20 * c) (160 + 20 * c1) w := by
  unfold pX2_copySeals
  obtain ⟨z, t⟩ := t_any (w.1 (160 + 20 * c1) 0)
  have b := Rg.g (hI.2.2.2.2.2.2.2.2.2.2.1 c1).1 t
  intro w_1 e1
  have i1 := ixs_c0 hI e1 t b.1 b.2
  intro w_2 e2
  have i2 := ixs_C i1 e2 (by omega)
  intro w_3 e3
  have i3 := ixs_C i2 e3 (by omega)
  intro w_4 e4
  have i4 := ixs_C i3 e4 (by omega)
  intro w_5 e5
  have i5 := ixs_C i4 e5 (by omega)
  intro w_6 e6
  exact hp _ (ixs_C i5 e6 (by omega))
theorem sX2_copyFrom {T D : Int} {k : Nat} {post : Wd → Prop} {c c1 : Nat} {w : Wd} (hI : IX k T D w) (hp : ∀ (w9 : Wd), IX k T D w9 → post w9) : pX2_copyFrom post (160 + 20 * c) (160 + 20 * c1) w := by
  unfold pX2_copyFrom
  refine sX2_copySeals hI (fun w_1 i1 => ?_)
  refine sX2_copyPrints i1 (fun w_2 i2 => ?_)
  intro w_3 e3
  have i3 := ixs_n i2 e3 (by unfold nX; omega)
  intro w_4 e4
  have i4 := ixs_n i3 e4 (by unfold nX; omega)
  intro w_5 e5
  exact hp _ (ixs_n i4 e5 (by unfold nX; omega))
theorem i_cz {x : Int32} {z : Int} (t : Ti x z) : x.toNatClampNeg = z.toNat := by
  have t : x.toInt = z := t
  rw [← t]; rfl
theorem sX10_image {T D : Int} {k : Nat} {post : Int32 → Wd → Prop} {x1 : Int32} {zx1 : Int} {w : Wd} (tx1 : Ti x1 zx1) (hI : IX k T D w) (hp : ∀ (r : Int32) (zr : Int) (w9 : Wd), Ti r zr → IX k T D w9 → post r w9) : pX10_image post x1 w := by
  unfold pX10_image
  refine ⟨fun c => hp _ _ _ lit_m1 hI, fun c => ⟨fun c2 => ?_, fun c2 => hp _ _ _ lit_m1 hI⟩⟩
  replace c := c_nlt tx1 lit_0 c
  replace c2 := c_lt tx1 lit_3 c2
  have e0 := i_cz tx1
  have e : 180 + 20 * x1.toNatClampNeg = 160 + 20 * (x1.toNatClampNeg + 1) := by omega
  refine ⟨vp_of tx1 (by omega) (by omega), by unfold cOk; omega, ?_⟩
  rw [e]
  refine sX2_copyFrom (c := x1.toNatClampNeg + 1) (c1 := 0) hI (fun w_3 i3 => ?_)
  refine ⟨vp_of tx1 (by omega) (by omega), ?_⟩
  intro w_4 e4
  exact hp _ _ _ rfl (ixs_A i3 e4 (by decide))
theorem sX10_back {T D : Int} {k : Nat} {post : Int32 → Wd → Prop} {x1 : Int32} {zx1 : Int} {w : Wd} (tx1 : Ti x1 zx1) (hI : IX k T D w) (hp : ∀ (r : Int32) (zr : Int) (w9 : Wd) (D9 : Int), Ti r zr → IX k T D9 w9 → post r w9) : pX10_back post x1 w := by
  unfold pX10_back
  refine ⟨fun c => hp _ _ _ _ lit_m1 hI, fun c => ⟨fun c2 => hp _ _ _ _ lit_m1 hI, fun c2 => ?_⟩⟩
  replace c := c_nlt tx1 lit_0 c
  replace c2 := c_nle lit_3 tx1 c2
  have e0 := i_cz tx1
  have e : 180 + 20 * x1.toNatClampNeg = 160 + 20 * (x1.toNatClampNeg + 1) := by omega
  refine ⟨vp_of tx1 (by omega) (by omega), fun c3 => ?_, fun c3 => hp _ _ _ _ lit_m1 hI⟩
  refine ⟨vp_of tx1 (by omega) (by omega), by unfold cOk; omega, ?_⟩
  rw [e]
  refine sX2_copyFrom (c := 0) (c1 := x1.toNatClampNeg + 1) hI (fun w_4 i4 => ?_)
  exact sX0_forget (hI := i4) (hp := fun w_5 i5 => hp _ _ _ _ rfl i5)
set_option maxHeartbeats 4000000 in
set_option maxRecDepth 100000 in
theorem sX10_about {T D : Int} {k : Nat} {post : Int32 → Wd → Prop} {x1 : Int32} {zx1 : Int} {w : Wd}  (tx1 : Ti x1 zx1) (hI : IX k T D w)  (hp : ∀ (r : Int32) (zr : Int), Ti r zr → post r w) : pX10_about   post  x1 w := by
  unfold pX10_about
  have hk := ix_k hI
  refine ⟨fun c3513 => ?_, fun c3513 => ?_, fun c3513 => ?_, fun c3513 => ?_, fun c3513 => ?_, fun c3513 => ?_, fun c3513 => ?_, fun c3513 => ?_, fun c3513 => ?_, fun c3513 => ?_, fun c3513 => ?_, fun c3513 => ?_, fun c3513 => ?_, fun c3513 => ?_, fun c3513 => ?_⟩
  · rw [show x1.toInt = zx1 from tx1] at c3513
    exact hp _ _ lit_m1 
  · rw [show x1.toInt = zx1 from tx1] at c3513
    obtain ⟨z3514, t3515⟩ := t_any (w.1 (rl (w.2.2.2.2 0)) 2)
    have f3516 := ixg_r2 hI t3515
    exact hp _ _ t3515 
  · rw [show x1.toInt = zx1 from tx1] at c3513
    obtain ⟨z3517, t3518⟩ := t_any (w.1 (rl (w.2.2.2.2 0)) 0)
    have f3519 := ixg_r0 hI t3518
    exact hp _ _ t3518 
  · rw [show x1.toInt = zx1 from tx1] at c3513
    obtain ⟨z3520, t3521⟩ := t_any (w.1 160 0)
    have f3522 := ixg_c0 hI t3521
    exact hp _ _ t3521 
  · rw [show x1.toInt = zx1 from tx1] at c3513
    obtain ⟨z3523, t3524⟩ := t_any (w.1 160 6)
    have f3525 := ixg_c6 hI t3524
    exact hp _ _ t3524 
  · rw [show x1.toInt = zx1 from tx1] at c3513
    obtain ⟨z3526, t3527⟩ := t_any (w.1 160 11)
    exact hp _ _ t3527 
  · rw [show x1.toInt = zx1 from tx1] at c3513
    obtain ⟨z3528, t3529⟩ := t_any (w.1 160 12)
    exact hp _ _ t3529 
  · rw [show x1.toInt = zx1 from tx1] at c3513
    obtain ⟨z3530, t3531⟩ := t_any (w.1 160 13)
    exact hp _ _ t3531 
  · rw [show x1.toInt = zx1 from tx1] at c3513
    obtain ⟨z3532, t3533⟩ := t_any (w.1 50 7)
    have f3534 := ixg_50_7 hI t3533
    exact hp _ _ t3533 
  · rw [show x1.toInt = zx1 from tx1] at c3513
    obtain ⟨z3535, t3536⟩ := t_any (w.1 50 8)
    exact hp _ _ t3536 
  · rw [show x1.toInt = zx1 from tx1] at c3513
    obtain ⟨z3537, t3538⟩ := t_any (w.1 70 0)
    have f3539 := ixg_70_0 hI t3538
    exact hp _ _ t3538 
  · rw [show x1.toInt = zx1 from tx1] at c3513
    obtain ⟨z3540, t3541⟩ := t_any (w.1 70 1)
    have f3542 := ixg_70_1 hI t3541
    exact hp _ _ t3541 
  · rw [show x1.toInt = zx1 from tx1] at c3513
    obtain ⟨z3543, t3544⟩ := t_any (w.1 0 13)
    have f3545 := ixg_0_13 hI t3544
    exact hp _ _ t3544 
  · rw [show x1.toInt = zx1 from tx1] at c3513
    obtain ⟨z3546, t3547⟩ := t_any (w.1 (rl (w.2.2.2.2 0)) 5)
    exact hp _ _ t3547 
  · rw [show x1.toInt = zx1 from tx1] at c3513
    obtain ⟨z3548, t3549⟩ := t_any (w.1 110 1)
    have f3550 := ixg_110_1 hI t3549
    exact hp _ _ t3549 
