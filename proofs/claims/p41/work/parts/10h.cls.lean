set_option maxHeartbeats 4000000 in
set_option maxRecDepth 100000 in
theorem sX5_joinClans_2 {T D : Int} {k : Nat} {post : Wd → Prop}   (hp : ∀ (w9 : Wd), IX k T D w9 → post w9) : ∀ (n : Nat) (x1 : Int32) (x2 : Int32) (zx1 : Int) (zx2 : Int) (w : Wd), Ti x1 zx1 → Ti x2 zx2 → IX k T D w → (0 ≤ zx2 ∧ zx2 ≤ 7) → (8 - zx2) < (n : Int) → pX5_joinClans_2   post  n x1 x2 w := by
  intro n
  induction n with
  | zero =>
    intro x1 x2 zx1 zx2 w tx1 tx2 hI h0 hm
    exact absurd hm (by omega)
  | succ n ih =>
    intro x1 x2 zx1 zx2 w tx1 tx2 hI h0 hm
    unfold pX5_joinClans_2
    have hk := ix_k hI
    obtain ⟨z3223, t3224⟩ := t_any (w.1 90 0)
    have f3225 := ixg_90_0 hI t3224
    refine ⟨fun c3226 => ?_, fun c3226 => ?_⟩
    · replace c3226 := c_le t3224 tx2 c3226
      exact ⟨70000, sX5_joinClans_25    (hp := hp) 70000 _ _ _ _ _ tx1 lit_0 hI (by omega) (by omega)⟩
    · replace c3226 := c_nle t3224 tx2 c3226
      refine ⟨vp_of tx2 (by omega) (by omega), ?_⟩
      intro w_2v1650 ew_2v1650
      have hIw_2v1650 := ixs_A hI ew_2v1650 (by decide)
      obtain ⟨z3227, t3228, f3229⟩ := t_add tx2 lit_1
      first | replace f3229 := f3229 (by omega) | clear f3229
      intro x2_3v1651 ex2_3v1651
      have tx2_3v1651 : Ti x2_3v1651 z3227 := by rw [ex2_3v1651]; exact t3228
      exact ih _ _ _ _ _ tx1 tx2_3v1651 hIw_2v1650 (by omega) (by omega)
set_option maxHeartbeats 4000000 in
set_option maxRecDepth 100000 in
theorem sX5_joinClans {T D : Int} {k : Nat} {post : Wd → Prop} {x1 : Int32} {zx1 : Int} {w : Wd}  (tx1 : Ti x1 zx1) (hI : IX k T D w)  (hp : ∀ (w9 : Wd), IX k T D w9 → post w9) : pX5_joinClans   post  x1 w := by
  unfold pX5_joinClans
  have hk := ix_k hI
  exact ⟨70000, sX5_joinClans_2    (hp := hp) 70000 _ _ _ _ _ tx1 lit_0 hI (by omega) (by omega)⟩
set_option maxHeartbeats 4000000 in
set_option maxRecDepth 100000 in
theorem sX5_largestClan_17 {T D : Int} {k : Nat} {k4 : Int32 → Int32 → Wd → Prop} {M4 : Int} {post : Int32 → Wd → Prop} {w : Wd} (hk4 : ∀ (x1 : Int32) (x2 : Int32) (zx1 : Int) (zx2 : Int), Ti x1 zx1 → Ti x2 zx2 → IX k T D w → (0 ≤ zx2 ∧ zx2 ≤ 7) → (8 - zx2) < M4 → k4 x1 x2 w) (hp : ∀ (r : Int32) (zr : Int), Ti r zr → post r w) : ∀ (n : Nat) (x1 : Int32) (x2 : Int32) (x3 : Int32) (x4 : Int32) (zx1 : Int) (zx2 : Int) (zx3 : Int) (zx4 : Int), Ti x1 zx1 → Ti x2 zx2 → Ti x3 zx3 → Ti x4 zx4 → IX k T D w → (0 ≤ zx4 ∧ zx4 ≤ 7) → (zx2 ≤ 6) → (0 ≤ zx2 ∧ zx2 ≤ 7) → ((8 - zx2) ≤ M4) → (8 - zx4) < (n : Int) → pX5_largestClan_17 k4  post  n x1 x2 x3 x4 w := by
  intro n
  induction n with
  | zero =>
    intro x1 x2 x3 x4 zx1 zx2 zx3 zx4  tx1 tx2 tx3 tx4 hI h0 h1 h2 h3 hm
    exact absurd hm (by omega)
  | succ n ih =>
    intro x1 x2 x3 x4 zx1 zx2 zx3 zx4  tx1 tx2 tx3 tx4 hI h0 h1 h2 h3 hm
    unfold pX5_largestClan_17
    have hk := ix_k hI
    obtain ⟨z3230, t3231⟩ := t_any (w.1 90 0)
    have f3232 := ixg_90_0 hI t3231
    refine ⟨fun c3233 => ?_, fun c3233 => ?_⟩
    · replace c3233 := c_le t3231 tx4 c3233
      obtain ⟨z3234, t3235, f3236⟩ := t_ite tx1 tx3 tx3 tx1
      intro x1_2v1652 ex1_2v1652
      have tx1_2v1652 : Ti x1_2v1652 z3234 := by rw [ex1_2v1652]; exact t3235
      obtain ⟨z3237, t3238, f3239⟩ := t_add tx2 lit_1
      first | replace f3239 := f3239 (by omega) | clear f3239
      intro x2_3v1653 ex2_3v1653
      have tx2_3v1653 : Ti x2_3v1653 z3237 := by rw [ex2_3v1653]; exact t3238
      exact hk4 _ _ _ _  tx1_2v1652 tx2_3v1653 hI (by omega) (by omega)
    · replace c3233 := c_nle t3231 tx4 c3233
      refine ⟨vp_of tx4 (by omega) (by omega), ?_⟩
      obtain ⟨z3240, t3241⟩ := t_any (w.2.1 100 x4.toNatClampNeg)
      refine ⟨fun c3242 => ?_, fun c3242 => ?_⟩
      · replace c3242 := c_neq t3241 tx2 c3242
        unfold pX5_largestClan_43
        obtain ⟨z3243, t3244, f3245⟩ := t_add tx3 lit_0
        first | replace f3245 := f3245 (by omega) | clear f3245
        intro x3_1v1654 ex3_1v1654
        have tx3_1v1654 : Ti x3_1v1654 z3243 := by rw [ex3_1v1654]; exact t3244
        obtain ⟨z3246, t3247, f3248⟩ := t_add tx4 lit_1
        first | replace f3248 := f3248 (by omega) | clear f3248
        intro x4_2v1655 ex4_2v1655
        have tx4_2v1655 : Ti x4_2v1655 z3246 := by rw [ex4_2v1655]; exact t3247
        exact ih _ _ _ _ _ _ _ _  tx1 tx2 tx3_1v1654 tx4_2v1655 hI (by omega) (by omega) (by omega) (by omega) (by omega)
      · replace c3242 := c_eq t3241 tx2 c3242
        unfold pX5_largestClan_43
        obtain ⟨z3249, t3250, f3251⟩ := t_add tx3 lit_1
        first | replace f3251 := f3251 (by omega) | clear f3251
        intro x3_1v1656 ex3_1v1656
        have tx3_1v1656 : Ti x3_1v1656 z3249 := by rw [ex3_1v1656]; exact t3250
        obtain ⟨z3252, t3253, f3254⟩ := t_add tx4 lit_1
        first | replace f3254 := f3254 (by omega) | clear f3254
        intro x4_2v1657 ex4_2v1657
        have tx4_2v1657 : Ti x4_2v1657 z3252 := by rw [ex4_2v1657]; exact t3253
        exact ih _ _ _ _ _ _ _ _  tx1 tx2 tx3_1v1656 tx4_2v1657 hI (by omega) (by omega) (by omega) (by omega) (by omega)
set_option maxHeartbeats 4000000 in
set_option maxRecDepth 100000 in
theorem sX5_largestClan_4 {T D : Int} {k : Nat} {post : Int32 → Wd → Prop} {w : Wd}  (hp : ∀ (r : Int32) (zr : Int), Ti r zr → post r w) : ∀ (n : Nat) (x1 : Int32) (x2 : Int32) (zx1 : Int) (zx2 : Int), Ti x1 zx1 → Ti x2 zx2 → IX k T D w → (0 ≤ zx2 ∧ zx2 ≤ 7) → (8 - zx2) < (n : Int) → pX5_largestClan_4   post  n x1 x2 w := by
  intro n
  induction n with
  | zero =>
    intro x1 x2 zx1 zx2  tx1 tx2 hI h0 hm
    exact absurd hm (by omega)
  | succ n ih =>
    intro x1 x2 zx1 zx2  tx1 tx2 hI h0 hm
    unfold pX5_largestClan_4
    have hk := ix_k hI
    obtain ⟨z3255, t3256⟩ := t_any (w.1 90 0)
    have f3257 := ixg_90_0 hI t3256
    refine ⟨fun c3258 => ?_, fun c3258 => ?_⟩
    · replace c3258 := c_le t3256 tx2 c3258
      exact hp _ _ tx1 
    · replace c3258 := c_nle t3256 tx2 c3258
      exact ⟨70000, sX5_largestClan_17  (M4 := (n : Int)) (hk4 := ih)  (hp := hp) 70000 _ _ _ _ _ _ _ _  tx1 tx2 lit_0 lit_0 hI (by omega) (by omega) (by omega) (by omega) (by omega)⟩
set_option maxHeartbeats 4000000 in
set_option maxRecDepth 100000 in
theorem sX5_largestClan {T D : Int} {k : Nat} {post : Int32 → Wd → Prop}  {w : Wd}   (hI : IX k T D w)  (hp : ∀ (r : Int32) (zr : Int), Ti r zr → post r w) : pX5_largestClan   post   w := by
  unfold pX5_largestClan
  have hk := ix_k hI
  exact ⟨70000, sX5_largestClan_4    (hp := hp) 70000 _ _ _ _  lit_0 lit_0 hI (by omega) (by omega)⟩
set_option maxHeartbeats 4000000 in
set_option maxRecDepth 100000 in
theorem sX10_clans {T D : Int} {k : Nat} {post : Int32 → Wd → Prop} {x1 : Int32} {zx1 : Int} {x2 : Int32} {zx2 : Int} {x3 : Int32} {zx3 : Int} {w : Wd}  (tx1 : Ti x1 zx1) (tx2 : Ti x2 zx2) (tx3 : Ti x3 zx3) (hI : IX k T D w)  (hp : ∀ (r : Int32) (zr : Int) (w9 : Wd), Ti r zr → IX k T D w9 → post r w9) : pX10_clans   post  x1 x2 x3 w := by
  unfold pX10_clans
  have hk := ix_k hI
  refine ⟨fun c3259 => ?_, fun c3259 => ?_⟩
  · replace c3259 := c_lt tx1 lit_0 c3259
    exact hp _ _ _  lit_m1 hI 
  · replace c3259 := c_nlt tx1 lit_0 c3259
    refine ⟨fun c3260 => ?_, fun c3260 => ?_⟩
    · replace c3260 := c_lt lit_24 tx1 c3260
      exact hp _ _ _  lit_m1 hI 
    · replace c3260 := c_nlt lit_24 tx1 c3260
      refine ⟨fun c3261 => ?_, fun c3261 => ?_⟩
      · replace c3261 := c_lt tx2 lit_0 c3261
        exact hp _ _ _  lit_m1 hI 
      · replace c3261 := c_nlt tx2 lit_0 c3261
        refine ⟨fun c3262 => ?_, fun c3262 => ?_⟩
        · replace c3262 := c_le tx2 lit_1 c3262
          obtain ⟨z3263, t3264⟩ := t_any (w.1 (rl (w.2.2.2.2 0)) 0)
          have f3265 := ixg_r0 hI t3264
          refine sX5_gather   (hI := hI) (tx2 := tx3) (tx3 := t3264)  (hp := fun  w_5v1658   hIw_5v1658  => ?_)
          refine sX5_joinClans   (hI := hIw_5v1658) (tx1 := tx1)  (hp := fun  w_6v1659   hIw_6v1659  => ?_)
          refine ⟨fun c3266 => ?_, fun c3266 => ?_⟩
          · replace c3266 := c_neq tx2 lit_0 c3266
            refine sX5_largestClan   (hI := hIw_6v1659)   (hp := fun r_8v1660 zr_8v1660 tr_8v1660 => ?_)
            exact hp _ _ _  tr_8v1660 hIw_6v1659 
          · replace c3266 := c_eq tx2 lit_0 c3266
            refine sX5_clanCount   (hI := hIw_6v1659)   (hp := fun r_10v1662 zr_10v1662 tr_10v1662 => ?_)
            exact hp _ _ _  tr_10v1662 hIw_6v1659 
        · replace c3262 := c_nle tx2 lit_1 c3262
          exact hp _ _ _  lit_m1 hI 
set_option maxHeartbeats 4000000 in
set_option maxRecDepth 100000 in
theorem sX10_samplesWith_6 {T D : Int} {k : Nat} {post : Int32 → Wd → Prop} {w : Wd}  (hp : ∀ (r : Int32) (zr : Int), Ti r zr → post r w) : ∀ (n : Nat) (x1 : Int32) (x2 : Int32) (x3 : Int32) (x4 : Int32) (x5 : Int32) (zx1 : Int) (zx2 : Int) (zx3 : Int) (zx4 : Int) (zx5 : Int), Ti x1 zx1 → Ti x2 zx2 → Ti x3 zx3 → Ti x4 zx4 → Ti x5 zx5 → IX k T D w → (0 ≤ zx5 ∧ zx5 ≤ 40) → (41 - zx5) < (n : Int) → pX10_samplesWith_6   post  n x1 x2 x3 x4 x5 w := by
  intro n
  induction n with
  | zero =>
    intro x1 x2 x3 x4 x5 zx1 zx2 zx3 zx4 zx5  tx1 tx2 tx3 tx4 tx5 hI h0 hm
    exact absurd hm (by omega)
  | succ n ih =>
    intro x1 x2 x3 x4 x5 zx1 zx2 zx3 zx4 zx5  tx1 tx2 tx3 tx4 tx5 hI h0 hm
    unfold pX10_samplesWith_6
    have hk := ix_k hI
    obtain ⟨z3267, t3268⟩ := t_any (w.1 70 0)
    have f3269 := ixg_70_0 hI t3268
    refine ⟨fun c3270 => ?_, fun c3270 => ?_⟩
    · replace c3270 := c_le t3268 tx5 c3270
      exact hp _ _ tx4 
    · replace c3270 := c_nle t3268 tx5 c3270
      refine sX3_counts   (hI := hI) (tx1 := tx5) (tx2 := lit_0) (tx3 := tx3)  (hp := fun r_2v1664 zr_2v1664 tr_2v1664 => ?_)
      refine ⟨fun c3271 => ?_, fun c3271 => ?_⟩
      · replace c3271 := c_eq tr_2v1664 lit_0 c3271
        unfold pX10_samplesWith_103
        obtain ⟨z3272, t3273, f3274⟩ := t_add tx5 lit_1
        first | replace f3274 := f3274 (by omega) | clear f3274
        intro x5_1v1666 ex5_1v1666
        have tx5_1v1666 : Ti x5_1v1666 z3272 := by rw [ex5_1v1666]; exact t3273
        exact ih _ _ _ _ _ _ _ _ _ _  tx1 tx2 tx3 tx4 tx5_1v1666 hI (by omega) (by omega)
      · replace c3271 := c_neq tr_2v1664 lit_0 c3271
        refine ⟨vp_of tx5 (by omega) (by omega), ?_⟩
        obtain ⟨z3275, t3276⟩ := t_any (w.2.1 76 x5.toNatClampNeg)
        refine ⟨fun c3277 => ?_, fun c3277 => ?_⟩
        · replace c3277 := c_eq t3276 lit_0 c3277
          unfold pX10_samplesWith_60
          refine ⟨vp_of tx5 (by omega) (by omega), ?_⟩
          obtain ⟨z3278, t3279, f3280⟩ := t_and (x := ((w.2.1 74 x5.toNatClampNeg) >>> (x1 &&& 31))) lit_1 (by decide)
          refine ⟨fun c3281 => ?_, fun c3281 => ?_⟩
          · replace c3281 := c_eq t3279 lit_0 c3281
            unfold pX10_samplesWith_85
            refine ⟨fun c3282 => ?_, fun c3282 => ?_⟩
            · replace c3282 := c_neq lit_0 tx2 c3282
              unfold pX10_samplesWith_100
              obtain ⟨z3283, t3284, f3285⟩ := t_add tx4 lit_0
              first | replace f3285 := f3285 (by omega) | clear f3285
              intro x4_1v1667 ex4_1v1667
              have tx4_1v1667 : Ti x4_1v1667 z3283 := by rw [ex4_1v1667]; exact t3284
              unfold pX10_samplesWith_103
              obtain ⟨z3286, t3287, f3288⟩ := t_add tx5 lit_1
              first | replace f3288 := f3288 (by omega) | clear f3288
              intro x5_1v1668 ex5_1v1668
              have tx5_1v1668 : Ti x5_1v1668 z3286 := by rw [ex5_1v1668]; exact t3287
              exact ih _ _ _ _ _ _ _ _ _ _  tx1 tx2 tx3 tx4_1v1667 tx5_1v1668 hI (by omega) (by omega)
            · replace c3282 := c_eq lit_0 tx2 c3282
              unfold pX10_samplesWith_100
              obtain ⟨z3289, t3290, f3291⟩ := t_add tx4 lit_1
              first | replace f3291 := f3291 (by omega) | clear f3291
              intro x4_1v1669 ex4_1v1669
              have tx4_1v1669 : Ti x4_1v1669 z3289 := by rw [ex4_1v1669]; exact t3290
              unfold pX10_samplesWith_103
              obtain ⟨z3292, t3293, f3294⟩ := t_add tx5 lit_1
              first | replace f3294 := f3294 (by omega) | clear f3294
              intro x5_1v1670 ex5_1v1670
              have tx5_1v1670 : Ti x5_1v1670 z3292 := by rw [ex5_1v1670]; exact t3293
              exact ih _ _ _ _ _ _ _ _ _ _  tx1 tx2 tx3 tx4_1v1669 tx5_1v1670 hI (by omega) (by omega)
          · replace c3281 := c_neq t3279 lit_0 c3281
            unfold pX10_samplesWith_85
            refine ⟨fun c3295 => ?_, fun c3295 => ?_⟩
            · replace c3295 := c_neq lit_1 tx2 c3295
              unfold pX10_samplesWith_100
              obtain ⟨z3296, t3297, f3298⟩ := t_add tx4 lit_0
              first | replace f3298 := f3298 (by omega) | clear f3298
              intro x4_1v1671 ex4_1v1671
              have tx4_1v1671 : Ti x4_1v1671 z3296 := by rw [ex4_1v1671]; exact t3297
              unfold pX10_samplesWith_103
              obtain ⟨z3299, t3300, f3301⟩ := t_add tx5 lit_1
              first | replace f3301 := f3301 (by omega) | clear f3301
              intro x5_1v1672 ex5_1v1672
              have tx5_1v1672 : Ti x5_1v1672 z3299 := by rw [ex5_1v1672]; exact t3300
              exact ih _ _ _ _ _ _ _ _ _ _  tx1 tx2 tx3 tx4_1v1671 tx5_1v1672 hI (by omega) (by omega)
            · replace c3295 := c_eq lit_1 tx2 c3295
              unfold pX10_samplesWith_100
              obtain ⟨z3302, t3303, f3304⟩ := t_add tx4 lit_1
              first | replace f3304 := f3304 (by omega) | clear f3304
              intro x4_1v1673 ex4_1v1673
              have tx4_1v1673 : Ti x4_1v1673 z3302 := by rw [ex4_1v1673]; exact t3303
              unfold pX10_samplesWith_103
              obtain ⟨z3305, t3306, f3307⟩ := t_add tx5 lit_1
              first | replace f3307 := f3307 (by omega) | clear f3307
              intro x5_1v1674 ex5_1v1674
              have tx5_1v1674 : Ti x5_1v1674 z3305 := by rw [ex5_1v1674]; exact t3306
              exact ih _ _ _ _ _ _ _ _ _ _  tx1 tx2 tx3 tx4_1v1673 tx5_1v1674 hI (by omega) (by omega)
        · replace c3277 := c_neq t3276 lit_0 c3277
          unfold pX10_samplesWith_60
          refine ⟨vp_of tx5 (by omega) (by omega), ?_⟩
          obtain ⟨z3308, t3309, f3310⟩ := t_and (x := ((w.2.1 74 x5.toNatClampNeg) >>> ((((w.1 (rl (w.2.2.2.2 0)) 0) - (1 : Int32)) - x1) &&& 31))) lit_1 (by decide)
          refine ⟨fun c3311 => ?_, fun c3311 => ?_⟩
          · replace c3311 := c_eq t3309 lit_0 c3311
            unfold pX10_samplesWith_85
            refine ⟨fun c3312 => ?_, fun c3312 => ?_⟩
            · replace c3312 := c_neq lit_0 tx2 c3312
              unfold pX10_samplesWith_100
              obtain ⟨z3313, t3314, f3315⟩ := t_add tx4 lit_0
              first | replace f3315 := f3315 (by omega) | clear f3315
              intro x4_1v1675 ex4_1v1675
              have tx4_1v1675 : Ti x4_1v1675 z3313 := by rw [ex4_1v1675]; exact t3314
              unfold pX10_samplesWith_103
              obtain ⟨z3316, t3317, f3318⟩ := t_add tx5 lit_1
              first | replace f3318 := f3318 (by omega) | clear f3318
              intro x5_1v1676 ex5_1v1676
              have tx5_1v1676 : Ti x5_1v1676 z3316 := by rw [ex5_1v1676]; exact t3317
              exact ih _ _ _ _ _ _ _ _ _ _  tx1 tx2 tx3 tx4_1v1675 tx5_1v1676 hI (by omega) (by omega)
            · replace c3312 := c_eq lit_0 tx2 c3312
              unfold pX10_samplesWith_100
              obtain ⟨z3319, t3320, f3321⟩ := t_add tx4 lit_1
              first | replace f3321 := f3321 (by omega) | clear f3321
              intro x4_1v1677 ex4_1v1677
              have tx4_1v1677 : Ti x4_1v1677 z3319 := by rw [ex4_1v1677]; exact t3320
              unfold pX10_samplesWith_103
              obtain ⟨z3322, t3323, f3324⟩ := t_add tx5 lit_1
              first | replace f3324 := f3324 (by omega) | clear f3324
              intro x5_1v1678 ex5_1v1678
              have tx5_1v1678 : Ti x5_1v1678 z3322 := by rw [ex5_1v1678]; exact t3323
              exact ih _ _ _ _ _ _ _ _ _ _  tx1 tx2 tx3 tx4_1v1677 tx5_1v1678 hI (by omega) (by omega)
          · replace c3311 := c_neq t3309 lit_0 c3311
            unfold pX10_samplesWith_85
            refine ⟨fun c3325 => ?_, fun c3325 => ?_⟩
            · replace c3325 := c_neq lit_1 tx2 c3325
              unfold pX10_samplesWith_100
              obtain ⟨z3326, t3327, f3328⟩ := t_add tx4 lit_0
              first | replace f3328 := f3328 (by omega) | clear f3328
              intro x4_1v1679 ex4_1v1679
              have tx4_1v1679 : Ti x4_1v1679 z3326 := by rw [ex4_1v1679]; exact t3327
              unfold pX10_samplesWith_103
              obtain ⟨z3329, t3330, f3331⟩ := t_add tx5 lit_1
              first | replace f3331 := f3331 (by omega) | clear f3331
              intro x5_1v1680 ex5_1v1680
              have tx5_1v1680 : Ti x5_1v1680 z3329 := by rw [ex5_1v1680]; exact t3330
              exact ih _ _ _ _ _ _ _ _ _ _  tx1 tx2 tx3 tx4_1v1679 tx5_1v1680 hI (by omega) (by omega)
            · replace c3325 := c_eq lit_1 tx2 c3325
              unfold pX10_samplesWith_100
              obtain ⟨z3332, t3333, f3334⟩ := t_add tx4 lit_1
              first | replace f3334 := f3334 (by omega) | clear f3334
              intro x4_1v1681 ex4_1v1681
              have tx4_1v1681 : Ti x4_1v1681 z3332 := by rw [ex4_1v1681]; exact t3333
              unfold pX10_samplesWith_103
              obtain ⟨z3335, t3336, f3337⟩ := t_add tx5 lit_1
              first | replace f3337 := f3337 (by omega) | clear f3337
              intro x5_1v1682 ex5_1v1682
              have tx5_1v1682 : Ti x5_1v1682 z3335 := by rw [ex5_1v1682]; exact t3336
              exact ih _ _ _ _ _ _ _ _ _ _  tx1 tx2 tx3 tx4_1v1681 tx5_1v1682 hI (by omega) (by omega)
set_option maxHeartbeats 4000000 in
set_option maxRecDepth 100000 in
theorem sX10_samplesWith {T D : Int} {k : Nat} {post : Int32 → Wd → Prop} {x1 : Int32} {zx1 : Int} {x2 : Int32} {zx2 : Int} {x3 : Int32} {zx3 : Int} {w : Wd}  (tx1 : Ti x1 zx1) (tx2 : Ti x2 zx2) (tx3 : Ti x3 zx3) (hI : IX k T D w)  (hp : ∀ (r : Int32) (zr : Int), Ti r zr → post r w) : pX10_samplesWith   post  x1 x2 x3 w := by
  unfold pX10_samplesWith
  have hk := ix_k hI
  exact ⟨70000, sX10_samplesWith_6    (hp := hp) 70000 _ _ _ _ _ _ _ _ _ _  tx1 tx2 tx3 lit_0 lit_0 hI (by omega) (by omega)⟩
set_option maxHeartbeats 4000000 in
set_option maxRecDepth 100000 in
theorem sX10_origin_19 {T D : Int} {k : Nat} {post : Int32 → Wd → Prop} {w : Wd}  (hp : ∀ (r : Int32) (zr : Int), Ti r zr → post r w) : ∀ (n : Nat) (x1 : Int32) (x2 : Int32) (x3 : Int32) (x4 : Int32) (x5 : Int32) (zx1 : Int) (zx2 : Int) (zx3 : Int) (zx4 : Int) (zx5 : Int), Ti x1 zx1 → Ti x2 zx2 → Ti x3 zx3 → Ti x4 zx4 → Ti x5 zx5 → IX k T D w → (0 ≤ zx5 ∧ zx5 ≤ 12) → (13 - zx5) < (n : Int) → pX10_origin_19   post  n x1 x2 x3 x4 x5 w := by
  intro n
  induction n with
  | zero =>
    intro x1 x2 x3 x4 x5 zx1 zx2 zx3 zx4 zx5  tx1 tx2 tx3 tx4 tx5 hI h0 hm
    exact absurd hm (by omega)
  | succ n ih =>
    intro x1 x2 x3 x4 x5 zx1 zx2 zx3 zx4 zx5  tx1 tx2 tx3 tx4 tx5 hI h0 hm
    unfold pX10_origin_19
    have hk := ix_k hI
    obtain ⟨z3338, t3339⟩ := t_any (w.1 (rl (w.2.2.2.2 0)) 0)
    have f3340 := ixg_r0 hI t3339
    refine ⟨fun c3341 => ?_, fun c3341 => ?_⟩
    · replace c3341 := c_le t3339 tx5 c3341
      refine ⟨fun c3342 => ?_, fun c3342 => ?_⟩
      · replace c3342 := c_neq tx1 lit_0 c3342
        exact hp _ _ tx4 
      · replace c3342 := c_eq tx1 lit_0 c3342
        exact hp _ _ tx3 
    · replace c3341 := c_nle t3339 tx5 c3341
      refine sX10_samplesWith   (hI := hI) (tx1 := tx5) (tx2 := lit_0) (tx3 := tx2)  (hp := fun r_3v1683 zr_3v1683 tr_3v1683 => ?_)
      refine sX10_samplesWith   (hI := hI) (tx1 := tx5) (tx2 := lit_1) (tx3 := tx2)  (hp := fun r_5v1688 zr_5v1688 tr_5v1688 => ?_)
      obtain ⟨z3343, t3344, f3345⟩ := t_mul lit_2 tr_5v1688
      first | replace f3345 := f3345 (by omega) | clear f3345
      refine ⟨fun c3346 => ?_, fun c3346 => ?_⟩
      · replace c3346 := c_le t3344 tr_3v1683 c3346
        unfold pX10_origin_67
        obtain ⟨z3347, t3348, f3349⟩ := t_ite t3344 tr_3v1683 t3344 tr_3v1683
        obtain ⟨z3350, t3351, f3352⟩ := t_add tx4 t3348
        first | replace f3352 := f3352 (by omega) | clear f3352
        intro x4_1v1692 ex4_1v1692
        have tx4_1v1692 : Ti x4_1v1692 z3350 := by rw [ex4_1v1692]; exact t3351
        obtain ⟨z3353, t3354, f3355⟩ := t_add tx5 lit_1
        first | replace f3355 := f3355 (by omega) | clear f3355
        intro x5_2v1693 ex5_2v1693
        have tx5_2v1693 : Ti x5_2v1693 z3353 := by rw [ex5_2v1693]; exact t3354
        exact ih _ _ _ _ _ _ _ _ _ _  tx1 tx2 tx3 tx4_1v1692 tx5_2v1693 hI (by omega) (by omega)
      · replace c3346 := c_nle t3344 tr_3v1683 c3346
        obtain ⟨z3356, t3357⟩ := t_any (x3 ||| ((1 : Int32) <<< (x5 &&& 31)))
        intro x3_8v1691 ex3_8v1691
        have tx3_8v1691 : Ti x3_8v1691 z3356 := by rw [ex3_8v1691]; exact t3357
        unfold pX10_origin_67
        obtain ⟨z3358, t3359, f3360⟩ := t_ite t3344 tr_3v1683 t3344 tr_3v1683
        obtain ⟨z3361, t3362, f3363⟩ := t_add tx4 t3359
        first | replace f3363 := f3363 (by omega) | clear f3363
        intro x4_1v1694 ex4_1v1694
        have tx4_1v1694 : Ti x4_1v1694 z3361 := by rw [ex4_1v1694]; exact t3362
        obtain ⟨z3364, t3365, f3366⟩ := t_add tx5 lit_1
        first | replace f3366 := f3366 (by omega) | clear f3366
        intro x5_2v1695 ex5_2v1695
        have tx5_2v1695 : Ti x5_2v1695 z3364 := by rw [ex5_2v1695]; exact t3365
        exact ih _ _ _ _ _ _ _ _ _ _  tx1 tx2 tx3_8v1691 tx4_1v1694 tx5_2v1695 hI (by omega) (by omega)
set_option maxHeartbeats 4000000 in
set_option maxRecDepth 100000 in
theorem sX10_origin {T D : Int} {k : Nat} {post : Int32 → Wd → Prop} {x1 : Int32} {zx1 : Int} {x2 : Int32} {zx2 : Int} {w : Wd}  (tx1 : Ti x1 zx1) (tx2 : Ti x2 zx2) (hI : IX k T D w)  (hp : ∀ (r : Int32) (zr : Int), Ti r zr → post r w) : pX10_origin   post  x1 x2 w := by
  unfold pX10_origin
  have hk := ix_k hI
  refine ⟨fun c3367 => ?_, fun c3367 => ?_⟩
  · replace c3367 := c_lt tx1 lit_0 c3367
    exact hp _ _ lit_m1 
  · replace c3367 := c_nlt tx1 lit_0 c3367
    refine ⟨fun c3368 => ?_, fun c3368 => ?_⟩
    · replace c3368 := c_le tx1 lit_1 c3368
      exact ⟨70000, sX10_origin_19    (hp := hp) 70000 _ _ _ _ _ _ _ _ _ _  tx1 tx2 lit_0 lit_0 lit_0 hI (by omega) (by omega)⟩
    · replace c3368 := c_nle tx1 lit_1 c3368
      exact hp _ _ lit_m1 
set_option maxHeartbeats 4000000 in
set_option maxRecDepth 100000 in
theorem sX10_isFalse {T D : Int} {k : Nat} {post : Int32 → Wd → Prop} {x1 : Int32} {zx1 : Int} {w : Wd}  (tx1 : Ti x1 zx1) (hI : IX k T D w) (h0 : 0 ≤ zx1 ∧ zx1 ≤ 39) (hp : ∀ (r : Int32) (zr : Int), Ti r zr → post r w) : pX10_isFalse   post  x1 w := by
  unfold pX10_isFalse
  have hk := ix_k hI
  refine ⟨vp_of tx1 (by omega) (by omega), ?_⟩
  obtain ⟨z3369, t3370⟩ := t_any (w.2.1 75 x1.toNatClampNeg)
  intro x2_1v1696 ex2_1v1696
  have tx2_1v1696 : Ti x2_1v1696 z3369 := by rw [ex2_1v1696]; exact t3370
  refine sX10_isSeal   (hI := hI) (tx1 := tx2_1v1696)  (hp := fun r_2v1697 zr_2v1697 tr_2v1697 p3371 => ?_)
  refine ⟨fun c3372 => ?_, fun c3372 => ?_⟩
  · replace c3372 := c_eq tr_2v1697 lit_0 c3372
    exact hp _ _ lit_1 
  · replace c3372 := c_neq tr_2v1697 lit_0 c3372
    refine ⟨vp_of tx1 (by omega) (by omega), ?_⟩
    refine sX10_printOf   (hI := hI) (tx1 := tx2_1v1696)  (hp := fun r_5v1701 zr_5v1701 tr_5v1701 => ?_)
    obtain ⟨z3373, t3374⟩ := t_any ((w.2.1 74 x1.toNatClampNeg) &&& (r_5v1701 ^^^ (-1 : Int32)))
    refine ⟨fun c3375 => ?_, fun c3375 => ?_⟩
    · replace c3375 := c_neq t3374 lit_0 c3375
      exact hp _ _ lit_1 
    · replace c3375 := c_eq t3374 lit_0 c3375
      refine ⟨vp_of tx1 (by omega) (by omega), ?_⟩
      refine ⟨vp_of tx2_1v1696 (by omega) (by omega), ?_⟩
      obtain ⟨z3376, t3377⟩ := t_any (w.2.1 165 x2_1v1696.toNatClampNeg)
      obtain ⟨z3378, t3379⟩ := t_any (w.2.1 76 x1.toNatClampNeg)
      refine ⟨fun c3380 => ?_, fun c3380 => ?_⟩
      · replace c3380 := c_le t3377 t3379 c3380
        exact hp _ _ lit_0 
      · replace c3380 := c_nle t3377 t3379 c3380
        exact hp _ _ lit_1 
set_option maxHeartbeats 4000000 in
set_option maxRecDepth 100000 in
theorem sX10_falses_12 {T D : Int} {k : Nat} {post : Int32 → Wd → Prop}   (hp : ∀ (r : Int32) (zr : Int) (w9 : Wd), Ti r zr → IX k T D w9 → post r w9) : ∀ (n : Nat) (x1 : Int32) (x2 : Int32) (x3 : Int32) (zx1 : Int) (zx2 : Int) (zx3 : Int) (w : Wd), Ti x1 zx1 → Ti x2 zx2 → Ti x3 zx3 → IX k T D w → (0 ≤ zx3 ∧ zx3 ≤ 40) → (41 - zx3) < (n : Int) → pX10_falses_12   post  n x1 x2 x3 w := by
  intro n
  induction n with
  | zero =>
    intro x1 x2 x3 zx1 zx2 zx3 w tx1 tx2 tx3 hI h0 hm
    exact absurd hm (by omega)
  | succ n ih =>
    intro x1 x2 x3 zx1 zx2 zx3 w tx1 tx2 tx3 hI h0 hm
    unfold pX10_falses_12
    have hk := ix_k hI
    obtain ⟨z3381, t3382⟩ := t_any (w.1 70 0)
    have f3383 := ixg_70_0 hI t3382
    refine ⟨fun c3384 => ?_, fun c3384 => ?_⟩
    · replace c3384 := c_le t3382 tx3 c3384
      exact hp _ _ _  tx2 hI 
    · replace c3384 := c_nle t3382 tx3 c3384
      refine sX3_counts   (hI := hI) (tx1 := tx3) (tx2 := lit_1) (tx3 := tx1)  (hp := fun r_2v1703 zr_2v1703 tr_2v1703 => ?_)
      refine ⟨fun c3385 => ?_, fun c3385 => ?_⟩
      · replace c3385 := c_eq tr_2v1703 lit_0 c3385
        unfold pX10_falses_61
        obtain ⟨z3386, t3387, f3388⟩ := t_add tx3 lit_1
        first | replace f3388 := f3388 (by omega) | clear f3388
        intro x3_1v1711 ex3_1v1711
        have tx3_1v1711 : Ti x3_1v1711 z3386 := by rw [ex3_1v1711]; exact t3387
        exact ih _ _ _ _ _ _ _ tx1 tx2 tx3_1v1711 hI (by omega) (by omega)
      · replace c3385 := c_neq tr_2v1703 lit_0 c3385
        refine sX10_isFalse   (hI := hI) (tx1 := tx3) (h0 := (by omega)) (hp := fun r_5v1708 zr_5v1708 tr_5v1708 => ?_)
        refine ⟨fun c3389 => ?_, fun c3389 => ?_⟩
        · replace c3389 := c_eq tr_5v1708 lit_0 c3389
          unfold pX10_falses_61
          obtain ⟨z3390, t3391, f3392⟩ := t_add tx3 lit_1
          first | replace f3392 := f3392 (by omega) | clear f3392
          intro x3_1v1713 ex3_1v1713
          have tx3_1v1713 : Ti x3_1v1713 z3390 := by rw [ex3_1v1713]; exact t3391
          exact ih _ _ _ _ _ _ _ tx1 tx2 tx3_1v1713 hI (by omega) (by omega)
        · replace c3389 := c_neq tr_5v1708 lit_0 c3389
          refine ⟨fun c3393 => ?_, fun c3393 => ?_⟩
          · replace c3393 := c_le lit_8 tx2 c3393
            unfold pX10_falses_58
            obtain ⟨z3394, t3395, f3396⟩ := t_add tx2 lit_1
            first | replace f3396 := f3396 (by omega) | clear f3396
            intro x2_1v1714 ex2_1v1714
            have tx2_1v1714 : Ti x2_1v1714 z3394 := by rw [ex2_1v1714]; exact t3395
            unfold pX10_falses_61
            obtain ⟨z3397, t3398, f3399⟩ := t_add tx3 lit_1
            first | replace f3399 := f3399 (by omega) | clear f3399
            intro x3_1v1715 ex3_1v1715
            have tx3_1v1715 : Ti x3_1v1715 z3397 := by rw [ex3_1v1715]; exact t3398
            exact ih _ _ _ _ _ _ _ tx1 tx2_1v1714 tx3_1v1715 hI (by omega) (by omega)
          · replace c3393 := c_nle lit_8 tx2 c3393
            refine sX4_lay   (hI := hI) (tx1 := tx3)  (hp := fun  w_9v1712   hIw_9v1712  => ?_)
            unfold pX10_falses_58
            obtain ⟨z3400, t3401, f3402⟩ := t_add tx2 lit_1
            first | replace f3402 := f3402 (by omega) | clear f3402
            intro x2_1v1716 ex2_1v1716
            have tx2_1v1716 : Ti x2_1v1716 z3400 := by rw [ex2_1v1716]; exact t3401
            unfold pX10_falses_61
            obtain ⟨z3403, t3404, f3405⟩ := t_add tx3 lit_1
            first | replace f3405 := f3405 (by omega) | clear f3405
            intro x3_1v1717 ex3_1v1717
            have tx3_1v1717 : Ti x3_1v1717 z3403 := by rw [ex3_1v1717]; exact t3404
            exact ih _ _ _ _ _ _ _ tx1 tx2_1v1716 tx3_1v1717 hIw_9v1712 (by omega) (by omega)
set_option maxHeartbeats 4000000 in
set_option maxRecDepth 100000 in
theorem sX10_falses {T D : Int} {k : Nat} {post : Int32 → Wd → Prop} {x1 : Int32} {zx1 : Int} {w : Wd}  (tx1 : Ti x1 zx1) (hI : IX k T D w)  (hp : ∀ (r : Int32) (zr : Int) (w9 : Wd), Ti r zr → IX k T D w9 → post r w9) : pX10_falses   post  x1 w := by
  unfold pX10_falses
  have hk := ix_k hI
  intro w_1v1718 ew_1v1718
  have hIw_1v1718 := ixs_110_1 hI ew_1v1718 lit_0 (by omega) (by omega)
  exact ⟨70000, sX10_falses_12    (hp := hp) 70000 _ _ _ _ _ _ _ tx1 lit_0 lit_0 hIw_1v1718 (by omega) (by omega)⟩
set_option maxHeartbeats 4000000 in
set_option maxRecDepth 100000 in
theorem sX10_span_30 {T D : Int} {k : Nat} {post : Int32 → Wd → Prop} {w : Wd}  (hp : ∀ (r : Int32) (zr : Int), Ti r zr → post r w) : ∀ (n : Nat) (x1 : Int32) (x2 : Int32) (x3 : Int32) (x4 : Int32) (x5 : Int32) (x6 : Int32) (zx1 : Int) (zx2 : Int) (zx3 : Int) (zx4 : Int) (zx5 : Int) (zx6 : Int), Ti x1 zx1 → Ti x2 zx2 → Ti x3 zx3 → Ti x4 zx4 → Ti x5 zx5 → Ti x6 zx6 → IX k T D w → (0 ≤ zx6 ∧ zx6 ≤ 40) → (41 - zx6) < (n : Int) → pX10_span_30   post  n x1 x2 x3 x4 x5 x6 w := by
  intro n
  induction n with
  | zero =>
    intro x1 x2 x3 x4 x5 x6 zx1 zx2 zx3 zx4 zx5 zx6  tx1 tx2 tx3 tx4 tx5 tx6 hI h0 hm
    exact absurd hm (by omega)
  | succ n ih =>
    intro x1 x2 x3 x4 x5 x6 zx1 zx2 zx3 zx4 zx5 zx6  tx1 tx2 tx3 tx4 tx5 tx6 hI h0 hm
    unfold pX10_span_30
    have hk := ix_k hI
    obtain ⟨z3406, t3407⟩ := t_any (w.1 70 0)
    have f3408 := ixg_70_0 hI t3407
    refine ⟨fun c3409 => ?_, fun c3409 => ?_⟩
    · replace c3409 := c_le t3407 tx6 c3409
      refine ⟨fun c3410 => ?_, fun c3410 => ?_⟩
      · replace c3410 := c_neq tx2 lit_2 c3410
        refine ⟨fun c3411 => ?_, fun c3411 => ?_⟩
        · replace c3411 := c_le tx4 tx5 c3411
          refine ⟨fun c3412 => ?_, fun c3412 => ?_⟩
          · replace c3412 := c_neq tx2 lit_0 c3412
            exact hp _ _ tx5 
          · replace c3412 := c_eq tx2 lit_0 c3412
            exact hp _ _ tx4 
        · replace c3411 := c_nle tx4 tx5 c3411
          exact hp _ _ lit_m1 
      · replace c3410 := c_eq tx2 lit_2 c3410
        obtain ⟨z3413, t3414, f3415⟩ := t_sub tx5 tx4
        first | replace f3415 := f3415 (by omega) | clear f3415
        obtain ⟨z3416, t3417, f3418⟩ := t_add t3414 lit_1
        first | replace f3418 := f3418 (by omega) | clear f3418
        obtain ⟨z3419, t3420, f3421⟩ := t_ite lit_0 t3417 t3417 lit_0
        exact hp _ _ t3420 
    · replace c3409 := c_nle t3407 tx6 c3409
      refine sX3_counts   (hI := hI) (tx1 := tx6) (tx2 := lit_2) (tx3 := tx3)  (hp := fun r_5v1719 zr_5v1719 tr_5v1719 => ?_)
      refine ⟨fun c3422 => ?_, fun c3422 => ?_⟩
      · replace c3422 := c_eq tr_5v1719 lit_0 c3422
        unfold pX10_span_122
        obtain ⟨z3423, t3424, f3425⟩ := t_add tx6 lit_1
        first | replace f3425 := f3425 (by omega) | clear f3425
        intro x6_1v1725 ex6_1v1725
        have tx6_1v1725 : Ti x6_1v1725 z3423 := by rw [ex6_1v1725]; exact t3424
        exact ih _ _ _ _ _ _ _ _ _ _ _ _  tx1 tx2 tx3 tx4 tx5 tx6_1v1725 hI (by omega) (by omega)
      · replace c3422 := c_neq tr_5v1719 lit_0 c3422
        refine ⟨vp_of tx6 (by omega) (by omega), ?_⟩
        obtain ⟨z3426, t3427⟩ := t_any (w.2.1 74 x6.toNatClampNeg)
        refine ⟨fun c3428 => ?_, fun c3428 => ?_⟩
        · replace c3428 := c_neq t3427 tx1 c3428
          unfold pX10_span_122
          obtain ⟨z3429, t3430, f3431⟩ := t_add tx6 lit_1
          first | replace f3431 := f3431 (by omega) | clear f3431
          intro x6_1v1726 ex6_1v1726
          have tx6_1v1726 : Ti x6_1v1726 z3429 := by rw [ex6_1v1726]; exact t3430
          exact ih _ _ _ _ _ _ _ _ _ _ _ _  tx1 tx2 tx3 tx4 tx5 tx6_1v1726 hI (by omega) (by omega)
        · replace c3428 := c_eq t3427 tx1 c3428
          refine ⟨vp_of tx6 (by omega) (by omega), ?_⟩
          obtain ⟨z3432, t3433⟩ := t_any (w.2.1 76 x6.toNatClampNeg)
          refine ⟨fun c3434 => ?_, fun c3434 => ?_⟩
          · replace c3434 := c_eq t3433 lit_0 c3434
            refine ⟨vp_of tx6 (by omega) (by omega), ?_⟩
            obtain ⟨z3435, t3436⟩ := t_any (w.2.1 75 x6.toNatClampNeg)
            obtain ⟨z3437, t3438, f3439⟩ := t_ite t3436 tx5 t3436 tx5
            intro x5_10v1723 ex5_10v1723
            have tx5_10v1723 : Ti x5_10v1723 z3437 := by rw [ex5_10v1723]; exact t3438
            unfold pX10_span_122
            obtain ⟨z3440, t3441, f3442⟩ := t_add tx6 lit_1
            first | replace f3442 := f3442 (by omega) | clear f3442
            intro x6_1v1727 ex6_1v1727
            have tx6_1v1727 : Ti x6_1v1727 z3440 := by rw [ex6_1v1727]; exact t3441
            exact ih _ _ _ _ _ _ _ _ _ _ _ _  tx1 tx2 tx3 tx4 tx5_10v1723 tx6_1v1727 hI (by omega) (by omega)
          · replace c3434 := c_neq t3433 lit_0 c3434
            refine ⟨vp_of tx6 (by omega) (by omega), ?_⟩
            obtain ⟨z3443, t3444⟩ := t_any (w.2.1 75 x6.toNatClampNeg)
            obtain ⟨z3445, t3446, f3447⟩ := t_add t3444 lit_1
            first | replace f3447 := f3447 (by omega) | clear f3447
            obtain ⟨z3448, t3449, f3450⟩ := t_ite tx4 t3446 t3446 tx4
            intro x4_11v1724 ex4_11v1724
            have tx4_11v1724 : Ti x4_11v1724 z3448 := by rw [ex4_11v1724]; exact t3449
            unfold pX10_span_122
            obtain ⟨z3451, t3452, f3453⟩ := t_add tx6 lit_1
            first | replace f3453 := f3453 (by omega) | clear f3453
            intro x6_1v1728 ex6_1v1728
            have tx6_1v1728 : Ti x6_1v1728 z3451 := by rw [ex6_1v1728]; exact t3452
            exact ih _ _ _ _ _ _ _ _ _ _ _ _  tx1 tx2 tx3 tx4_11v1724 tx5 tx6_1v1728 hI (by omega) (by omega)
set_option maxHeartbeats 4000000 in
set_option maxRecDepth 100000 in
theorem sX10_span {T D : Int} {k : Nat} {post : Int32 → Wd → Prop} {x1 : Int32} {zx1 : Int} {x2 : Int32} {zx2 : Int} {x3 : Int32} {zx3 : Int} {w : Wd}  (tx1 : Ti x1 zx1) (tx2 : Ti x2 zx2) (tx3 : Ti x3 zx3) (hI : IX k T D w)  (hp : ∀ (r : Int32) (zr : Int), Ti r zr → post r w) : pX10_span   post  x1 x2 x3 w := by
  unfold pX10_span
  have hk := ix_k hI
  refine sX10_isMark   (hI := hI) (tx1 := tx1)  (hp := fun r_1v1729 zr_1v1729 tr_1v1729 p3454 => ?_)
  refine ⟨fun c3455 => ?_, fun c3455 => ?_⟩
  · replace c3455 := c_eq tr_1v1729 lit_0 c3455
    exact hp _ _ lit_m1 
  · replace c3455 := c_neq tr_1v1729 lit_0 c3455
    refine ⟨fun c3456 => ?_, fun c3456 => ?_⟩
    · replace c3456 := c_lt tx2 lit_0 c3456
      exact hp _ _ lit_m1 
    · replace c3456 := c_nlt tx2 lit_0 c3456
      refine ⟨fun c3457 => ?_, fun c3457 => ?_⟩
      · replace c3457 := c_le tx2 lit_2 c3457
        exact ⟨70000, sX10_span_30    (hp := hp) 70000 _ _ _ _ _ _ _ _ _ _ _ _  tx1 tx2 tx3 lit_0 lit_999 lit_0 hI (by omega) (by omega)⟩
      · replace c3457 := c_nle tx2 lit_2 c3457
        exact hp _ _ lit_m1 
set_option maxHeartbeats 4000000 in
set_option maxRecDepth 100000 in
theorem sX3_join_72 {T D : Int} {k : Nat} {post : Int32 → Wd → Prop}   (hp : ∀ (r : Int32) (zr : Int) (w9 : Wd), Ti r zr → IX k T D w9 → post r w9) : ∀ (n : Nat) (x1 : Int32) (x4 : Int32) (x5 : Int32) (x6 : Int32) (zx1 : Int) (zx4 : Int) (zx5 : Int) (zx6 : Int) (w : Wd), Ti x1 zx1 → Ti x4 zx4 → Ti x5 zx5 → Ti x6 zx6 → IX k T D w → (0 ≤ zx6 ∧ zx6 ≤ 8) → (0 ≤ zx1 ∧ zx1 ≤ 7) → (9 - zx6) < (n : Int) → pX3_join_72   post  n x1 x4 x5 x6 w := by
  intro n
  induction n with
  | zero =>
    intro x1 x4 x5 x6 zx1 zx4 zx5 zx6 w tx1 tx4 tx5 tx6 hI h0 h1 hm
    exact absurd hm (by omega)
  | succ n ih =>
    intro x1 x4 x5 x6 zx1 zx4 zx5 zx6 w tx1 tx4 tx5 tx6 hI h0 h1 hm
    unfold pX3_join_72
    have hk := ix_k hI
    refine ⟨fun c3458 => ?_, fun c3458 => ?_⟩
    · replace c3458 := c_le lit_8 tx6 c3458
      exact hp _ _ _  lit_1 hI 
    · replace c3458 := c_nle lit_8 tx6 c3458
      refine ⟨vp_of tx6 (by omega) (by omega), ?_⟩
      obtain ⟨z3459, t3460⟩ := t_any (w.2.1 79 x6.toNatClampNeg)
      refine ⟨fun c3461 => ?_, fun c3461 => ?_⟩
      · replace c3461 := c_neq t3460 tx5 c3461
        unfold pX3_join_116
        obtain ⟨z3462, t3463, f3464⟩ := t_add tx6 lit_1
        first | replace f3464 := f3464 (by omega) | clear f3464
        intro x6_1v1733 ex6_1v1733
        have tx6_1v1733 : Ti x6_1v1733 z3462 := by rw [ex6_1v1733]; exact t3463
        exact ih _ _ _ _ _ _ _ _ _ tx1 tx4 tx5 tx6_1v1733 hI (by omega) (by omega) (by omega)
      · replace c3461 := c_eq t3460 tx5 c3461
        refine ⟨vp_of tx1 (by omega) (by omega), ?_⟩
        refine ⟨vp_of tx6 (by omega) (by omega), ?_⟩
        intro w_3v1731 ew_3v1731
        have hIw_3v1731 := ixs_A hI ew_3v1731 (by decide)
        refine ⟨vp_of tx6 (by omega) (by omega), ?_⟩
        refine ⟨vp_of tx6 (by omega) (by omega), ?_⟩
        intro w_4v1732 ew_4v1732
        have hIw_4v1732 := ixs_A hIw_3v1731 ew_4v1732 (by decide)
        unfold pX3_join_116
        obtain ⟨z3465, t3466, f3467⟩ := t_add tx6 lit_1
        first | replace f3467 := f3467 (by omega) | clear f3467
        intro x6_1v1734 ex6_1v1734
        have tx6_1v1734 : Ti x6_1v1734 z3465 := by rw [ex6_1v1734]; exact t3466
        exact ih _ _ _ _ _ _ _ _ _ tx1 tx4 tx5 tx6_1v1734 hIw_4v1732 (by omega) (by omega) (by omega)
set_option maxHeartbeats 4000000 in
set_option maxRecDepth 100000 in
theorem sX3_join {T D : Int} {k : Nat} {post : Int32 → Wd → Prop} {x1 : Int32} {zx1 : Int} {x2 : Int32} {zx2 : Int} {x3 : Int32} {zx3 : Int} {w : Wd}  (tx1 : Ti x1 zx1) (tx2 : Ti x2 zx2) (tx3 : Ti x3 zx3) (hI : IX k T D w)  (hp : ∀ (r : Int32) (zr : Int) (w9 : Wd), Ti r zr → IX k T D w9 → post r w9) : pX3_join   post  x1 x2 x3 w := by
  unfold pX3_join
  have hk := ix_k hI
  refine ⟨fun c3468 => ?_, fun c3468 => ?_⟩
  · replace c3468 := c_lt tx1 lit_0 c3468
    exact hp _ _ _  lit_0 hI 
  · replace c3468 := c_nlt tx1 lit_0 c3468
    refine ⟨fun c3469 => ?_, fun c3469 => ?_⟩
    · replace c3469 := c_le lit_8 tx1 c3469
      exact hp _ _ _  lit_0 hI 
    · replace c3469 := c_nle lit_8 tx1 c3469
      refine ⟨fun c3470 => ?_, fun c3470 => ?_⟩
      · replace c3470 := c_lt tx2 lit_0 c3470
        exact hp _ _ _  lit_0 hI 
      · replace c3470 := c_nlt tx2 lit_0 c3470
        refine ⟨fun c3471 => ?_, fun c3471 => ?_⟩
        · replace c3471 := c_lt tx2 lit_8 c3471
          refine ⟨vp_of tx1 (by omega) (by omega), ?_⟩
          refine ⟨vp_of tx2 (by omega) (by omega), ?_⟩
          obtain ⟨z3472, t3473⟩ := t_any (((w.2.1 80 x1.toNatClampNeg) ^^^ (w.2.1 80 x2.toNatClampNeg)) ^^^ x3)
          intro x4_5v1735 ex4_5v1735
          have tx4_5v1735 : Ti x4_5v1735 z3472 := by rw [ex4_5v1735]; exact t3473
          refine ⟨vp_of tx2 (by omega) (by omega), ?_⟩
          obtain ⟨z3474, t3475⟩ := t_any (w.2.1 79 x2.toNatClampNeg)
          intro x5_6v1736 ex5_6v1736
          have tx5_6v1736 : Ti x5_6v1736 z3474 := by rw [ex5_6v1736]; exact t3475
          refine ⟨vp_of tx1 (by omega) (by omega), ?_⟩
          obtain ⟨z3476, t3477⟩ := t_any (w.2.1 79 x1.toNatClampNeg)
          refine ⟨fun c3478 => ?_, fun c3478 => ?_⟩
          · replace c3478 := c_neq t3477 tx5_6v1736 c3478
            exact ⟨70000, sX3_join_72    (hp := hp) 70000 _ _ _ _ _ _ _ _ _ tx1 tx4_5v1735 tx5_6v1736 lit_0 hI (by omega) (by omega) (by omega)⟩
          · replace c3478 := c_eq t3477 tx5_6v1736 c3478
            refine ⟨fun c3479 => ?_, fun c3479 => ?_⟩
            · replace c3479 := c_neq tx4_5v1735 lit_0 c3479
              exact hp _ _ _  lit_0 hI 
            · replace c3479 := c_eq tx4_5v1735 lit_0 c3479
              exact hp _ _ _  lit_1 hI 
        · replace c3471 := c_nlt tx2 lit_8 c3471
          exact hp _ _ _  lit_0 hI 
set_option maxHeartbeats 4000000 in
set_option maxRecDepth 100000 in
theorem sX3_sideOf_42 {T D : Int} {k : Nat} {post : Int32 → Wd → Prop}   (hp : ∀ (r : Int32) (zr : Int) (w9 : Wd), Ti r zr → IX k T D w9 → post r w9) : ∀ (n : Nat) (x1 : Int32) (x2 : Int32) (x3 : Int32) (zx1 : Int) (zx2 : Int) (zx3 : Int) (w : Wd), Ti x1 zx1 → Ti x2 zx2 → Ti x3 zx3 → IX k T D w → (0 ≤ zx3 ∧ zx3 ≤ 40) → (0 ≤ zx1 ∧ zx1 ≤ 7) → (41 - zx3) < (n : Int) → pX3_sideOf_42   post  n x1 x2 x3 w := by
  intro n
  induction n with
  | zero =>
    intro x1 x2 x3 zx1 zx2 zx3 w tx1 tx2 tx3 hI h0 h1 hm
    exact absurd hm (by omega)
  | succ n ih =>
    intro x1 x2 x3 zx1 zx2 zx3 w tx1 tx2 tx3 hI h0 h1 hm
    unfold pX3_sideOf_42
    have hk := ix_k hI
    obtain ⟨z3480, t3481⟩ := t_any (w.1 70 0)
    have f3482 := ixg_70_0 hI t3481
    refine ⟨fun c3483 => ?_, fun c3483 => ?_⟩
    · replace c3483 := c_le t3481 tx3 c3483
      refine ⟨vp_of tx1 (by omega) (by omega), ?_⟩
      obtain ⟨z3484, t3485⟩ := t_any (w.2.1 79 x1.toNatClampNeg)
      obtain ⟨z3486, t3487⟩ := t_any (w.2.1 79 (0 : Int32).toNatClampNeg)
      refine ⟨fun c3488 => ?_, fun c3488 => ?_⟩
      · replace c3488 := c_neq t3485 t3487 c3488
        exact hp _ _ _  lit_m1 hI 
      · replace c3488 := c_eq t3485 t3487 c3488
        refine ⟨vp_of tx1 (by omega) (by omega), ?_⟩
        obtain ⟨z3489, t3490⟩ := t_any ((w.2.1 80 x1.toNatClampNeg) ^^^ (w.2.1 80 (0 : Int32).toNatClampNeg))
        exact hp _ _ _  t3490 hI 
    · replace c3483 := c_nle t3481 tx3 c3483
      refine sX3_counts   (hI := hI) (tx1 := tx3) (tx2 := lit_3) (tx3 := tx2)  (hp := fun r_3v1737 zr_3v1737 tr_3v1737 => ?_)
      refine ⟨fun c3491 => ?_, fun c3491 => ?_⟩
      · replace c3491 := c_eq tr_3v1737 lit_0 c3491
        unfold pX3_sideOf_88
        obtain ⟨z3492, t3493, f3494⟩ := t_add tx3 lit_1
        first | replace f3494 := f3494 (by omega) | clear f3494
        intro x3_1v1743 ex3_1v1743
        have tx3_1v1743 : Ti x3_1v1743 z3492 := by rw [ex3_1v1743]; exact t3493
        exact ih _ _ _ _ _ _ _ tx1 tx2 tx3_1v1743 hI (by omega) (by omega) (by omega)
      · replace c3491 := c_neq tr_3v1737 lit_0 c3491
        refine ⟨vp_of tx3 (by omega) (by omega), ?_⟩
        refine ⟨vp_of tx3 (by omega) (by omega), ?_⟩
        refine ⟨vp_of tx3 (by omega) (by omega), ?_⟩
        obtain ⟨z3495, t3496⟩ := t_any (w.2.1 74 x3.toNatClampNeg)
        obtain ⟨z3497, t3498⟩ := t_any (w.2.1 75 x3.toNatClampNeg)
        obtain ⟨z3499, t3500⟩ := t_any (w.2.1 76 x3.toNatClampNeg)
        refine sX3_join   (hI := hI) (tx1 := t3496) (tx2 := t3498) (tx3 := t3500)  (hp := fun r_6v1741 zr_6v1741 w_7v1742  tr_6v1741 hIw_7v1742  => ?_)
        refine ⟨fun c3501 => ?_, fun c3501 => ?_⟩
        · replace c3501 := c_neq tr_6v1741 lit_0 c3501
          unfold pX3_sideOf_88
          obtain ⟨z3502, t3503, f3504⟩ := t_add tx3 lit_1
          first | replace f3504 := f3504 (by omega) | clear f3504
          intro x3_1v1744 ex3_1v1744
          have tx3_1v1744 : Ti x3_1v1744 z3502 := by rw [ex3_1v1744]; exact t3503
          exact ih _ _ _ _ _ _ _ tx1 tx2 tx3_1v1744 hIw_7v1742 (by omega) (by omega) (by omega)
        · replace c3501 := c_eq tr_6v1741 lit_0 c3501
          exact hp _ _ _  lit_m2 hIw_7v1742 
set_option maxHeartbeats 4000000 in
set_option maxRecDepth 100000 in
theorem sX3_sideOf_14 {T D : Int} {k : Nat} {post : Int32 → Wd → Prop}   (hp : ∀ (r : Int32) (zr : Int) (w9 : Wd), Ti r zr → IX k T D w9 → post r w9) : ∀ (n : Nat) (x1 : Int32) (x2 : Int32) (x3 : Int32) (zx1 : Int) (zx2 : Int) (zx3 : Int) (w : Wd), Ti x1 zx1 → Ti x2 zx2 → Ti x3 zx3 → IX k T D w → (0 ≤ zx3 ∧ zx3 ≤ 8) → (0 ≤ zx1 ∧ zx1 ≤ 7) → (9 - zx3) < (n : Int) → pX3_sideOf_14   post  n x1 x2 x3 w := by
  intro n
  induction n with
  | zero =>
    intro x1 x2 x3 zx1 zx2 zx3 w tx1 tx2 tx3 hI h0 h1 hm
    exact absurd hm (by omega)
  | succ n ih =>
    intro x1 x2 x3 zx1 zx2 zx3 w tx1 tx2 tx3 hI h0 h1 hm
    unfold pX3_sideOf_14
    have hk := ix_k hI
    refine ⟨fun c3505 => ?_, fun c3505 => ?_⟩
    · replace c3505 := c_le lit_8 tx3 c3505
      exact ⟨70000, sX3_sideOf_42    (hp := hp) 70000 _ _ _ _ _ _ _ tx1 tx2 lit_0 hI (by omega) (by omega) (by omega)⟩
    · replace c3505 := c_nle lit_8 tx3 c3505
      refine ⟨vp_of tx3 (by omega) (by omega), ?_⟩
      intro w_2v1745 ew_2v1745
      have hIw_2v1745 := ixs_A hI ew_2v1745 (by decide)
      refine ⟨vp_of tx3 (by omega) (by omega), ?_⟩
      intro w_3v1746 ew_3v1746
      have hIw_3v1746 := ixs_A hIw_2v1745 ew_3v1746 (by decide)
      obtain ⟨z3506, t3507, f3508⟩ := t_add tx3 lit_1
      first | replace f3508 := f3508 (by omega) | clear f3508
      intro x3_4v1747 ex3_4v1747
      have tx3_4v1747 : Ti x3_4v1747 z3506 := by rw [ex3_4v1747]; exact t3507
      exact ih _ _ _ _ _ _ _ tx1 tx2 tx3_4v1747 hIw_3v1746 (by omega) (by omega) (by omega)
set_option maxHeartbeats 4000000 in
set_option maxRecDepth 100000 in
theorem sX3_sideOf {T D : Int} {k : Nat} {post : Int32 → Wd → Prop} {x1 : Int32} {zx1 : Int} {x2 : Int32} {zx2 : Int} {w : Wd}  (tx1 : Ti x1 zx1) (tx2 : Ti x2 zx2) (hI : IX k T D w)  (hp : ∀ (r : Int32) (zr : Int) (w9 : Wd), Ti r zr → IX k T D w9 → post r w9) : pX3_sideOf   post  x1 x2 w := by
  unfold pX3_sideOf
  have hk := ix_k hI
  refine ⟨fun c3509 => ?_, fun c3509 => ?_⟩
  · replace c3509 := c_lt tx1 lit_0 c3509
    exact hp _ _ _  lit_m1 hI 
  · replace c3509 := c_nlt tx1 lit_0 c3509
    refine ⟨fun c3510 => ?_, fun c3510 => ?_⟩
    · replace c3510 := c_lt tx1 lit_8 c3510
      exact ⟨70000, sX3_sideOf_14    (hp := hp) 70000 _ _ _ _ _ _ _ tx1 tx2 lit_0 hI (by omega) (by omega) (by omega)⟩
    · replace c3510 := c_nlt tx1 lit_8 c3510
      exact hp _ _ _  lit_m1 hI 
set_option maxHeartbeats 4000000 in
set_option maxRecDepth 100000 in
theorem sX10_backward {T D : Int} {k : Nat} {post : Int32 → Wd → Prop} {x1 : Int32} {zx1 : Int} {x2 : Int32} {zx2 : Int} {w : Wd}  (tx1 : Ti x1 zx1) (tx2 : Ti x2 zx2) (hI : IX k T D w)  (hp : ∀ (r : Int32) (zr : Int) (w9 : Wd), Ti r zr → IX k T D w9 → post r w9) : pX10_backward   post  x1 x2 w := by
  unfold pX10_backward
  have hk := ix_k hI
  refine sX10_isPaper   (hI := hI) (tx0 := tx1)  (hp := fun r_1v1748 zr_1v1748 tr_1v1748 p3511 => ?_)
  refine ⟨fun c3512 => ?_, fun c3512 => ?_⟩
  · replace c3512 := c_eq tr_1v1748 lit_0 c3512
    exact hp _ _ _  lit_m1 hI 
  · replace c3512 := c_neq tr_1v1748 lit_0 c3512
    refine sX3_sideOf   (hI := hI) (tx1 := tx1) (tx2 := tx2)  (hp := fun r_4v1752 zr_4v1752 w_5v1753  tr_4v1752 hIw_5v1753  => ?_)
    exact hp _ _ _  tr_4v1752 hIw_5v1753 
set_option maxHeartbeats 4000000 in
set_option maxRecDepth 100000 in
theorem sX10_lies {T D : Int} {k : Nat} {post : Int32 → Wd → Prop} {x1 : Int32} {zx1 : Int} {w : Wd}  (tx1 : Ti x1 zx1) (hI : IX k T D w)  (hp : ∀ (r : Int32) (zr : Int), Ti r zr → post r w) : pX10_lies   post  x1 w := by
  unfold pX10_lies
  have hk := ix_k hI
  refine ⟨fun c3513 => ?_, fun c3513 => ?_⟩
  · replace c3513 := c_lt tx1 lit_0 c3513
    exact hp _ _ lit_m2 
  · replace c3513 := c_nlt tx1 lit_0 c3513
    obtain ⟨z3514, t3515⟩ := t_any (w.1 110 1)
    have f3516 := ixg_110_1 hI t3515
    refine ⟨fun c3517 => ?_, fun c3517 => ?_⟩
    · replace c3517 := c_lt tx1 t3515 c3517
      refine ⟨vp_of tx1 (by omega) (by omega), ?_⟩
      obtain ⟨z3518, t3519⟩ := t_any (w.2.1 111 x1.toNatClampNeg)
      exact hp _ _ t3519 
    · replace c3517 := c_nlt tx1 t3515 c3517
      exact hp _ _ lit_m2 
theorem sX2_copyPrints {T D : Int} {k : Nat} {post : Wd → Prop} {c c1 : Nat} {w : Wd} (hI : IX k T D w) (hp : ∀ (w9 : Wd), IX k T D w9 → post w9) : pX2_copyPrints post (160 + 20 * c) (160 + 20 * c1) w := by
  unfold pX2_copyPrints
  obtain ⟨z, t⟩ := t_any (w.1 (160 + 20 * c1) 6)
  have b := Rg.g (hI.2.2.2.2.2.2.2.2.2.2.1 c1).2 t
  intro w_1 e1
  have i1 := ixs_c6 hI e1 t b.1 b.2
  intro w_2 e2
  have i2 := ixs_C i1 e2 (by omega)
  intro w_3 e3
  have i3 := ixs_C i2 e3 (by omega)
  intro w_4 e4
  exact hp _ (ixs_C i3 e4 (by omega))
theorem sX2_copySeals {T D : Int} {k : Nat} {post : Wd → Prop} {c c1 : Nat} {w : Wd} (hI : IX k T D w) (hp : ∀ (w9 : Wd), IX k T D w9 → post w9) : pX2_copySeals post (160 + 20 * c) (160 + 20 * c1) w := by
  unfold pX2_copySeals
  obtain ⟨z, t⟩ := t_any (w.1 (160 + 20 * c1) 0)
  have b := Rg.g (hI.2.2.2.2.2.2.2.2.2.2.1 c1).1 t
  intro w_1 e1
  have i1 := ixs_c0 hI e1 t b.1 b.2
  intro w_2 e2
  have i2 := ixs_C i1 e2 (by omega)
  intro w_3 e3
  have i3 := ixs_C i2 e3 (by omega)
  intro w_4 e4
  have i4 := ixs_C i3 e4 (by omega)
  intro w_5 e5
  have i5 := ixs_C i4 e5 (by omega)
  intro w_6 e6
  exact hp _ (ixs_C i5 e6 (by omega))
theorem sX2_copyFrom {T D : Int} {k : Nat} {post : Wd → Prop} {c c1 : Nat} {w : Wd} (hI : IX k T D w) (hp : ∀ (w9 : Wd), IX k T D w9 → post w9) : pX2_copyFrom post (160 + 20 * c) (160 + 20 * c1) w := by
  unfold pX2_copyFrom
  refine sX2_copySeals hI (fun w_1 i1 => ?_)
  refine sX2_copyPrints i1 (fun w_2 i2 => ?_)
  intro w_3 e3
  have i3 := ixs_n i2 e3 (by unfold nX; omega)
  intro w_4 e4
  have i4 := ixs_n i3 e4 (by unfold nX; omega)
  intro w_5 e5
  exact hp _ (ixs_n i4 e5 (by unfold nX; omega))
theorem i_cz {x : Int32} {z : Int} (t : Ti x z) : x.toNatClampNeg = z.toNat := by
  have t : x.toInt = z := t
  rw [← t]; rfl
theorem sX10_image {T D : Int} {k : Nat} {post : Int32 → Wd → Prop} {x1 : Int32} {zx1 : Int} {w : Wd} (tx1 : Ti x1 zx1) (hI : IX k T D w) (hp : ∀ (r : Int32) (zr : Int) (w9 : Wd), Ti r zr → IX k T D w9 → post r w9) : pX10_image post x1 w := by
  unfold pX10_image
  refine ⟨fun c => hp _ _ _ lit_m1 hI, fun c => ⟨fun c2 => ?_, fun c2 => hp _ _ _ lit_m1 hI⟩⟩
  replace c := c_nlt tx1 lit_0 c
  replace c2 := c_lt tx1 lit_3 c2
  have e0 := i_cz tx1
  have e : 180 + 20 * x1.toNatClampNeg = 160 + 20 * (x1.toNatClampNeg + 1) := by omega
  refine ⟨vp_of tx1 (by omega) (by omega), by unfold cOk; omega, ?_⟩
  rw [e]
  refine sX2_copyFrom (c := x1.toNatClampNeg + 1) (c1 := 0) hI (fun w_3 i3 => ?_)
  refine ⟨vp_of tx1 (by omega) (by omega), ?_⟩
  intro w_4 e4
  exact hp _ _ _ rfl (ixs_A i3 e4 (by decide))
theorem sX10_back {T D : Int} {k : Nat} {post : Int32 → Wd → Prop} {x1 : Int32} {zx1 : Int} {w : Wd} (tx1 : Ti x1 zx1) (hI : IX k T D w) (hp : ∀ (r : Int32) (zr : Int) (w9 : Wd) (D9 : Int), Ti r zr → IX k T D9 w9 → post r w9) : pX10_back post x1 w := by
  unfold pX10_back
  refine ⟨fun c => hp _ _ _ _ lit_m1 hI, fun c => ⟨fun c2 => hp _ _ _ _ lit_m1 hI, fun c2 => ?_⟩⟩
  replace c := c_nlt tx1 lit_0 c
  replace c2 := c_nle lit_3 tx1 c2
  have e0 := i_cz tx1
  have e : 180 + 20 * x1.toNatClampNeg = 160 + 20 * (x1.toNatClampNeg + 1) := by omega
  refine ⟨vp_of tx1 (by omega) (by omega), fun c3 => ?_, fun c3 => hp _ _ _ _ lit_m1 hI⟩
  refine ⟨vp_of tx1 (by omega) (by omega), by unfold cOk; omega, ?_⟩
  rw [e]
  refine sX2_copyFrom (c := 0) (c1 := x1.toNatClampNeg + 1) hI (fun w_4 i4 => ?_)
  exact sX0_forget (hI := i4) (hp := fun w_5 i5 => hp _ _ _ _ rfl i5)
set_option maxHeartbeats 4000000 in
set_option maxRecDepth 100000 in
theorem sX10_about {T D : Int} {k : Nat} {post : Int32 → Wd → Prop} {x1 : Int32} {zx1 : Int} {w : Wd}  (tx1 : Ti x1 zx1) (hI : IX k T D w)  (hp : ∀ (r : Int32) (zr : Int), Ti r zr → post r w) : pX10_about   post  x1 w := by
  unfold pX10_about
  have hk := ix_k hI
  refine ⟨fun c3520 => ?_, fun c3520 => ?_, fun c3520 => ?_, fun c3520 => ?_, fun c3520 => ?_, fun c3520 => ?_, fun c3520 => ?_, fun c3520 => ?_, fun c3520 => ?_, fun c3520 => ?_, fun c3520 => ?_, fun c3520 => ?_, fun c3520 => ?_, fun c3520 => ?_, fun c3520 => ?_⟩
  · rw [show x1.toInt = zx1 from tx1] at c3520
    exact hp _ _ lit_m1 
  · rw [show x1.toInt = zx1 from tx1] at c3520
    obtain ⟨z3521, t3522⟩ := t_any (w.1 (rl (w.2.2.2.2 0)) 2)
    have f3523 := ixg_r2 hI t3522
    exact hp _ _ t3522 
  · rw [show x1.toInt = zx1 from tx1] at c3520
    obtain ⟨z3524, t3525⟩ := t_any (w.1 (rl (w.2.2.2.2 0)) 0)
    have f3526 := ixg_r0 hI t3525
    exact hp _ _ t3525 
  · rw [show x1.toInt = zx1 from tx1] at c3520
    obtain ⟨z3527, t3528⟩ := t_any (w.1 160 0)
    have f3529 := ixg_c0 hI t3528
    exact hp _ _ t3528 
  · rw [show x1.toInt = zx1 from tx1] at c3520
    obtain ⟨z3530, t3531⟩ := t_any (w.1 160 6)
    have f3532 := ixg_c6 hI t3531
    exact hp _ _ t3531 
  · rw [show x1.toInt = zx1 from tx1] at c3520
    obtain ⟨z3533, t3534⟩ := t_any (w.1 160 11)
    exact hp _ _ t3534 
  · rw [show x1.toInt = zx1 from tx1] at c3520
    obtain ⟨z3535, t3536⟩ := t_any (w.1 160 12)
    exact hp _ _ t3536 
  · rw [show x1.toInt = zx1 from tx1] at c3520
    obtain ⟨z3537, t3538⟩ := t_any (w.1 160 13)
    exact hp _ _ t3538 
  · rw [show x1.toInt = zx1 from tx1] at c3520
    obtain ⟨z3539, t3540⟩ := t_any (w.1 50 7)
    have f3541 := ixg_50_7 hI t3540
    exact hp _ _ t3540 
  · rw [show x1.toInt = zx1 from tx1] at c3520
    obtain ⟨z3542, t3543⟩ := t_any (w.1 50 8)
    exact hp _ _ t3543 
  · rw [show x1.toInt = zx1 from tx1] at c3520
    obtain ⟨z3544, t3545⟩ := t_any (w.1 70 0)
    have f3546 := ixg_70_0 hI t3545
    exact hp _ _ t3545 
  · rw [show x1.toInt = zx1 from tx1] at c3520
    obtain ⟨z3547, t3548⟩ := t_any (w.1 70 1)
    have f3549 := ixg_70_1 hI t3548
    exact hp _ _ t3548 
  · rw [show x1.toInt = zx1 from tx1] at c3520
    obtain ⟨z3550, t3551⟩ := t_any (w.1 0 13)
    have f3552 := ixg_0_13 hI t3551
    exact hp _ _ t3551 
  · rw [show x1.toInt = zx1 from tx1] at c3520
    obtain ⟨z3553, t3554⟩ := t_any (w.1 (rl (w.2.2.2.2 0)) 5)
    exact hp _ _ t3554 
  · rw [show x1.toInt = zx1 from tx1] at c3520
    obtain ⟨z3555, t3556⟩ := t_any (w.1 110 1)
    have f3557 := ixg_110_1 hI t3556
    exact hp _ _ t3556 
