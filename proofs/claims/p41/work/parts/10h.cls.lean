set_option maxHeartbeats 4000000 in
set_option maxRecDepth 100000 in
theorem sX5_joinClans_2 {T D : Int} {k : Nat} {post : Wd → Prop}   (hp : ∀ (w9 : Wd), IX k T D w9 → post w9) : ∀ (n : Nat) (x1 : Int32) (x2 : Int32) (zx1 : Int) (zx2 : Int) (w : Wd), Ti x1 zx1 → Ti x2 zx2 → IX k T D w → (0 ≤ zx2 ∧ zx2 ≤ 7) → (8 - zx2) < (n : Int) → pX5_joinClans_2   post  n x1 x2 w := by
  intro n
  induction n with
  | zero =>
    intro x1 x2 zx1 zx2 w tx1 tx2 hI h0 hm
    exact absurd hm (by omega)
  | succ n ih =>
    intro x1 x2 zx1 zx2 w tx1 tx2 hI h0 hm
    unfold pX5_joinClans_2
    have hk := ix_k hI
    obtain ⟨z3217, t3218⟩ := t_any (w.1 90 0)
    have f3219 := ixg_90_0 hI t3218
    refine ⟨fun c3220 => ?_, fun c3220 => ?_⟩
    · replace c3220 := c_le t3218 tx2 c3220
      exact ⟨70000, sX5_joinClans_25    (hp := hp) 70000 _ _ _ _ _ tx1 lit_0 hI (by omega) (by omega)⟩
    · replace c3220 := c_nle t3218 tx2 c3220
      refine ⟨vp_of tx2 (by omega) (by omega), ?_⟩
      intro w_2v1650 ew_2v1650
      have hIw_2v1650 := ixs_A hI ew_2v1650 (by decide)
      obtain ⟨z3221, t3222, f3223⟩ := t_add tx2 lit_1
      first | replace f3223 := f3223 (by omega) | clear f3223
      intro x2_3v1651 ex2_3v1651
      have tx2_3v1651 : Ti x2_3v1651 z3221 := by rw [ex2_3v1651]; exact t3222
      exact ih _ _ _ _ _ tx1 tx2_3v1651 hIw_2v1650 (by omega) (by omega)
set_option maxHeartbeats 4000000 in
set_option maxRecDepth 100000 in
theorem sX5_joinClans {T D : Int} {k : Nat} {post : Wd → Prop} {x1 : Int32} {zx1 : Int} {w : Wd}  (tx1 : Ti x1 zx1) (hI : IX k T D w)  (hp : ∀ (w9 : Wd), IX k T D w9 → post w9) : pX5_joinClans   post  x1 w := by
  unfold pX5_joinClans
  have hk := ix_k hI
  exact ⟨70000, sX5_joinClans_2    (hp := hp) 70000 _ _ _ _ _ tx1 lit_0 hI (by omega) (by omega)⟩
set_option maxHeartbeats 4000000 in
set_option maxRecDepth 100000 in
theorem sX5_largestClan_17 {T D : Int} {k : Nat} {k4 : Int32 → Int32 → Wd → Prop} {M4 : Int} {post : Int32 → Wd → Prop} {w : Wd} (hk4 : ∀ (x1 : Int32) (x2 : Int32) (zx1 : Int) (zx2 : Int), Ti x1 zx1 → Ti x2 zx2 → IX k T D w → (0 ≤ zx2 ∧ zx2 ≤ 7) → (8 - zx2) < M4 → k4 x1 x2 w) (hp : ∀ (r : Int32) (zr : Int), Ti r zr → post r w) : ∀ (n : Nat) (x1 : Int32) (x2 : Int32) (x3 : Int32) (x4 : Int32) (zx1 : Int) (zx2 : Int) (zx3 : Int) (zx4 : Int), Ti x1 zx1 → Ti x2 zx2 → Ti x3 zx3 → Ti x4 zx4 → IX k T D w → (0 ≤ zx4 ∧ zx4 ≤ 7) → (zx2 ≤ 6) → (0 ≤ zx2 ∧ zx2 ≤ 7) → ((8 - zx2) ≤ M4) → (8 - zx4) < (n : Int) → pX5_largestClan_17 k4  post  n x1 x2 x3 x4 w := by
  intro n
  induction n with
  | zero =>
    intro x1 x2 x3 x4 zx1 zx2 zx3 zx4  tx1 tx2 tx3 tx4 hI h0 h1 h2 h3 hm
    exact absurd hm (by omega)
  | succ n ih =>
    intro x1 x2 x3 x4 zx1 zx2 zx3 zx4  tx1 tx2 tx3 tx4 hI h0 h1 h2 h3 hm
    unfold pX5_largestClan_17
    have hk := ix_k hI
    obtain ⟨z3224, t3225⟩ := t_any (w.1 90 0)
    have f3226 := ixg_90_0 hI t3225
    refine ⟨fun c3227 => ?_, fun c3227 => ?_⟩
    · replace c3227 := c_le t3225 tx4 c3227
      obtain ⟨z3228, t3229, f3230⟩ := t_ite tx1 tx3 tx3 tx1
      intro x1_2v1652 ex1_2v1652
      have tx1_2v1652 : Ti x1_2v1652 z3228 := by rw [ex1_2v1652]; exact t3229
      obtain ⟨z3231, t3232, f3233⟩ := t_add tx2 lit_1
      first | replace f3233 := f3233 (by omega) | clear f3233
      intro x2_3v1653 ex2_3v1653
      have tx2_3v1653 : Ti x2_3v1653 z3231 := by rw [ex2_3v1653]; exact t3232
      exact hk4 _ _ _ _  tx1_2v1652 tx2_3v1653 hI (by omega) (by omega)
    · replace c3227 := c_nle t3225 tx4 c3227
      refine ⟨vp_of tx4 (by omega) (by omega), ?_⟩
      obtain ⟨z3234, t3235⟩ := t_any (w.2.1 100 x4.toNatClampNeg)
      refine ⟨fun c3236 => ?_, fun c3236 => ?_⟩
      · replace c3236 := c_neq t3235 tx2 c3236
        unfold pX5_largestClan_43
        obtain ⟨z3237, t3238, f3239⟩ := t_add tx3 lit_0
        first | replace f3239 := f3239 (by omega) | clear f3239
        intro x3_1v1654 ex3_1v1654
        have tx3_1v1654 : Ti x3_1v1654 z3237 := by rw [ex3_1v1654]; exact t3238
        obtain ⟨z3240, t3241, f3242⟩ := t_add tx4 lit_1
        first | replace f3242 := f3242 (by omega) | clear f3242
        intro x4_2v1655 ex4_2v1655
        have tx4_2v1655 : Ti x4_2v1655 z3240 := by rw [ex4_2v1655]; exact t3241
        exact ih _ _ _ _ _ _ _ _  tx1 tx2 tx3_1v1654 tx4_2v1655 hI (by omega) (by omega) (by omega) (by omega) (by omega)
      · replace c3236 := c_eq t3235 tx2 c3236
        unfold pX5_largestClan_43
        obtain ⟨z3243, t3244, f3245⟩ := t_add tx3 lit_1
        first | replace f3245 := f3245 (by omega) | clear f3245
        intro x3_1v1656 ex3_1v1656
        have tx3_1v1656 : Ti x3_1v1656 z3243 := by rw [ex3_1v1656]; exact t3244
        obtain ⟨z3246, t3247, f3248⟩ := t_add tx4 lit_1
        first | replace f3248 := f3248 (by omega) | clear f3248
        intro x4_2v1657 ex4_2v1657
        have tx4_2v1657 : Ti x4_2v1657 z3246 := by rw [ex4_2v1657]; exact t3247
        exact ih _ _ _ _ _ _ _ _  tx1 tx2 tx3_1v1656 tx4_2v1657 hI (by omega) (by omega) (by omega) (by omega) (by omega)
set_option maxHeartbeats 4000000 in
set_option maxRecDepth 100000 in
theorem sX5_largestClan_4 {T D : Int} {k : Nat} {post : Int32 → Wd → Prop} {w : Wd}  (hp : ∀ (r : Int32) (zr : Int), Ti r zr → post r w) : ∀ (n : Nat) (x1 : Int32) (x2 : Int32) (zx1 : Int) (zx2 : Int), Ti x1 zx1 → Ti x2 zx2 → IX k T D w → (0 ≤ zx2 ∧ zx2 ≤ 7) → (8 - zx2) < (n : Int) → pX5_largestClan_4   post  n x1 x2 w := by
  intro n
  induction n with
  | zero =>
    intro x1 x2 zx1 zx2  tx1 tx2 hI h0 hm
    exact absurd hm (by omega)
  | succ n ih =>
    intro x1 x2 zx1 zx2  tx1 tx2 hI h0 hm
    unfold pX5_largestClan_4
    have hk := ix_k hI
    obtain ⟨z3249, t3250⟩ := t_any (w.1 90 0)
    have f3251 := ixg_90_0 hI t3250
    refine ⟨fun c3252 => ?_, fun c3252 => ?_⟩
    · replace c3252 := c_le t3250 tx2 c3252
      exact hp _ _ tx1 
    · replace c3252 := c_nle t3250 tx2 c3252
      exact ⟨70000, sX5_largestClan_17  (M4 := (n : Int)) (hk4 := ih)  (hp := hp) 70000 _ _ _ _ _ _ _ _  tx1 tx2 lit_0 lit_0 hI (by omega) (by omega) (by omega) (by omega) (by omega)⟩
set_option maxHeartbeats 4000000 in
set_option maxRecDepth 100000 in
theorem sX5_largestClan {T D : Int} {k : Nat} {post : Int32 → Wd → Prop}  {w : Wd}   (hI : IX k T D w)  (hp : ∀ (r : Int32) (zr : Int), Ti r zr → post r w) : pX5_largestClan   post   w := by
  unfold pX5_largestClan
  have hk := ix_k hI
  exact ⟨70000, sX5_largestClan_4    (hp := hp) 70000 _ _ _ _  lit_0 lit_0 hI (by omega) (by omega)⟩
set_option maxHeartbeats 4000000 in
set_option maxRecDepth 100000 in
theorem sX10_clans {T D : Int} {k : Nat} {post : Int32 → Wd → Prop} {x1 : Int32} {zx1 : Int} {x2 : Int32} {zx2 : Int} {x3 : Int32} {zx3 : Int} {w : Wd}  (tx1 : Ti x1 zx1) (tx2 : Ti x2 zx2) (tx3 : Ti x3 zx3) (hI : IX k T D w)  (hp : ∀ (r : Int32) (zr : Int) (w9 : Wd), Ti r zr → IX k T D w9 → post r w9) : pX10_clans   post  x1 x2 x3 w := by
  unfold pX10_clans
  have hk := ix_k hI
  refine ⟨fun c3253 => ?_, fun c3253 => ?_⟩
  · replace c3253 := c_lt tx1 lit_0 c3253
    exact hp _ _ _  lit_m1 hI 
  · replace c3253 := c_nlt tx1 lit_0 c3253
    refine ⟨fun c3254 => ?_, fun c3254 => ?_⟩
    · replace c3254 := c_lt lit_24 tx1 c3254
      exact hp _ _ _  lit_m1 hI 
    · replace c3254 := c_nlt lit_24 tx1 c3254
      refine ⟨fun c3255 => ?_, fun c3255 => ?_⟩
      · replace c3255 := c_lt tx2 lit_0 c3255
        exact hp _ _ _  lit_m1 hI 
      · replace c3255 := c_nlt tx2 lit_0 c3255
        refine ⟨fun c3256 => ?_, fun c3256 => ?_⟩
        · replace c3256 := c_le tx2 lit_1 c3256
          obtain ⟨z3257, t3258⟩ := t_any (w.1 (rl (w.2.2.2.2 0)) 0)
          have f3259 := ixg_r0 hI t3258
          refine sX5_gather   (hI := hI) (tx2 := tx3) (tx3 := t3258)  (hp := fun  w_5v1658   hIw_5v1658  => ?_)
          refine sX5_joinClans   (hI := hIw_5v1658) (tx1 := tx1)  (hp := fun  w_6v1659   hIw_6v1659  => ?_)
          refine ⟨fun c3260 => ?_, fun c3260 => ?_⟩
          · replace c3260 := c_neq tx2 lit_0 c3260
            refine sX5_largestClan   (hI := hIw_6v1659)   (hp := fun r_8v1660 zr_8v1660 tr_8v1660 => ?_)
            exact hp _ _ _  tr_8v1660 hIw_6v1659 
          · replace c3260 := c_eq tx2 lit_0 c3260
            refine sX5_clanCount   (hI := hIw_6v1659)   (hp := fun r_10v1662 zr_10v1662 tr_10v1662 => ?_)
            exact hp _ _ _  tr_10v1662 hIw_6v1659 
        · replace c3256 := c_nle tx2 lit_1 c3256
          exact hp _ _ _  lit_m1 hI 
set_option maxHeartbeats 4000000 in
set_option maxRecDepth 100000 in
theorem sX10_samplesWith_6 {T D : Int} {k : Nat} {post : Int32 → Wd → Prop} {w : Wd}  (hp : ∀ (r : Int32) (zr : Int), Ti r zr → post r w) : ∀ (n : Nat) (x1 : Int32) (x2 : Int32) (x3 : Int32) (x4 : Int32) (x5 : Int32) (zx1 : Int) (zx2 : Int) (zx3 : Int) (zx4 : Int) (zx5 : Int), Ti x1 zx1 → Ti x2 zx2 → Ti x3 zx3 → Ti x4 zx4 → Ti x5 zx5 → IX k T D w → (0 ≤ zx5 ∧ zx5 ≤ 40) → (41 - zx5) < (n : Int) → pX10_samplesWith_6   post  n x1 x2 x3 x4 x5 w := by
  intro n
  induction n with
  | zero =>
    intro x1 x2 x3 x4 x5 zx1 zx2 zx3 zx4 zx5  tx1 tx2 tx3 tx4 tx5 hI h0 hm
    exact absurd hm (by omega)
  | succ n ih =>
    intro x1 x2 x3 x4 x5 zx1 zx2 zx3 zx4 zx5  tx1 tx2 tx3 tx4 tx5 hI h0 hm
    unfold pX10_samplesWith_6
    have hk := ix_k hI
    obtain ⟨z3261, t3262⟩ := t_any (w.1 70 0)
    have f3263 := ixg_70_0 hI t3262
    refine ⟨fun c3264 => ?_, fun c3264 => ?_⟩
    · replace c3264 := c_le t3262 tx5 c3264
      exact hp _ _ tx4 
    · replace c3264 := c_nle t3262 tx5 c3264
      refine sX3_counts   (hI := hI) (tx1 := tx5) (tx2 := lit_0) (tx3 := tx3)  (hp := fun r_2v1664 zr_2v1664 tr_2v1664 => ?_)
      refine ⟨fun c3265 => ?_, fun c3265 => ?_⟩
      · replace c3265 := c_eq tr_2v1664 lit_0 c3265
        unfold pX10_samplesWith_103
        obtain ⟨z3266, t3267, f3268⟩ := t_add tx5 lit_1
        first | replace f3268 := f3268 (by omega) | clear f3268
        intro x5_1v1666 ex5_1v1666
        have tx5_1v1666 : Ti x5_1v1666 z3266 := by rw [ex5_1v1666]; exact t3267
        exact ih _ _ _ _ _ _ _ _ _ _  tx1 tx2 tx3 tx4 tx5_1v1666 hI (by omega) (by omega)
      · replace c3265 := c_neq tr_2v1664 lit_0 c3265
        refine ⟨vp_of tx5 (by omega) (by omega), ?_⟩
        obtain ⟨z3269, t3270⟩ := t_any (w.2.1 76 x5.toNatClampNeg)
        refine ⟨fun c3271 => ?_, fun c3271 => ?_⟩
        · replace c3271 := c_eq t3270 lit_0 c3271
          unfold pX10_samplesWith_60
          refine ⟨vp_of tx5 (by omega) (by omega), ?_⟩
          obtain ⟨z3272, t3273, f3274⟩ := t_and (x := ((w.2.1 74 x5.toNatClampNeg) >>> (x1 &&& 31))) lit_1 (by decide)
          refine ⟨fun c3275 => ?_, fun c3275 => ?_⟩
          · replace c3275 := c_eq t3273 lit_0 c3275
            unfold pX10_samplesWith_85
            refine ⟨fun c3276 => ?_, fun c3276 => ?_⟩
            · replace c3276 := c_neq lit_0 tx2 c3276
              unfold pX10_samplesWith_100
              obtain ⟨z3277, t3278, f3279⟩ := t_add tx4 lit_0
              first | replace f3279 := f3279 (by omega) | clear f3279
              intro x4_1v1667 ex4_1v1667
              have tx4_1v1667 : Ti x4_1v1667 z3277 := by rw [ex4_1v1667]; exact t3278
              unfold pX10_samplesWith_103
              obtain ⟨z3280, t3281, f3282⟩ := t_add tx5 lit_1
              first | replace f3282 := f3282 (by omega) | clear f3282
              intro x5_1v1668 ex5_1v1668
              have tx5_1v1668 : Ti x5_1v1668 z3280 := by rw [ex5_1v1668]; exact t3281
              exact ih _ _ _ _ _ _ _ _ _ _  tx1 tx2 tx3 tx4_1v1667 tx5_1v1668 hI (by omega) (by omega)
            · replace c3276 := c_eq lit_0 tx2 c3276
              unfold pX10_samplesWith_100
              obtain ⟨z3283, t3284, f3285⟩ := t_add tx4 lit_1
              first | replace f3285 := f3285 (by omega) | clear f3285
              intro x4_1v1669 ex4_1v1669
              have tx4_1v1669 : Ti x4_1v1669 z3283 := by rw [ex4_1v1669]; exact t3284
              unfold pX10_samplesWith_103
              obtain ⟨z3286, t3287, f3288⟩ := t_add tx5 lit_1
              first | replace f3288 := f3288 (by omega) | clear f3288
              intro x5_1v1670 ex5_1v1670
              have tx5_1v1670 : Ti x5_1v1670 z3286 := by rw [ex5_1v1670]; exact t3287
              exact ih _ _ _ _ _ _ _ _ _ _  tx1 tx2 tx3 tx4_1v1669 tx5_1v1670 hI (by omega) (by omega)
          · replace c3275 := c_neq t3273 lit_0 c3275
            unfold pX10_samplesWith_85
            refine ⟨fun c3289 => ?_, fun c3289 => ?_⟩
            · replace c3289 := c_neq lit_1 tx2 c3289
              unfold pX10_samplesWith_100
              obtain ⟨z3290, t3291, f3292⟩ := t_add tx4 lit_0
              first | replace f3292 := f3292 (by omega) | clear f3292
              intro x4_1v1671 ex4_1v1671
              have tx4_1v1671 : Ti x4_1v1671 z3290 := by rw [ex4_1v1671]; exact t3291
              unfold pX10_samplesWith_103
              obtain ⟨z3293, t3294, f3295⟩ := t_add tx5 lit_1
              first | replace f3295 := f3295 (by omega) | clear f3295
              intro x5_1v1672 ex5_1v1672
              have tx5_1v1672 : Ti x5_1v1672 z3293 := by rw [ex5_1v1672]; exact t3294
              exact ih _ _ _ _ _ _ _ _ _ _  tx1 tx2 tx3 tx4_1v1671 tx5_1v1672 hI (by omega) (by omega)
            · replace c3289 := c_eq lit_1 tx2 c3289
              unfold pX10_samplesWith_100
              obtain ⟨z3296, t3297, f3298⟩ := t_add tx4 lit_1
              first | replace f3298 := f3298 (by omega) | clear f3298
              intro x4_1v1673 ex4_1v1673
              have tx4_1v1673 : Ti x4_1v1673 z3296 := by rw [ex4_1v1673]; exact t3297
              unfold pX10_samplesWith_103
              obtain ⟨z3299, t3300, f3301⟩ := t_add tx5 lit_1
              first | replace f3301 := f3301 (by omega) | clear f3301
              intro x5_1v1674 ex5_1v1674
              have tx5_1v1674 : Ti x5_1v1674 z3299 := by rw [ex5_1v1674]; exact t3300
              exact ih _ _ _ _ _ _ _ _ _ _  tx1 tx2 tx3 tx4_1v1673 tx5_1v1674 hI (by omega) (by omega)
        · replace c3271 := c_neq t3270 lit_0 c3271
          unfold pX10_samplesWith_60
          refine ⟨vp_of tx5 (by omega) (by omega), ?_⟩
          obtain ⟨z3302, t3303, f3304⟩ := t_and (x := ((w.2.1 74 x5.toNatClampNeg) >>> ((((w.1 (rl (w.2.2.2.2 0)) 0) - (1 : Int32)) - x1) &&& 31))) lit_1 (by decide)
          refine ⟨fun c3305 => ?_, fun c3305 => ?_⟩
          · replace c3305 := c_eq t3303 lit_0 c3305
            unfold pX10_samplesWith_85
            refine ⟨fun c3306 => ?_, fun c3306 => ?_⟩
            · replace c3306 := c_neq lit_0 tx2 c3306
              unfold pX10_samplesWith_100
              obtain ⟨z3307, t3308, f3309⟩ := t_add tx4 lit_0
              first | replace f3309 := f3309 (by omega) | clear f3309
              intro x4_1v1675 ex4_1v1675
              have tx4_1v1675 : Ti x4_1v1675 z3307 := by rw [ex4_1v1675]; exact t3308
              unfold pX10_samplesWith_103
              obtain ⟨z3310, t3311, f3312⟩ := t_add tx5 lit_1
              first | replace f3312 := f3312 (by omega) | clear f3312
              intro x5_1v1676 ex5_1v1676
              have tx5_1v1676 : Ti x5_1v1676 z3310 := by rw [ex5_1v1676]; exact t3311
              exact ih _ _ _ _ _ _ _ _ _ _  tx1 tx2 tx3 tx4_1v1675 tx5_1v1676 hI (by omega) (by omega)
            · replace c3306 := c_eq lit_0 tx2 c3306
              unfold pX10_samplesWith_100
              obtain ⟨z3313, t3314, f3315⟩ := t_add tx4 lit_1
              first | replace f3315 := f3315 (by omega) | clear f3315
              intro x4_1v1677 ex4_1v1677
              have tx4_1v1677 : Ti x4_1v1677 z3313 := by rw [ex4_1v1677]; exact t3314
              unfold pX10_samplesWith_103
              obtain ⟨z3316, t3317, f3318⟩ := t_add tx5 lit_1
              first | replace f3318 := f3318 (by omega) | clear f3318
              intro x5_1v1678 ex5_1v1678
              have tx5_1v1678 : Ti x5_1v1678 z3316 := by rw [ex5_1v1678]; exact t3317
              exact ih _ _ _ _ _ _ _ _ _ _  tx1 tx2 tx3 tx4_1v1677 tx5_1v1678 hI (by omega) (by omega)
          · replace c3305 := c_neq t3303 lit_0 c3305
            unfold pX10_samplesWith_85
            refine ⟨fun c3319 => ?_, fun c3319 => ?_⟩
            · replace c3319 := c_neq lit_1 tx2 c3319
              unfold pX10_samplesWith_100
              obtain ⟨z3320, t3321, f3322⟩ := t_add tx4 lit_0
              first | replace f3322 := f3322 (by omega) | clear f3322
              intro x4_1v1679 ex4_1v1679
              have tx4_1v1679 : Ti x4_1v1679 z3320 := by rw [ex4_1v1679]; exact t3321
              unfold pX10_samplesWith_103
              obtain ⟨z3323, t3324, f3325⟩ := t_add tx5 lit_1
              first | replace f3325 := f3325 (by omega) | clear f3325
              intro x5_1v1680 ex5_1v1680
              have tx5_1v1680 : Ti x5_1v1680 z3323 := by rw [ex5_1v1680]; exact t3324
              exact ih _ _ _ _ _ _ _ _ _ _  tx1 tx2 tx3 tx4_1v1679 tx5_1v1680 hI (by omega) (by omega)
            · replace c3319 := c_eq lit_1 tx2 c3319
              unfold pX10_samplesWith_100
              obtain ⟨z3326, t3327, f3328⟩ := t_add tx4 lit_1
              first | replace f3328 := f3328 (by omega) | clear f3328
              intro x4_1v1681 ex4_1v1681
              have tx4_1v1681 : Ti x4_1v1681 z3326 := by rw [ex4_1v1681]; exact t3327
              unfold pX10_samplesWith_103
              obtain ⟨z3329, t3330, f3331⟩ := t_add tx5 lit_1
              first | replace f3331 := f3331 (by omega) | clear f3331
              intro x5_1v1682 ex5_1v1682
              have tx5_1v1682 : Ti x5_1v1682 z3329 := by rw [ex5_1v1682]; exact t3330
              exact ih _ _ _ _ _ _ _ _ _ _  tx1 tx2 tx3 tx4_1v1681 tx5_1v1682 hI (by omega) (by omega)
set_option maxHeartbeats 4000000 in
set_option maxRecDepth 100000 in
theorem sX10_samplesWith {T D : Int} {k : Nat} {post : Int32 → Wd → Prop} {x1 : Int32} {zx1 : Int} {x2 : Int32} {zx2 : Int} {x3 : Int32} {zx3 : Int} {w : Wd}  (tx1 : Ti x1 zx1) (tx2 : Ti x2 zx2) (tx3 : Ti x3 zx3) (hI : IX k T D w)  (hp : ∀ (r : Int32) (zr : Int), Ti r zr → post r w) : pX10_samplesWith   post  x1 x2 x3 w := by
  unfold pX10_samplesWith
  have hk := ix_k hI
  exact ⟨70000, sX10_samplesWith_6    (hp := hp) 70000 _ _ _ _ _ _ _ _ _ _  tx1 tx2 tx3 lit_0 lit_0 hI (by omega) (by omega)⟩
set_option maxHeartbeats 4000000 in
set_option maxRecDepth 100000 in
theorem sX10_origin_19 {T D : Int} {k : Nat} {post : Int32 → Wd → Prop} {w : Wd}  (hp : ∀ (r : Int32) (zr : Int), Ti r zr → post r w) : ∀ (n : Nat) (x1 : Int32) (x2 : Int32) (x3 : Int32) (x4 : Int32) (x5 : Int32) (zx1 : Int) (zx2 : Int) (zx3 : Int) (zx4 : Int) (zx5 : Int), Ti x1 zx1 → Ti x2 zx2 → Ti x3 zx3 → Ti x4 zx4 → Ti x5 zx5 → IX k T D w → (0 ≤ zx5 ∧ zx5 ≤ 12) → (13 - zx5) < (n : Int) → pX10_origin_19   post  n x1 x2 x3 x4 x5 w := by
  intro n
  induction n with
  | zero =>
    intro x1 x2 x3 x4 x5 zx1 zx2 zx3 zx4 zx5  tx1 tx2 tx3 tx4 tx5 hI h0 hm
    exact absurd hm (by omega)
  | succ n ih =>
    intro x1 x2 x3 x4 x5 zx1 zx2 zx3 zx4 zx5  tx1 tx2 tx3 tx4 tx5 hI h0 hm
    unfold pX10_origin_19
    have hk := ix_k hI
    obtain ⟨z3332, t3333⟩ := t_any (w.1 (rl (w.2.2.2.2 0)) 0)
    have f3334 := ixg_r0 hI t3333
    refine ⟨fun c3335 => ?_, fun c3335 => ?_⟩
    · replace c3335 := c_le t3333 tx5 c3335
      refine ⟨fun c3336 => ?_, fun c3336 => ?_⟩
      · replace c3336 := c_neq tx1 lit_0 c3336
        exact hp _ _ tx4 
      · replace c3336 := c_eq tx1 lit_0 c3336
        exact hp _ _ tx3 
    · replace c3335 := c_nle t3333 tx5 c3335
      refine sX10_samplesWith   (hI := hI) (tx1 := tx5) (tx2 := lit_0) (tx3 := tx2)  (hp := fun r_3v1683 zr_3v1683 tr_3v1683 => ?_)
      refine sX10_samplesWith   (hI := hI) (tx1 := tx5) (tx2 := lit_1) (tx3 := tx2)  (hp := fun r_5v1688 zr_5v1688 tr_5v1688 => ?_)
      obtain ⟨z3337, t3338, f3339⟩ := t_mul lit_2 tr_5v1688
      first | replace f3339 := f3339 (by omega) | clear f3339
      refine ⟨fun c3340 => ?_, fun c3340 => ?_⟩
      · replace c3340 := c_le t3338 tr_3v1683 c3340
        unfold pX10_origin_67
        obtain ⟨z3341, t3342, f3343⟩ := t_ite t3338 tr_3v1683 t3338 tr_3v1683
        obtain ⟨z3344, t3345, f3346⟩ := t_add tx4 t3342
        first | replace f3346 := f3346 (by omega) | clear f3346
        intro x4_1v1692 ex4_1v1692
        have tx4_1v1692 : Ti x4_1v1692 z3344 := by rw [ex4_1v1692]; exact t3345
        obtain ⟨z3347, t3348, f3349⟩ := t_add tx5 lit_1
        first | replace f3349 := f3349 (by omega) | clear f3349
        intro x5_2v1693 ex5_2v1693
        have tx5_2v1693 : Ti x5_2v1693 z3347 := by rw [ex5_2v1693]; exact t3348
        exact ih _ _ _ _ _ _ _ _ _ _  tx1 tx2 tx3 tx4_1v1692 tx5_2v1693 hI (by omega) (by omega)
      · replace c3340 := c_nle t3338 tr_3v1683 c3340
        obtain ⟨z3350, t3351⟩ := t_any (x3 ||| ((1 : Int32) <<< (x5 &&& 31)))
        intro x3_8v1691 ex3_8v1691
        have tx3_8v1691 : Ti x3_8v1691 z3350 := by rw [ex3_8v1691]; exact t3351
        unfold pX10_origin_67
        obtain ⟨z3352, t3353, f3354⟩ := t_ite t3338 tr_3v1683 t3338 tr_3v1683
        obtain ⟨z3355, t3356, f3357⟩ := t_add tx4 t3353
        first | replace f3357 := f3357 (by omega) | clear f3357
        intro x4_1v1694 ex4_1v1694
        have tx4_1v1694 : Ti x4_1v1694 z3355 := by rw [ex4_1v1694]; exact t3356
        obtain ⟨z3358, t3359, f3360⟩ := t_add tx5 lit_1
        first | replace f3360 := f3360 (by omega) | clear f3360
        intro x5_2v1695 ex5_2v1695
        have tx5_2v1695 : Ti x5_2v1695 z3358 := by rw [ex5_2v1695]; exact t3359
        exact ih _ _ _ _ _ _ _ _ _ _  tx1 tx2 tx3_8v1691 tx4_1v1694 tx5_2v1695 hI (by omega) (by omega)
set_option maxHeartbeats 4000000 in
set_option maxRecDepth 100000 in
theorem sX10_origin {T D : Int} {k : Nat} {post : Int32 → Wd → Prop} {x1 : Int32} {zx1 : Int} {x2 : Int32} {zx2 : Int} {w : Wd}  (tx1 : Ti x1 zx1) (tx2 : Ti x2 zx2) (hI : IX k T D w)  (hp : ∀ (r : Int32) (zr : Int), Ti r zr → post r w) : pX10_origin   post  x1 x2 w := by
  unfold pX10_origin
  have hk := ix_k hI
  refine ⟨fun c3361 => ?_, fun c3361 => ?_⟩
  · replace c3361 := c_lt tx1 lit_0 c3361
    exact hp _ _ lit_m1 
  · replace c3361 := c_nlt tx1 lit_0 c3361
    refine ⟨fun c3362 => ?_, fun c3362 => ?_⟩
    · replace c3362 := c_le tx1 lit_1 c3362
      exact ⟨70000, sX10_origin_19    (hp := hp) 70000 _ _ _ _ _ _ _ _ _ _  tx1 tx2 lit_0 lit_0 lit_0 hI (by omega) (by omega)⟩
    · replace c3362 := c_nle tx1 lit_1 c3362
      exact hp _ _ lit_m1 
set_option maxHeartbeats 4000000 in
set_option maxRecDepth 100000 in
theorem sX10_isFalse {T D : Int} {k : Nat} {post : Int32 → Wd → Prop} {x1 : Int32} {zx1 : Int} {w : Wd}  (tx1 : Ti x1 zx1) (hI : IX k T D w) (h0 : 0 ≤ zx1 ∧ zx1 ≤ 39) (hp : ∀ (r : Int32) (zr : Int), Ti r zr → post r w) : pX10_isFalse   post  x1 w := by
  unfold pX10_isFalse
  have hk := ix_k hI
  refine ⟨vp_of tx1 (by omega) (by omega), ?_⟩
  obtain ⟨z3363, t3364⟩ := t_any (w.2.1 75 x1.toNatClampNeg)
  intro x2_1v1696 ex2_1v1696
  have tx2_1v1696 : Ti x2_1v1696 z3363 := by rw [ex2_1v1696]; exact t3364
  refine sX10_isSeal   (hI := hI) (tx1 := tx2_1v1696)  (hp := fun r_2v1697 zr_2v1697 tr_2v1697 p3365 => ?_)
  refine ⟨fun c3366 => ?_, fun c3366 => ?_⟩
  · replace c3366 := c_eq tr_2v1697 lit_0 c3366
    exact hp _ _ lit_1 
  · replace c3366 := c_neq tr_2v1697 lit_0 c3366
    refine ⟨vp_of tx1 (by omega) (by omega), ?_⟩
    refine sX10_printOf   (hI := hI) (tx1 := tx2_1v1696)  (hp := fun r_5v1701 zr_5v1701 tr_5v1701 => ?_)
    obtain ⟨z3367, t3368⟩ := t_any ((w.2.1 74 x1.toNatClampNeg) &&& (r_5v1701 ^^^ (-1 : Int32)))
    refine ⟨fun c3369 => ?_, fun c3369 => ?_⟩
    · replace c3369 := c_neq t3368 lit_0 c3369
      exact hp _ _ lit_1 
    · replace c3369 := c_eq t3368 lit_0 c3369
      refine ⟨vp_of tx1 (by omega) (by omega), ?_⟩
      refine ⟨vp_of tx2_1v1696 (by omega) (by omega), ?_⟩
      obtain ⟨z3370, t3371⟩ := t_any (w.2.1 165 x2_1v1696.toNatClampNeg)
      obtain ⟨z3372, t3373⟩ := t_any (w.2.1 76 x1.toNatClampNeg)
      refine ⟨fun c3374 => ?_, fun c3374 => ?_⟩
      · replace c3374 := c_le t3371 t3373 c3374
        exact hp _ _ lit_0 
      · replace c3374 := c_nle t3371 t3373 c3374
        exact hp _ _ lit_1 
set_option maxHeartbeats 4000000 in
set_option maxRecDepth 100000 in
theorem sX10_falses_12 {T D : Int} {k : Nat} {post : Int32 → Wd → Prop}   (hp : ∀ (r : Int32) (zr : Int) (w9 : Wd), Ti r zr → IX k T D w9 → post r w9) : ∀ (n : Nat) (x1 : Int32) (x2 : Int32) (x3 : Int32) (zx1 : Int) (zx2 : Int) (zx3 : Int) (w : Wd), Ti x1 zx1 → Ti x2 zx2 → Ti x3 zx3 → IX k T D w → (0 ≤ zx3 ∧ zx3 ≤ 40) → (41 - zx3) < (n : Int) → pX10_falses_12   post  n x1 x2 x3 w := by
  intro n
  induction n with
  | zero =>
    intro x1 x2 x3 zx1 zx2 zx3 w tx1 tx2 tx3 hI h0 hm
    exact absurd hm (by omega)
  | succ n ih =>
    intro x1 x2 x3 zx1 zx2 zx3 w tx1 tx2 tx3 hI h0 hm
    unfold pX10_falses_12
    have hk := ix_k hI
    obtain ⟨z3375, t3376⟩ := t_any (w.1 70 0)
    have f3377 := ixg_70_0 hI t3376
    refine ⟨fun c3378 => ?_, fun c3378 => ?_⟩
    · replace c3378 := c_le t3376 tx3 c3378
      exact hp _ _ _  tx2 hI 
    · replace c3378 := c_nle t3376 tx3 c3378
      refine sX3_counts   (hI := hI) (tx1 := tx3) (tx2 := lit_1) (tx3 := tx1)  (hp := fun r_2v1703 zr_2v1703 tr_2v1703 => ?_)
      refine ⟨fun c3379 => ?_, fun c3379 => ?_⟩
      · replace c3379 := c_eq tr_2v1703 lit_0 c3379
        unfold pX10_falses_61
        obtain ⟨z3380, t3381, f3382⟩ := t_add tx3 lit_1
        first | replace f3382 := f3382 (by omega) | clear f3382
        intro x3_1v1711 ex3_1v1711
        have tx3_1v1711 : Ti x3_1v1711 z3380 := by rw [ex3_1v1711]; exact t3381
        exact ih _ _ _ _ _ _ _ tx1 tx2 tx3_1v1711 hI (by omega) (by omega)
      · replace c3379 := c_neq tr_2v1703 lit_0 c3379
        refine sX10_isFalse   (hI := hI) (tx1 := tx3) (h0 := (by omega)) (hp := fun r_5v1708 zr_5v1708 tr_5v1708 => ?_)
        refine ⟨fun c3383 => ?_, fun c3383 => ?_⟩
        · replace c3383 := c_eq tr_5v1708 lit_0 c3383
          unfold pX10_falses_61
          obtain ⟨z3384, t3385, f3386⟩ := t_add tx3 lit_1
          first | replace f3386 := f3386 (by omega) | clear f3386
          intro x3_1v1713 ex3_1v1713
          have tx3_1v1713 : Ti x3_1v1713 z3384 := by rw [ex3_1v1713]; exact t3385
          exact ih _ _ _ _ _ _ _ tx1 tx2 tx3_1v1713 hI (by omega) (by omega)
        · replace c3383 := c_neq tr_5v1708 lit_0 c3383
          refine ⟨fun c3387 => ?_, fun c3387 => ?_⟩
          · replace c3387 := c_le lit_8 tx2 c3387
            unfold pX10_falses_58
            obtain ⟨z3388, t3389, f3390⟩ := t_add tx2 lit_1
            first | replace f3390 := f3390 (by omega) | clear f3390
            intro x2_1v1714 ex2_1v1714
            have tx2_1v1714 : Ti x2_1v1714 z3388 := by rw [ex2_1v1714]; exact t3389
            unfold pX10_falses_61
            obtain ⟨z3391, t3392, f3393⟩ := t_add tx3 lit_1
            first | replace f3393 := f3393 (by omega) | clear f3393
            intro x3_1v1715 ex3_1v1715
            have tx3_1v1715 : Ti x3_1v1715 z3391 := by rw [ex3_1v1715]; exact t3392
            exact ih _ _ _ _ _ _ _ tx1 tx2_1v1714 tx3_1v1715 hI (by omega) (by omega)
          · replace c3387 := c_nle lit_8 tx2 c3387
            refine sX4_lay   (hI := hI) (tx1 := tx3)  (hp := fun  w_9v1712   hIw_9v1712  => ?_)
            unfold pX10_falses_58
            obtain ⟨z3394, t3395, f3396⟩ := t_add tx2 lit_1
            first | replace f3396 := f3396 (by omega) | clear f3396
            intro x2_1v1716 ex2_1v1716
            have tx2_1v1716 : Ti x2_1v1716 z3394 := by rw [ex2_1v1716]; exact t3395
            unfold pX10_falses_61
            obtain ⟨z3397, t3398, f3399⟩ := t_add tx3 lit_1
            first | replace f3399 := f3399 (by omega) | clear f3399
            intro x3_1v1717 ex3_1v1717
            have tx3_1v1717 : Ti x3_1v1717 z3397 := by rw [ex3_1v1717]; exact t3398
            exact ih _ _ _ _ _ _ _ tx1 tx2_1v1716 tx3_1v1717 hIw_9v1712 (by omega) (by omega)
set_option maxHeartbeats 4000000 in
set_option maxRecDepth 100000 in
theorem sX10_falses {T D : Int} {k : Nat} {post : Int32 → Wd → Prop} {x1 : Int32} {zx1 : Int} {w : Wd}  (tx1 : Ti x1 zx1) (hI : IX k T D w)  (hp : ∀ (r : Int32) (zr : Int) (w9 : Wd), Ti r zr → IX k T D w9 → post r w9) : pX10_falses   post  x1 w := by
  unfold pX10_falses
  have hk := ix_k hI
  intro w_1v1718 ew_1v1718
  have hIw_1v1718 := ixs_110_1 hI ew_1v1718 lit_0 (by omega) (by omega)
  exact ⟨70000, sX10_falses_12    (hp := hp) 70000 _ _ _ _ _ _ _ tx1 lit_0 lit_0 hIw_1v1718 (by omega) (by omega)⟩
set_option maxHeartbeats 4000000 in
set_option maxRecDepth 100000 in
theorem sX10_span_30 {T D : Int} {k : Nat} {post : Int32 → Wd → Prop} {w : Wd}  (hp : ∀ (r : Int32) (zr : Int), Ti r zr → post r w) : ∀ (n : Nat) (x1 : Int32) (x2 : Int32) (x3 : Int32) (x4 : Int32) (x5 : Int32) (x6 : Int32) (zx1 : Int) (zx2 : Int) (zx3 : Int) (zx4 : Int) (zx5 : Int) (zx6 : Int), Ti x1 zx1 → Ti x2 zx2 → Ti x3 zx3 → Ti x4 zx4 → Ti x5 zx5 → Ti x6 zx6 → IX k T D w → (0 ≤ zx6 ∧ zx6 ≤ 40) → (41 - zx6) < (n : Int) → pX10_span_30   post  n x1 x2 x3 x4 x5 x6 w := by
  intro n
  induction n with
  | zero =>
    intro x1 x2 x3 x4 x5 x6 zx1 zx2 zx3 zx4 zx5 zx6  tx1 tx2 tx3 tx4 tx5 tx6 hI h0 hm
    exact absurd hm (by omega)
  | succ n ih =>
    intro x1 x2 x3 x4 x5 x6 zx1 zx2 zx3 zx4 zx5 zx6  tx1 tx2 tx3 tx4 tx5 tx6 hI h0 hm
    unfold pX10_span_30
    have hk := ix_k hI
    obtain ⟨z3400, t3401⟩ := t_any (w.1 70 0)
    have f3402 := ixg_70_0 hI t3401
    refine ⟨fun c3403 => ?_, fun c3403 => ?_⟩
    · replace c3403 := c_le t3401 tx6 c3403
      refine ⟨fun c3404 => ?_, fun c3404 => ?_⟩
      · replace c3404 := c_neq tx2 lit_2 c3404
        refine ⟨fun c3405 => ?_, fun c3405 => ?_⟩
        · replace c3405 := c_le tx4 tx5 c3405
          refine ⟨fun c3406 => ?_, fun c3406 => ?_⟩
          · replace c3406 := c_neq tx2 lit_0 c3406
            exact hp _ _ tx5 
          · replace c3406 := c_eq tx2 lit_0 c3406
            exact hp _ _ tx4 
        · replace c3405 := c_nle tx4 tx5 c3405
          exact hp _ _ lit_m1 
      · replace c3404 := c_eq tx2 lit_2 c3404
        obtain ⟨z3407, t3408, f3409⟩ := t_sub tx5 tx4
        first | replace f3409 := f3409 (by omega) | clear f3409
        obtain ⟨z3410, t3411, f3412⟩ := t_add t3408 lit_1
        first | replace f3412 := f3412 (by omega) | clear f3412
        obtain ⟨z3413, t3414, f3415⟩ := t_ite lit_0 t3411 t3411 lit_0
        exact hp _ _ t3414 
    · replace c3403 := c_nle t3401 tx6 c3403
      refine sX3_counts   (hI := hI) (tx1 := tx6) (tx2 := lit_2) (tx3 := tx3)  (hp := fun r_5v1719 zr_5v1719 tr_5v1719 => ?_)
      refine ⟨fun c3416 => ?_, fun c3416 => ?_⟩
      · replace c3416 := c_eq tr_5v1719 lit_0 c3416
        unfold pX10_span_122
        obtain ⟨z3417, t3418, f3419⟩ := t_add tx6 lit_1
        first | replace f3419 := f3419 (by omega) | clear f3419
        intro x6_1v1725 ex6_1v1725
        have tx6_1v1725 : Ti x6_1v1725 z3417 := by rw [ex6_1v1725]; exact t3418
        exact ih _ _ _ _ _ _ _ _ _ _ _ _  tx1 tx2 tx3 tx4 tx5 tx6_1v1725 hI (by omega) (by omega)
      · replace c3416 := c_neq tr_5v1719 lit_0 c3416
        refine ⟨vp_of tx6 (by omega) (by omega), ?_⟩
        obtain ⟨z3420, t3421⟩ := t_any (w.2.1 74 x6.toNatClampNeg)
        refine ⟨fun c3422 => ?_, fun c3422 => ?_⟩
        · replace c3422 := c_neq t3421 tx1 c3422
          unfold pX10_span_122
          obtain ⟨z3423, t3424, f3425⟩ := t_add tx6 lit_1
          first | replace f3425 := f3425 (by omega) | clear f3425
          intro x6_1v1726 ex6_1v1726
          have tx6_1v1726 : Ti x6_1v1726 z3423 := by rw [ex6_1v1726]; exact t3424
          exact ih _ _ _ _ _ _ _ _ _ _ _ _  tx1 tx2 tx3 tx4 tx5 tx6_1v1726 hI (by omega) (by omega)
        · replace c3422 := c_eq t3421 tx1 c3422
          refine ⟨vp_of tx6 (by omega) (by omega), ?_⟩
          obtain ⟨z3426, t3427⟩ := t_any (w.2.1 76 x6.toNatClampNeg)
          refine ⟨fun c3428 => ?_, fun c3428 => ?_⟩
          · replace c3428 := c_eq t3427 lit_0 c3428
            refine ⟨vp_of tx6 (by omega) (by omega), ?_⟩
            obtain ⟨z3429, t3430⟩ := t_any (w.2.1 75 x6.toNatClampNeg)
            obtain ⟨z3431, t3432, f3433⟩ := t_ite t3430 tx5 t3430 tx5
            intro x5_10v1723 ex5_10v1723
            have tx5_10v1723 : Ti x5_10v1723 z3431 := by rw [ex5_10v1723]; exact t3432
            unfold pX10_span_122
            obtain ⟨z3434, t3435, f3436⟩ := t_add tx6 lit_1
            first | replace f3436 := f3436 (by omega) | clear f3436
            intro x6_1v1727 ex6_1v1727
            have tx6_1v1727 : Ti x6_1v1727 z3434 := by rw [ex6_1v1727]; exact t3435
            exact ih _ _ _ _ _ _ _ _ _ _ _ _  tx1 tx2 tx3 tx4 tx5_10v1723 tx6_1v1727 hI (by omega) (by omega)
          · replace c3428 := c_neq t3427 lit_0 c3428
            refine ⟨vp_of tx6 (by omega) (by omega), ?_⟩
            obtain ⟨z3437, t3438⟩ := t_any (w.2.1 75 x6.toNatClampNeg)
            obtain ⟨z3439, t3440, f3441⟩ := t_add t3438 lit_1
            first | replace f3441 := f3441 (by omega) | clear f3441
            obtain ⟨z3442, t3443, f3444⟩ := t_ite tx4 t3440 t3440 tx4
            intro x4_11v1724 ex4_11v1724
            have tx4_11v1724 : Ti x4_11v1724 z3442 := by rw [ex4_11v1724]; exact t3443
            unfold pX10_span_122
            obtain ⟨z3445, t3446, f3447⟩ := t_add tx6 lit_1
            first | replace f3447 := f3447 (by omega) | clear f3447
            intro x6_1v1728 ex6_1v1728
            have tx6_1v1728 : Ti x6_1v1728 z3445 := by rw [ex6_1v1728]; exact t3446
            exact ih _ _ _ _ _ _ _ _ _ _ _ _  tx1 tx2 tx3 tx4_11v1724 tx5 tx6_1v1728 hI (by omega) (by omega)
set_option maxHeartbeats 4000000 in
set_option maxRecDepth 100000 in
theorem sX10_span {T D : Int} {k : Nat} {post : Int32 → Wd → Prop} {x1 : Int32} {zx1 : Int} {x2 : Int32} {zx2 : Int} {x3 : Int32} {zx3 : Int} {w : Wd}  (tx1 : Ti x1 zx1) (tx2 : Ti x2 zx2) (tx3 : Ti x3 zx3) (hI : IX k T D w)  (hp : ∀ (r : Int32) (zr : Int), Ti r zr → post r w) : pX10_span   post  x1 x2 x3 w := by
  unfold pX10_span
  have hk := ix_k hI
  refine sX10_isMark   (hI := hI) (tx1 := tx1)  (hp := fun r_1v1729 zr_1v1729 tr_1v1729 p3448 => ?_)
  refine ⟨fun c3449 => ?_, fun c3449 => ?_⟩
  · replace c3449 := c_eq tr_1v1729 lit_0 c3449
    exact hp _ _ lit_m1 
  · replace c3449 := c_neq tr_1v1729 lit_0 c3449
    refine ⟨fun c3450 => ?_, fun c3450 => ?_⟩
    · replace c3450 := c_lt tx2 lit_0 c3450
      exact hp _ _ lit_m1 
    · replace c3450 := c_nlt tx2 lit_0 c3450
      refine ⟨fun c3451 => ?_, fun c3451 => ?_⟩
      · replace c3451 := c_le tx2 lit_2 c3451
        exact ⟨70000, sX10_span_30    (hp := hp) 70000 _ _ _ _ _ _ _ _ _ _ _ _  tx1 tx2 tx3 lit_0 lit_999 lit_0 hI (by omega) (by omega)⟩
      · replace c3451 := c_nle tx2 lit_2 c3451
        exact hp _ _ lit_m1 
set_option maxHeartbeats 4000000 in
set_option maxRecDepth 100000 in
theorem sX3_join_72 {T D : Int} {k : Nat} {post : Int32 → Wd → Prop}   (hp : ∀ (r : Int32) (zr : Int) (w9 : Wd), Ti r zr → IX k T D w9 → post r w9) : ∀ (n : Nat) (x1 : Int32) (x4 : Int32) (x5 : Int32) (x6 : Int32) (zx1 : Int) (zx4 : Int) (zx5 : Int) (zx6 : Int) (w : Wd), Ti x1 zx1 → Ti x4 zx4 → Ti x5 zx5 → Ti x6 zx6 → IX k T D w → (0 ≤ zx6 ∧ zx6 ≤ 8) → (0 ≤ zx1 ∧ zx1 ≤ 7) → (9 - zx6) < (n : Int) → pX3_join_72   post  n x1 x4 x5 x6 w := by
  intro n
  induction n with
  | zero =>
    intro x1 x4 x5 x6 zx1 zx4 zx5 zx6 w tx1 tx4 tx5 tx6 hI h0 h1 hm
    exact absurd hm (by omega)
  | succ n ih =>
    intro x1 x4 x5 x6 zx1 zx4 zx5 zx6 w tx1 tx4 tx5 tx6 hI h0 h1 hm
    unfold pX3_join_72
    have hk := ix_k hI
    refine ⟨fun c3452 => ?_, fun c3452 => ?_⟩
    · replace c3452 := c_le lit_8 tx6 c3452
      exact hp _ _ _  lit_1 hI 
    · replace c3452 := c_nle lit_8 tx6 c3452
      refine ⟨vp_of tx6 (by omega) (by omega), ?_⟩
      obtain ⟨z3453, t3454⟩ := t_any (w.2.1 79 x6.toNatClampNeg)
      refine ⟨fun c3455 => ?_, fun c3455 => ?_⟩
      · replace c3455 := c_neq t3454 tx5 c3455
        unfold pX3_join_116
        obtain ⟨z3456, t3457, f3458⟩ := t_add tx6 lit_1
        first | replace f3458 := f3458 (by omega) | clear f3458
        intro x6_1v1733 ex6_1v1733
        have tx6_1v1733 : Ti x6_1v1733 z3456 := by rw [ex6_1v1733]; exact t3457
        exact ih _ _ _ _ _ _ _ _ _ tx1 tx4 tx5 tx6_1v1733 hI (by omega) (by omega) (by omega)
      · replace c3455 := c_eq t3454 tx5 c3455
        refine ⟨vp_of tx1 (by omega) (by omega), ?_⟩
        refine ⟨vp_of tx6 (by omega) (by omega), ?_⟩
        intro w_3v1731 ew_3v1731
        have hIw_3v1731 := ixs_A hI ew_3v1731 (by decide)
        refine ⟨vp_of tx6 (by omega) (by omega), ?_⟩
        refine ⟨vp_of tx6 (by omega) (by omega), ?_⟩
        intro w_4v1732 ew_4v1732
        have hIw_4v1732 := ixs_A hIw_3v1731 ew_4v1732 (by decide)
        unfold pX3_join_116
        obtain ⟨z3459, t3460, f3461⟩ := t_add tx6 lit_1
        first | replace f3461 := f3461 (by omega) | clear f3461
        intro x6_1v1734 ex6_1v1734
        have tx6_1v1734 : Ti x6_1v1734 z3459 := by rw [ex6_1v1734]; exact t3460
        exact ih _ _ _ _ _ _ _ _ _ tx1 tx4 tx5 tx6_1v1734 hIw_4v1732 (by omega) (by omega) (by omega)
set_option maxHeartbeats 4000000 in
set_option maxRecDepth 100000 in
theorem sX3_join {T D : Int} {k : Nat} {post : Int32 → Wd → Prop} {x1 : Int32} {zx1 : Int} {x2 : Int32} {zx2 : Int} {x3 : Int32} {zx3 : Int} {w : Wd}  (tx1 : Ti x1 zx1) (tx2 : Ti x2 zx2) (tx3 : Ti x3 zx3) (hI : IX k T D w)  (hp : ∀ (r : Int32) (zr : Int) (w9 : Wd), Ti r zr → IX k T D w9 → post r w9) : pX3_join   post  x1 x2 x3 w := by
  unfold pX3_join
  have hk := ix_k hI
  refine ⟨fun c3462 => ?_, fun c3462 => ?_⟩
  · replace c3462 := c_lt tx1 lit_0 c3462
    exact hp _ _ _  lit_0 hI 
  · replace c3462 := c_nlt tx1 lit_0 c3462
    refine ⟨fun c3463 => ?_, fun c3463 => ?_⟩
    · replace c3463 := c_le lit_8 tx1 c3463
      exact hp _ _ _  lit_0 hI 
    · replace c3463 := c_nle lit_8 tx1 c3463
      refine ⟨fun c3464 => ?_, fun c3464 => ?_⟩
      · replace c3464 := c_lt tx2 lit_0 c3464
        exact hp _ _ _  lit_0 hI 
      · replace c3464 := c_nlt tx2 lit_0 c3464
        refine ⟨fun c3465 => ?_, fun c3465 => ?_⟩
        · replace c3465 := c_lt tx2 lit_8 c3465
          refine ⟨vp_of tx1 (by omega) (by omega), ?_⟩
          refine ⟨vp_of tx2 (by omega) (by omega), ?_⟩
          obtain ⟨z3466, t3467⟩ := t_any (((w.2.1 80 x1.toNatClampNeg) ^^^ (w.2.1 80 x2.toNatClampNeg)) ^^^ x3)
          intro x4_5v1735 ex4_5v1735
          have tx4_5v1735 : Ti x4_5v1735 z3466 := by rw [ex4_5v1735]; exact t3467
          refine ⟨vp_of tx2 (by omega) (by omega), ?_⟩
          obtain ⟨z3468, t3469⟩ := t_any (w.2.1 79 x2.toNatClampNeg)
          intro x5_6v1736 ex5_6v1736
          have tx5_6v1736 : Ti x5_6v1736 z3468 := by rw [ex5_6v1736]; exact t3469
          refine ⟨vp_of tx1 (by omega) (by omega), ?_⟩
          obtain ⟨z3470, t3471⟩ := t_any (w.2.1 79 x1.toNatClampNeg)
          refine ⟨fun c3472 => ?_, fun c3472 => ?_⟩
          · replace c3472 := c_neq t3471 tx5_6v1736 c3472
            exact ⟨70000, sX3_join_72    (hp := hp) 70000 _ _ _ _ _ _ _ _ _ tx1 tx4_5v1735 tx5_6v1736 lit_0 hI (by omega) (by omega) (by omega)⟩
          · replace c3472 := c_eq t3471 tx5_6v1736 c3472
            refine ⟨fun c3473 => ?_, fun c3473 => ?_⟩
            · replace c3473 := c_neq tx4_5v1735 lit_0 c3473
              exact hp _ _ _  lit_0 hI 
            · replace c3473 := c_eq tx4_5v1735 lit_0 c3473
              exact hp _ _ _  lit_1 hI 
        · replace c3465 := c_nlt tx2 lit_8 c3465
          exact hp _ _ _  lit_0 hI 
set_option maxHeartbeats 4000000 in
set_option maxRecDepth 100000 in
theorem sX3_sideOf_42 {T D : Int} {k : Nat} {post : Int32 → Wd → Prop}   (hp : ∀ (r : Int32) (zr : Int) (w9 : Wd), Ti r zr → IX k T D w9 → post r w9) : ∀ (n : Nat) (x1 : Int32) (x2 : Int32) (x3 : Int32) (zx1 : Int) (zx2 : Int) (zx3 : Int) (w : Wd), Ti x1 zx1 → Ti x2 zx2 → Ti x3 zx3 → IX k T D w → (0 ≤ zx3 ∧ zx3 ≤ 40) → (0 ≤ zx1 ∧ zx1 ≤ 7) → (41 - zx3) < (n : Int) → pX3_sideOf_42   post  n x1 x2 x3 w := by
  intro n
  induction n with
  | zero =>
    intro x1 x2 x3 zx1 zx2 zx3 w tx1 tx2 tx3 hI h0 h1 hm
    exact absurd hm (by omega)
  | succ n ih =>
    intro x1 x2 x3 zx1 zx2 zx3 w tx1 tx2 tx3 hI h0 h1 hm
    unfold pX3_sideOf_42
    have hk := ix_k hI
    obtain ⟨z3474, t3475⟩ := t_any (w.1 70 0)
    have f3476 := ixg_70_0 hI t3475
    refine ⟨fun c3477 => ?_, fun c3477 => ?_⟩
    · replace c3477 := c_le t3475 tx3 c3477
      refine ⟨vp_of tx1 (by omega) (by omega), ?_⟩
      obtain ⟨z3478, t3479⟩ := t_any (w.2.1 79 x1.toNatClampNeg)
      obtain ⟨z3480, t3481⟩ := t_any (w.2.1 79 (0 : Int32).toNatClampNeg)
      refine ⟨fun c3482 => ?_, fun c3482 => ?_⟩
      · replace c3482 := c_neq t3479 t3481 c3482
        exact hp _ _ _  lit_m1 hI 
      · replace c3482 := c_eq t3479 t3481 c3482
        refine ⟨vp_of tx1 (by omega) (by omega), ?_⟩
        obtain ⟨z3483, t3484⟩ := t_any ((w.2.1 80 x1.toNatClampNeg) ^^^ (w.2.1 80 (0 : Int32).toNatClampNeg))
        exact hp _ _ _  t3484 hI 
    · replace c3477 := c_nle t3475 tx3 c3477
      refine sX3_counts   (hI := hI) (tx1 := tx3) (tx2 := lit_3) (tx3 := tx2)  (hp := fun r_3v1737 zr_3v1737 tr_3v1737 => ?_)
      refine ⟨fun c3485 => ?_, fun c3485 => ?_⟩
      · replace c3485 := c_eq tr_3v1737 lit_0 c3485
        unfold pX3_sideOf_88
        obtain ⟨z3486, t3487, f3488⟩ := t_add tx3 lit_1
        first | replace f3488 := f3488 (by omega) | clear f3488
        intro x3_1v1743 ex3_1v1743
        have tx3_1v1743 : Ti x3_1v1743 z3486 := by rw [ex3_1v1743]; exact t3487
        exact ih _ _ _ _ _ _ _ tx1 tx2 tx3_1v1743 hI (by omega) (by omega) (by omega)
      · replace c3485 := c_neq tr_3v1737 lit_0 c3485
        refine ⟨vp_of tx3 (by omega) (by omega), ?_⟩
        refine ⟨vp_of tx3 (by omega) (by omega), ?_⟩
        refine ⟨vp_of tx3 (by omega) (by omega), ?_⟩
        obtain ⟨z3489, t3490⟩ := t_any (w.2.1 74 x3.toNatClampNeg)
        obtain ⟨z3491, t3492⟩ := t_any (w.2.1 75 x3.toNatClampNeg)
        obtain ⟨z3493, t3494⟩ := t_any (w.2.1 76 x3.toNatClampNeg)
        refine sX3_join   (hI := hI) (tx1 := t3490) (tx2 := t3492) (tx3 := t3494)  (hp := fun r_6v1741 zr_6v1741 w_7v1742  tr_6v1741 hIw_7v1742  => ?_)
        refine ⟨fun c3495 => ?_, fun c3495 => ?_⟩
        · replace c3495 := c_neq tr_6v1741 lit_0 c3495
          unfold pX3_sideOf_88
          obtain ⟨z3496, t3497, f3498⟩ := t_add tx3 lit_1
          first | replace f3498 := f3498 (by omega) | clear f3498
          intro x3_1v1744 ex3_1v1744
          have tx3_1v1744 : Ti x3_1v1744 z3496 := by rw [ex3_1v1744]; exact t3497
          exact ih _ _ _ _ _ _ _ tx1 tx2 tx3_1v1744 hIw_7v1742 (by omega) (by omega) (by omega)
        · replace c3495 := c_eq tr_6v1741 lit_0 c3495
          exact hp _ _ _  lit_m2 hIw_7v1742 
set_option maxHeartbeats 4000000 in
set_option maxRecDepth 100000 in
theorem sX3_sideOf_14 {T D : Int} {k : Nat} {post : Int32 → Wd → Prop}   (hp : ∀ (r : Int32) (zr : Int) (w9 : Wd), Ti r zr → IX k T D w9 → post r w9) : ∀ (n : Nat) (x1 : Int32) (x2 : Int32) (x3 : Int32) (zx1 : Int) (zx2 : Int) (zx3 : Int) (w : Wd), Ti x1 zx1 → Ti x2 zx2 → Ti x3 zx3 → IX k T D w → (0 ≤ zx3 ∧ zx3 ≤ 8) → (0 ≤ zx1 ∧ zx1 ≤ 7) → (9 - zx3) < (n : Int) → pX3_sideOf_14   post  n x1 x2 x3 w := by
  intro n
  induction n with
  | zero =>
    intro x1 x2 x3 zx1 zx2 zx3 w tx1 tx2 tx3 hI h0 h1 hm
    exact absurd hm (by omega)
  | succ n ih =>
    intro x1 x2 x3 zx1 zx2 zx3 w tx1 tx2 tx3 hI h0 h1 hm
    unfold pX3_sideOf_14
    have hk := ix_k hI
    refine ⟨fun c3499 => ?_, fun c3499 => ?_⟩
    · replace c3499 := c_le lit_8 tx3 c3499
      exact ⟨70000, sX3_sideOf_42    (hp := hp) 70000 _ _ _ _ _ _ _ tx1 tx2 lit_0 hI (by omega) (by omega) (by omega)⟩
    · replace c3499 := c_nle lit_8 tx3 c3499
      refine ⟨vp_of tx3 (by omega) (by omega), ?_⟩
      intro w_2v1745 ew_2v1745
      have hIw_2v1745 := ixs_A hI ew_2v1745 (by decide)
      refine ⟨vp_of tx3 (by omega) (by omega), ?_⟩
      intro w_3v1746 ew_3v1746
      have hIw_3v1746 := ixs_A hIw_2v1745 ew_3v1746 (by decide)
      obtain ⟨z3500, t3501, f3502⟩ := t_add tx3 lit_1
      first | replace f3502 := f3502 (by omega) | clear f3502
      intro x3_4v1747 ex3_4v1747
      have tx3_4v1747 : Ti x3_4v1747 z3500 := by rw [ex3_4v1747]; exact t3501
      exact ih _ _ _ _ _ _ _ tx1 tx2 tx3_4v1747 hIw_3v1746 (by omega) (by omega) (by omega)
set_option maxHeartbeats 4000000 in
set_option maxRecDepth 100000 in
theorem sX3_sideOf {T D : Int} {k : Nat} {post : Int32 → Wd → Prop} {x1 : Int32} {zx1 : Int} {x2 : Int32} {zx2 : Int} {w : Wd}  (tx1 : Ti x1 zx1) (tx2 : Ti x2 zx2) (hI : IX k T D w)  (hp : ∀ (r : Int32) (zr : Int) (w9 : Wd), Ti r zr → IX k T D w9 → post r w9) : pX3_sideOf   post  x1 x2 w := by
  unfold pX3_sideOf
  have hk := ix_k hI
  refine ⟨fun c3503 => ?_, fun c3503 => ?_⟩
  · replace c3503 := c_lt tx1 lit_0 c3503
    exact hp _ _ _  lit_m1 hI 
  · replace c3503 := c_nlt tx1 lit_0 c3503
    refine ⟨fun c3504 => ?_, fun c3504 => ?_⟩
    · replace c3504 := c_lt tx1 lit_8 c3504
      exact ⟨70000, sX3_sideOf_14    (hp := hp) 70000 _ _ _ _ _ _ _ tx1 tx2 lit_0 hI (by omega) (by omega) (by omega)⟩
    · replace c3504 := c_nlt tx1 lit_8 c3504
      exact hp _ _ _  lit_m1 hI 
set_option maxHeartbeats 4000000 in
set_option maxRecDepth 100000 in
theorem sX10_backward {T D : Int} {k : Nat} {post : Int32 → Wd → Prop} {x1 : Int32} {zx1 : Int} {x2 : Int32} {zx2 : Int} {w : Wd}  (tx1 : Ti x1 zx1) (tx2 : Ti x2 zx2) (hI : IX k T D w)  (hp : ∀ (r : Int32) (zr : Int) (w9 : Wd), Ti r zr → IX k T D w9 → post r w9) : pX10_backward   post  x1 x2 w := by
  unfold pX10_backward
  have hk := ix_k hI
  refine sX10_isPaper   (hI := hI) (tx0 := tx1)  (hp := fun r_1v1748 zr_1v1748 tr_1v1748 p3505 => ?_)
  refine ⟨fun c3506 => ?_, fun c3506 => ?_⟩
  · replace c3506 := c_eq tr_1v1748 lit_0 c3506
    exact hp _ _ _  lit_m1 hI 
  · replace c3506 := c_neq tr_1v1748 lit_0 c3506
    refine sX3_sideOf   (hI := hI) (tx1 := tx1) (tx2 := tx2)  (hp := fun r_4v1752 zr_4v1752 w_5v1753  tr_4v1752 hIw_5v1753  => ?_)
    exact hp _ _ _  tr_4v1752 hIw_5v1753 
set_option maxHeartbeats 4000000 in
set_option maxRecDepth 100000 in
theorem sX10_lies {T D : Int} {k : Nat} {post : Int32 → Wd → Prop} {x1 : Int32} {zx1 : Int} {w : Wd}  (tx1 : Ti x1 zx1) (hI : IX k T D w)  (hp : ∀ (r : Int32) (zr : Int), Ti r zr → post r w) : pX10_lies   post  x1 w := by
  unfold pX10_lies
  have hk := ix_k hI
  refine ⟨fun c3507 => ?_, fun c3507 => ?_⟩
  · replace c3507 := c_lt tx1 lit_0 c3507
    exact hp _ _ lit_m2 
  · replace c3507 := c_nlt tx1 lit_0 c3507
    obtain ⟨z3508, t3509⟩ := t_any (w.1 110 1)
    have f3510 := ixg_110_1 hI t3509
    refine ⟨fun c3511 => ?_, fun c3511 => ?_⟩
    · replace c3511 := c_lt tx1 t3509 c3511
      refine ⟨vp_of tx1 (by omega) (by omega), ?_⟩
      obtain ⟨z3512, t3513⟩ := t_any (w.2.1 111 x1.toNatClampNeg)
      exact hp _ _ t3513 
    · replace c3511 := c_nlt tx1 t3509 c3511
      exact hp _ _ lit_m2 
theorem sX2_copyPrints {T D : Int} {k : Nat} {post : Wd → Prop} {c c1 : Nat} {w : Wd} (hI : IX k T D w) (hp : ∀ (w9 : Wd), IX k T D w9 → post w9) : pX2_copyPrints post (160 + 20 * c) (160 + 20 * c1) w := by
  unfold pX2_copyPrints
  obtain ⟨z, t⟩ := t_any (w.1 (160 + 20 * c1) 6)
  have b := Rg.g (hI.2.2.2.2.2.2.2.2.2.2.1 c1).2 t
  intro w_1 e1
  have i1 := ixs_c6 hI e1 t b.1 b.2
  intro w_2 e2
  have i2 := ixs_C i1 e2 (by omega)
  intro w_3 e3
  have i3 := ixs_C i2 e3 (by omega)
  intro w_4 e4
  exact hp _ (ixs_C i3 e4 (by omega))
theorem sX2_copySeals {T D : Int} {k : Nat} {post : Wd → Prop} {c c1 : Nat} {w : Wd} (hI : IX k T D w) (hp : ∀ (w9 : Wd), IX k T D w9 → post w9) : pX2_copySeals post (160 + 20 * c) (160 + 20 * c1) w := by
  unfold pX2_copySeals
  obtain ⟨z, t⟩ := t_any (w.1 (160 + 20 * c1) 0)
  have b := Rg.g (hI.2.2.2.2.2.2.2.2.2.2.1 c1).1 t
  intro w_1 e1
  have i1 := ixs_c0 hI e1 t b.1 b.2
  intro w_2 e2
  have i2 := ixs_C i1 e2 (by omega)
  intro w_3 e3
  have i3 := ixs_C i2 e3 (by omega)
  intro w_4 e4
  have i4 := ixs_C i3 e4 (by omega)
  intro w_5 e5
  have i5 := ixs_C i4 e5 (by omega)
  intro w_6 e6
  exact hp _ (ixs_C i5 e6 (by omega))
theorem sX2_copyFrom {T D : Int} {k : Nat} {post : Wd → Prop} {c c1 : Nat} {w : Wd} (hI : IX k T D w) (hp : ∀ (w9 : Wd), IX k T D w9 → post w9) : pX2_copyFrom post (160 + 20 * c) (160 + 20 * c1) w := by
  unfold pX2_copyFrom
  refine sX2_copySeals hI (fun w_1 i1 => ?_)
  refine sX2_copyPrints i1 (fun w_2 i2 => ?_)
  intro w_3 e3
  have i3 := ixs_n i2 e3 (by unfold nX; omega)
  intro w_4 e4
  have i4 := ixs_n i3 e4 (by unfold nX; omega)
  intro w_5 e5
  exact hp _ (ixs_n i4 e5 (by unfold nX; omega))
theorem i_cz {x : Int32} {z : Int} (t : Ti x z) : x.toNatClampNeg = z.toNat := by
  have t : x.toInt = z := t
  rw [← t]; rfl
theorem sX10_image {T D : Int} {k : Nat} {post : Int32 → Wd → Prop} {x1 : Int32} {zx1 : Int} {w : Wd} (tx1 : Ti x1 zx1) (hI : IX k T D w) (hp : ∀ (r : Int32) (zr : Int) (w9 : Wd), Ti r zr → IX k T D w9 → post r w9) : pX10_image post x1 w := by
  unfold pX10_image
  refine ⟨fun c => hp _ _ _ lit_m1 hI, fun c => ⟨fun c2 => ?_, fun c2 => hp _ _ _ lit_m1 hI⟩⟩
  replace c := c_nlt tx1 lit_0 c
  replace c2 := c_lt tx1 lit_3 c2
  have e0 := i_cz tx1
  have e : 180 + 20 * x1.toNatClampNeg = 160 + 20 * (x1.toNatClampNeg + 1) := by omega
  refine ⟨vp_of tx1 (by omega) (by omega), by unfold cOk; omega, ?_⟩
  rw [e]
  refine sX2_copyFrom (c := x1.toNatClampNeg + 1) (c1 := 0) hI (fun w_3 i3 => ?_)
  refine ⟨vp_of tx1 (by omega) (by omega), ?_⟩
  intro w_4 e4
  exact hp _ _ _ rfl (ixs_A i3 e4 (by decide))
theorem sX10_back {T D : Int} {k : Nat} {post : Int32 → Wd → Prop} {x1 : Int32} {zx1 : Int} {w : Wd} (tx1 : Ti x1 zx1) (hI : IX k T D w) (hp : ∀ (r : Int32) (zr : Int) (w9 : Wd) (D9 : Int), Ti r zr → IX k T D9 w9 → post r w9) : pX10_back post x1 w := by
  unfold pX10_back
  refine ⟨fun c => hp _ _ _ _ lit_m1 hI, fun c => ⟨fun c2 => hp _ _ _ _ lit_m1 hI, fun c2 => ?_⟩⟩
  replace c := c_nlt tx1 lit_0 c
  replace c2 := c_nle lit_3 tx1 c2
  have e0 := i_cz tx1
  have e : 180 + 20 * x1.toNatClampNeg = 160 + 20 * (x1.toNatClampNeg + 1) := by omega
  refine ⟨vp_of tx1 (by omega) (by omega), fun c3 => ?_, fun c3 => hp _ _ _ _ lit_m1 hI⟩
  refine ⟨vp_of tx1 (by omega) (by omega), by unfold cOk; omega, ?_⟩
  rw [e]
  refine sX2_copyFrom (c := 0) (c1 := x1.toNatClampNeg + 1) hI (fun w_4 i4 => ?_)
  exact sX0_forget (hI := i4) (hp := fun w_5 i5 => hp _ _ _ _ rfl i5)
set_option maxHeartbeats 4000000 in
set_option maxRecDepth 100000 in
theorem sX10_about {T D : Int} {k : Nat} {post : Int32 → Wd → Prop} {x1 : Int32} {zx1 : Int} {w : Wd}  (tx1 : Ti x1 zx1) (hI : IX k T D w)  (hp : ∀ (r : Int32) (zr : Int), Ti r zr → post r w) : pX10_about   post  x1 w := by
  unfold pX10_about
  have hk := ix_k hI
  refine ⟨fun c3514 => ?_, fun c3514 => ?_, fun c3514 => ?_, fun c3514 => ?_, fun c3514 => ?_, fun c3514 => ?_, fun c3514 => ?_, fun c3514 => ?_, fun c3514 => ?_, fun c3514 => ?_, fun c3514 => ?_, fun c3514 => ?_, fun c3514 => ?_, fun c3514 => ?_, fun c3514 => ?_⟩
  · rw [show x1.toInt = zx1 from tx1] at c3514
    exact hp _ _ lit_m1 
  · rw [show x1.toInt = zx1 from tx1] at c3514
    obtain ⟨z3515, t3516⟩ := t_any (w.1 (rl (w.2.2.2.2 0)) 2)
    have f3517 := ixg_r2 hI t3516
    exact hp _ _ t3516 
  · rw [show x1.toInt = zx1 from tx1] at c3514
    obtain ⟨z3518, t3519⟩ := t_any (w.1 (rl (w.2.2.2.2 0)) 0)
    have f3520 := ixg_r0 hI t3519
    exact hp _ _ t3519 
  · rw [show x1.toInt = zx1 from tx1] at c3514
    obtain ⟨z3521, t3522⟩ := t_any (w.1 160 0)
    have f3523 := ixg_c0 hI t3522
    exact hp _ _ t3522 
  · rw [show x1.toInt = zx1 from tx1] at c3514
    obtain ⟨z3524, t3525⟩ := t_any (w.1 160 6)
    have f3526 := ixg_c6 hI t3525
    exact hp _ _ t3525 
  · rw [show x1.toInt = zx1 from tx1] at c3514
    obtain ⟨z3527, t3528⟩ := t_any (w.1 160 11)
    exact hp _ _ t3528 
  · rw [show x1.toInt = zx1 from tx1] at c3514
    obtain ⟨z3529, t3530⟩ := t_any (w.1 160 12)
    exact hp _ _ t3530 
  · rw [show x1.toInt = zx1 from tx1] at c3514
    obtain ⟨z3531, t3532⟩ := t_any (w.1 160 13)
    exact hp _ _ t3532 
  · rw [show x1.toInt = zx1 from tx1] at c3514
    obtain ⟨z3533, t3534⟩ := t_any (w.1 50 7)
    have f3535 := ixg_50_7 hI t3534
    exact hp _ _ t3534 
  · rw [show x1.toInt = zx1 from tx1] at c3514
    obtain ⟨z3536, t3537⟩ := t_any (w.1 50 8)
    exact hp _ _ t3537 
  · rw [show x1.toInt = zx1 from tx1] at c3514
    obtain ⟨z3538, t3539⟩ := t_any (w.1 70 0)
    have f3540 := ixg_70_0 hI t3539
    exact hp _ _ t3539 
  · rw [show x1.toInt = zx1 from tx1] at c3514
    obtain ⟨z3541, t3542⟩ := t_any (w.1 70 1)
    have f3543 := ixg_70_1 hI t3542
    exact hp _ _ t3542 
  · rw [show x1.toInt = zx1 from tx1] at c3514
    obtain ⟨z3544, t3545⟩ := t_any (w.1 0 13)
    have f3546 := ixg_0_13 hI t3545
    exact hp _ _ t3545 
  · rw [show x1.toInt = zx1 from tx1] at c3514
    obtain ⟨z3547, t3548⟩ := t_any (w.1 (rl (w.2.2.2.2 0)) 5)
    exact hp _ _ t3548 
  · rw [show x1.toInt = zx1 from tx1] at c3514
    obtain ⟨z3549, t3550⟩ := t_any (w.1 110 1)
    have f3551 := ixg_110_1 hI t3550
    exact hp _ _ t3550 
