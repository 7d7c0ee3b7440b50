set_option maxHeartbeats 4000000 in
set_option maxRecDepth 100000 in
theorem sX5_joinClans_2 {T D : Int} {k : Nat} {post : Wd → Prop}   (hp : ∀ (w9 : Wd), IX k T D w9 → post w9) : ∀ (n : Nat) (x1 : Int32) (x2 : Int32) (zx1 : Int) (zx2 : Int) (w : Wd), Ti x1 zx1 → Ti x2 zx2 → IX k T D w → (0 ≤ zx2 ∧ zx2 ≤ 7) → (8 - zx2) < (n : Int) → pX5_joinClans_2   post  n x1 x2 w := by
  intro n
  induction n with
  | zero =>
    intro x1 x2 zx1 zx2 w tx1 tx2 hI h0 hm
    exact absurd hm (by omega)
  | succ n ih =>
    intro x1 x2 zx1 zx2 w tx1 tx2 hI h0 hm
    unfold pX5_joinClans_2
    have hk := ix_k hI
    obtain ⟨z3198, t3199⟩ := t_any (w.1 90 0)
    have f3200 := ixg_90_0 hI t3199
    refine ⟨fun c3201 => ?_, fun c3201 => ?_⟩
    · replace c3201 := c_le t3199 tx2 c3201
      exact ⟨70000, sX5_joinClans_25   (hp := hp) 70000 _ _ _ _ _ tx1 lit_0 hI (by omega) (by omega)⟩
    · replace c3201 := c_nle t3199 tx2 c3201
      refine ⟨vp_of tx2 (by omega) (by omega), ?_⟩
      intro w_2v1650 ew_2v1650
      have hIw_2v1650 := ixs_A hI ew_2v1650 (by decide)
      obtain ⟨z3202, t3203, f3204⟩ := t_add tx2 lit_1
      first | replace f3204 := f3204 (by omega) | clear f3204
      intro x2_3v1651 ex2_3v1651
      have tx2_3v1651 : Ti x2_3v1651 z3202 := by rw [ex2_3v1651]; exact t3203
      exact ih _ _ _ _ _ tx1 tx2_3v1651 hIw_2v1650 (by omega) (by omega)
set_option maxHeartbeats 4000000 in
set_option maxRecDepth 100000 in
theorem sX5_joinClans {T D : Int} {k : Nat} {post : Wd → Prop} {x1 : Int32} {zx1 : Int} {w : Wd}  (tx1 : Ti x1 zx1) (hI : IX k T D w)  (hp : ∀ (w9 : Wd), IX k T D w9 → post w9) : pX5_joinClans   post  x1 w := by
  unfold pX5_joinClans
  have hk := ix_k hI
  exact ⟨70000, sX5_joinClans_2   (hp := hp) 70000 _ _ _ _ _ tx1 lit_0 hI (by omega) (by omega)⟩
set_option maxHeartbeats 4000000 in
set_option maxRecDepth 100000 in
theorem sX5_largestClan_17 {T D : Int} {k : Nat} {k4 : Int32 → Int32 → Wd → Prop} {M4 : Int} {post : Int32 → Wd → Prop} {w : Wd} (hk4 : ∀ (x1 : Int32) (x2 : Int32) (zx1 : Int) (zx2 : Int) (w : Wd), Ti x1 zx1 → Ti x2 zx2 → IX k T D w → (0 ≤ zx2 ∧ zx2 ≤ 7) → (8 - zx2) < M4 → k4 x1 x2 w) (hp : ∀ (r : Int32) (zr : Int), Ti r zr → post r w) : ∀ (n : Nat) (x1 : Int32) (x2 : Int32) (x3 : Int32) (x4 : Int32) (zx1 : Int) (zx2 : Int) (zx3 : Int) (zx4 : Int), Ti x1 zx1 → Ti x2 zx2 → Ti x3 zx3 → Ti x4 zx4 → IX k T D w → (0 ≤ zx4 ∧ zx4 ≤ 7) → (0 ≤ zx2 ∧ zx2 ≤ 7) → ((8 - zx2) ≤ M4) → (8 - zx4) < (n : Int) → pX5_largestClan_17 k4  post  n x1 x2 x3 x4 w := by
  intro n
  induction n with
  | zero =>
    intro x1 x2 x3 x4 zx1 zx2 zx3 zx4  tx1 tx2 tx3 tx4 hI h0 h1 h2 hm
    exact absurd hm (by omega)
  | succ n ih =>
    intro x1 x2 x3 x4 zx1 zx2 zx3 zx4  tx1 tx2 tx3 tx4 hI h0 h1 h2 hm
    unfold pX5_largestClan_17
    have hk := ix_k hI
    obtain ⟨z3205, t3206⟩ := t_any (w.1 90 0)
    have f3207 := ixg_90_0 hI t3206
    refine ⟨fun c3208 => ?_, fun c3208 => ?_⟩
    · replace c3208 := c_le t3206 tx4 c3208
      obtain ⟨z3209, t3210, f3211⟩ := t_ite tx1 tx3 tx3 tx1
      intro x1_2v1652 ex1_2v1652
      have tx1_2v1652 : Ti x1_2v1652 z3209 := by rw [ex1_2v1652]; exact t3210
      obtain ⟨z3212, t3213, f3214⟩ := t_add tx2 lit_1
      first | replace f3214 := f3214 (by omega) | clear f3214
      intro x2_3v1653 ex2_3v1653
      have tx2_3v1653 : Ti x2_3v1653 z3212 := by rw [ex2_3v1653]; exact t3213
      exact hk4 _ _ _ _ _ tx1_2v1652 tx2_3v1653 hI (by omega) (by omega)
    · replace c3208 := c_nle t3206 tx4 c3208
      refine ⟨vp_of tx4 (by omega) (by omega), ?_⟩
      obtain ⟨z3215, t3216⟩ := t_any (w.2.1 100 x4.toNatClampNeg)
      refine ⟨fun c3217 => ?_, fun c3217 => ?_⟩
      · replace c3217 := c_neq t3216 tx2 c3217
        unfold pX5_largestClan_43
        obtain ⟨z3218, t3219, f3220⟩ := t_add tx3 lit_0
        first | replace f3220 := f3220 (by omega) | clear f3220
        intro x3_1v1654 ex3_1v1654
        have tx3_1v1654 : Ti x3_1v1654 z3218 := by rw [ex3_1v1654]; exact t3219
        obtain ⟨z3221, t3222, f3223⟩ := t_add tx4 lit_1
        first | replace f3223 := f3223 (by omega) | clear f3223
        intro x4_2v1655 ex4_2v1655
        have tx4_2v1655 : Ti x4_2v1655 z3221 := by rw [ex4_2v1655]; exact t3222
        exact ih _ _ _ _ _ _ _ _  tx1 tx2 tx3_1v1654 tx4_2v1655 hI (by omega) (by omega) (by omega) (by omega)
      · replace c3217 := c_eq t3216 tx2 c3217
        unfold pX5_largestClan_43
        obtain ⟨z3224, t3225, f3226⟩ := t_add tx3 lit_1
        first | replace f3226 := f3226 (by omega) | clear f3226
        intro x3_1v1656 ex3_1v1656
        have tx3_1v1656 : Ti x3_1v1656 z3224 := by rw [ex3_1v1656]; exact t3225
        obtain ⟨z3227, t3228, f3229⟩ := t_add tx4 lit_1
        first | replace f3229 := f3229 (by omega) | clear f3229
        intro x4_2v1657 ex4_2v1657
        have tx4_2v1657 : Ti x4_2v1657 z3227 := by rw [ex4_2v1657]; exact t3228
        exact ih _ _ _ _ _ _ _ _  tx1 tx2 tx3_1v1656 tx4_2v1657 hI (by omega) (by omega) (by omega) (by omega)
set_option maxHeartbeats 4000000 in
set_option maxRecDepth 100000 in
theorem sX5_largestClan_4 {T D : Int} {k : Nat} {post : Int32 → Wd → Prop} {w : Wd}  (hp : ∀ (r : Int32) (zr : Int), Ti r zr → post r w) : ∀ (n : Nat) (x1 : Int32) (x2 : Int32) (zx1 : Int) (zx2 : Int), Ti x1 zx1 → Ti x2 zx2 → IX k T D w → (0 ≤ zx2 ∧ zx2 ≤ 7) → (8 - zx2) < (n : Int) → pX5_largestClan_4   post  n x1 x2 w := by
  intro n
  induction n with
  | zero =>
    intro x1 x2 zx1 zx2  tx1 tx2 hI h0 hm
    exact absurd hm (by omega)
  | succ n ih =>
    intro x1 x2 zx1 zx2  tx1 tx2 hI h0 hm
    unfold pX5_largestClan_4
    have hk := ix_k hI
    obtain ⟨z3230, t3231⟩ := t_any (w.1 90 0)
    have f3232 := ixg_90_0 hI t3231
    refine ⟨fun c3233 => ?_, fun c3233 => ?_⟩
    · replace c3233 := c_le t3231 tx2 c3233
      exact hp _ _ tx1 
    · replace c3233 := c_nle t3231 tx2 c3233
      exact ⟨70000, sX5_largestClan_17 (M4 := (n : Int)) (hk4 := ih)  (hp := hp) 70000 _ _ _ _ _ _ _ _  tx1 tx2 lit_0 lit_0 hI (by omega) (by omega) (by omega) (by omega)⟩
set_option maxHeartbeats 4000000 in
set_option maxRecDepth 100000 in
theorem sX5_largestClan {T D : Int} {k : Nat} {post : Int32 → Wd → Prop}  {w : Wd}   (hI : IX k T D w)  (hp : ∀ (r : Int32) (zr : Int), Ti r zr → post r w) : pX5_largestClan   post   w := by
  unfold pX5_largestClan
  have hk := ix_k hI
  exact ⟨70000, sX5_largestClan_4   (hp := hp) 70000 _ _ _ _  lit_0 lit_0 hI (by omega) (by omega)⟩
set_option maxHeartbeats 4000000 in
set_option maxRecDepth 100000 in
theorem sX10_clans {T D : Int} {k : Nat} {post : Int32 → Wd → Prop} {x1 : Int32} {zx1 : Int} {x2 : Int32} {zx2 : Int} {x3 : Int32} {zx3 : Int} {w : Wd}  (tx1 : Ti x1 zx1) (tx2 : Ti x2 zx2) (tx3 : Ti x3 zx3) (hI : IX k T D w)  (hp : ∀ (r : Int32) (zr : Int) (w9 : Wd), Ti r zr → IX k T D w9 → post r w9) : pX10_clans   post  x1 x2 x3 w := by
  unfold pX10_clans
  have hk := ix_k hI
  refine ⟨fun c3234 => ?_, fun c3234 => ?_⟩
  · replace c3234 := c_lt tx1 lit_0 c3234
    exact hp _ _ _  lit_m1 hI 
  · replace c3234 := c_nlt tx1 lit_0 c3234
    refine ⟨fun c3235 => ?_, fun c3235 => ?_⟩
    · replace c3235 := c_lt lit_24 tx1 c3235
      exact hp _ _ _  lit_m1 hI 
    · replace c3235 := c_nlt lit_24 tx1 c3235
      refine ⟨fun c3236 => ?_, fun c3236 => ?_⟩
      · replace c3236 := c_lt tx2 lit_0 c3236
        exact hp _ _ _  lit_m1 hI 
      · replace c3236 := c_nlt tx2 lit_0 c3236
        refine ⟨fun c3237 => ?_, fun c3237 => ?_⟩
        · replace c3237 := c_le tx2 lit_1 c3237
          obtain ⟨z3238, t3239⟩ := t_any (w.1 (rl (w.2.2.2.2 0)) 0)
          have f3240 := ixg_r0 hI t3239
          refine sX5_gather   (hI := hI) (tx2 := tx3) (tx3 := t3239)  (hp := fun  w_5v1658   hIw_5v1658  => ?_)
          refine sX5_joinClans   (hI := hIw_5v1658) (tx1 := tx1)  (hp := fun  w_6v1659   hIw_6v1659  => ?_)
          refine ⟨fun c3241 => ?_, fun c3241 => ?_⟩
          · replace c3241 := c_neq tx2 lit_0 c3241
            refine sX5_largestClan   (hI := hIw_6v1659)   (hp := fun r_8v1660 zr_8v1660 tr_8v1660 => ?_)
            exact hp _ _ _  tr_8v1660 hIw_6v1659 
          · replace c3241 := c_eq tx2 lit_0 c3241
            refine sX5_clanCount   (hI := hIw_6v1659)   (hp := fun r_10v1662 zr_10v1662 tr_10v1662 => ?_)
            exact hp _ _ _  tr_10v1662 hIw_6v1659 
        · replace c3237 := c_nle tx2 lit_1 c3237
          exact hp _ _ _  lit_m1 hI 
set_option maxHeartbeats 4000000 in
set_option maxRecDepth 100000 in
theorem sX10_samplesWith_6 {T D : Int} {k : Nat} {post : Int32 → Wd → Prop} {w : Wd}  (hp : ∀ (r : Int32) (zr : Int), Ti r zr → post r w) : ∀ (n : Nat) (x1 : Int32) (x2 : Int32) (x3 : Int32) (x4 : Int32) (x5 : Int32) (zx1 : Int) (zx2 : Int) (zx3 : Int) (zx4 : Int) (zx5 : Int), Ti x1 zx1 → Ti x2 zx2 → Ti x3 zx3 → Ti x4 zx4 → Ti x5 zx5 → IX k T D w → (0 ≤ zx5 ∧ zx5 ≤ 40) → (41 - zx5) < (n : Int) → pX10_samplesWith_6   post  n x1 x2 x3 x4 x5 w := by
  intro n
  induction n with
  | zero =>
    intro x1 x2 x3 x4 x5 zx1 zx2 zx3 zx4 zx5  tx1 tx2 tx3 tx4 tx5 hI h0 hm
    exact absurd hm (by omega)
  | succ n ih =>
    intro x1 x2 x3 x4 x5 zx1 zx2 zx3 zx4 zx5  tx1 tx2 tx3 tx4 tx5 hI h0 hm
    unfold pX10_samplesWith_6
    have hk := ix_k hI
    obtain ⟨z3242, t3243⟩ := t_any (w.1 70 0)
    have f3244 := ixg_70_0 hI t3243
    refine ⟨fun c3245 => ?_, fun c3245 => ?_⟩
    · replace c3245 := c_le t3243 tx5 c3245
      exact hp _ _ tx4 
    · replace c3245 := c_nle t3243 tx5 c3245
      refine sX3_counts   (hI := hI) (tx1 := tx5) (tx2 := lit_0) (tx3 := tx3)  (hp := fun r_2v1664 zr_2v1664 tr_2v1664 => ?_)
      refine ⟨fun c3246 => ?_, fun c3246 => ?_⟩
      · replace c3246 := c_eq tr_2v1664 lit_0 c3246
        unfold pX10_samplesWith_103
        obtain ⟨z3247, t3248, f3249⟩ := t_add tx5 lit_1
        first | replace f3249 := f3249 (by omega) | clear f3249
        intro x5_1v1666 ex5_1v1666
        have tx5_1v1666 : Ti x5_1v1666 z3247 := by rw [ex5_1v1666]; exact t3248
        exact ih _ _ _ _ _ _ _ _ _ _  tx1 tx2 tx3 tx4 tx5_1v1666 hI (by omega) (by omega)
      · replace c3246 := c_neq tr_2v1664 lit_0 c3246
        refine ⟨vp_of tx5 (by omega) (by omega), ?_⟩
        obtain ⟨z3250, t3251⟩ := t_any (w.2.1 76 x5.toNatClampNeg)
        refine ⟨fun c3252 => ?_, fun c3252 => ?_⟩
        · replace c3252 := c_eq t3251 lit_0 c3252
          unfold pX10_samplesWith_60
          refine ⟨vp_of tx5 (by omega) (by omega), ?_⟩
          obtain ⟨z3253, t3254, f3255⟩ := t_and (x := ((w.2.1 74 x5.toNatClampNeg) >>> (x1 &&& 31))) lit_1 (by decide)
          refine ⟨fun c3256 => ?_, fun c3256 => ?_⟩
          · replace c3256 := c_eq t3254 lit_0 c3256
            unfold pX10_samplesWith_85
            refine ⟨fun c3257 => ?_, fun c3257 => ?_⟩
            · replace c3257 := c_neq lit_0 tx2 c3257
              unfold pX10_samplesWith_100
              obtain ⟨z3258, t3259, f3260⟩ := t_add tx4 lit_0
              first | replace f3260 := f3260 (by omega) | clear f3260
              intro x4_1v1667 ex4_1v1667
              have tx4_1v1667 : Ti x4_1v1667 z3258 := by rw [ex4_1v1667]; exact t3259
              unfold pX10_samplesWith_103
              obtain ⟨z3261, t3262, f3263⟩ := t_add tx5 lit_1
              first | replace f3263 := f3263 (by omega) | clear f3263
              intro x5_1v1668 ex5_1v1668
              have tx5_1v1668 : Ti x5_1v1668 z3261 := by rw [ex5_1v1668]; exact t3262
              exact ih _ _ _ _ _ _ _ _ _ _  tx1 tx2 tx3 tx4_1v1667 tx5_1v1668 hI (by omega) (by omega)
            · replace c3257 := c_eq lit_0 tx2 c3257
              unfold pX10_samplesWith_100
              obtain ⟨z3264, t3265, f3266⟩ := t_add tx4 lit_1
              first | replace f3266 := f3266 (by omega) | clear f3266
              intro x4_1v1669 ex4_1v1669
              have tx4_1v1669 : Ti x4_1v1669 z3264 := by rw [ex4_1v1669]; exact t3265
              unfold pX10_samplesWith_103
              obtain ⟨z3267, t3268, f3269⟩ := t_add tx5 lit_1
              first | replace f3269 := f3269 (by omega) | clear f3269
              intro x5_1v1670 ex5_1v1670
              have tx5_1v1670 : Ti x5_1v1670 z3267 := by rw [ex5_1v1670]; exact t3268
              exact ih _ _ _ _ _ _ _ _ _ _  tx1 tx2 tx3 tx4_1v1669 tx5_1v1670 hI (by omega) (by omega)
          · replace c3256 := c_neq t3254 lit_0 c3256
            unfold pX10_samplesWith_85
            refine ⟨fun c3270 => ?_, fun c3270 => ?_⟩
            · replace c3270 := c_neq lit_1 tx2 c3270
              unfold pX10_samplesWith_100
              obtain ⟨z3271, t3272, f3273⟩ := t_add tx4 lit_0
              first | replace f3273 := f3273 (by omega) | clear f3273
              intro x4_1v1671 ex4_1v1671
              have tx4_1v1671 : Ti x4_1v1671 z3271 := by rw [ex4_1v1671]; exact t3272
              unfold pX10_samplesWith_103
              obtain ⟨z3274, t3275, f3276⟩ := t_add tx5 lit_1
              first | replace f3276 := f3276 (by omega) | clear f3276
              intro x5_1v1672 ex5_1v1672
              have tx5_1v1672 : Ti x5_1v1672 z3274 := by rw [ex5_1v1672]; exact t3275
              exact ih _ _ _ _ _ _ _ _ _ _  tx1 tx2 tx3 tx4_1v1671 tx5_1v1672 hI (by omega) (by omega)
            · replace c3270 := c_eq lit_1 tx2 c3270
              unfold pX10_samplesWith_100
              obtain ⟨z3277, t3278, f3279⟩ := t_add tx4 lit_1
              first | replace f3279 := f3279 (by omega) | clear f3279
              intro x4_1v1673 ex4_1v1673
              have tx4_1v1673 : Ti x4_1v1673 z3277 := by rw [ex4_1v1673]; exact t3278
              unfold pX10_samplesWith_103
              obtain ⟨z3280, t3281, f3282⟩ := t_add tx5 lit_1
              first | replace f3282 := f3282 (by omega) | clear f3282
              intro x5_1v1674 ex5_1v1674
              have tx5_1v1674 : Ti x5_1v1674 z3280 := by rw [ex5_1v1674]; exact t3281
              exact ih _ _ _ _ _ _ _ _ _ _  tx1 tx2 tx3 tx4_1v1673 tx5_1v1674 hI (by omega) (by omega)
        · replace c3252 := c_neq t3251 lit_0 c3252
          unfold pX10_samplesWith_60
          refine ⟨vp_of tx5 (by omega) (by omega), ?_⟩
          obtain ⟨z3283, t3284, f3285⟩ := t_and (x := ((w.2.1 74 x5.toNatClampNeg) >>> ((((w.1 (rl (w.2.2.2.2 0)) 0) - (1 : Int32)) - x1) &&& 31))) lit_1 (by decide)
          refine ⟨fun c3286 => ?_, fun c3286 => ?_⟩
          · replace c3286 := c_eq t3284 lit_0 c3286
            unfold pX10_samplesWith_85
            refine ⟨fun c3287 => ?_, fun c3287 => ?_⟩
            · replace c3287 := c_neq lit_0 tx2 c3287
              unfold pX10_samplesWith_100
              obtain ⟨z3288, t3289, f3290⟩ := t_add tx4 lit_0
              first | replace f3290 := f3290 (by omega) | clear f3290
              intro x4_1v1675 ex4_1v1675
              have tx4_1v1675 : Ti x4_1v1675 z3288 := by rw [ex4_1v1675]; exact t3289
              unfold pX10_samplesWith_103
              obtain ⟨z3291, t3292, f3293⟩ := t_add tx5 lit_1
              first | replace f3293 := f3293 (by omega) | clear f3293
              intro x5_1v1676 ex5_1v1676
              have tx5_1v1676 : Ti x5_1v1676 z3291 := by rw [ex5_1v1676]; exact t3292
              exact ih _ _ _ _ _ _ _ _ _ _  tx1 tx2 tx3 tx4_1v1675 tx5_1v1676 hI (by omega) (by omega)
            · replace c3287 := c_eq lit_0 tx2 c3287
              unfold pX10_samplesWith_100
              obtain ⟨z3294, t3295, f3296⟩ := t_add tx4 lit_1
              first | replace f3296 := f3296 (by omega) | clear f3296
              intro x4_1v1677 ex4_1v1677
              have tx4_1v1677 : Ti x4_1v1677 z3294 := by rw [ex4_1v1677]; exact t3295
              unfold pX10_samplesWith_103
              obtain ⟨z3297, t3298, f3299⟩ := t_add tx5 lit_1
              first | replace f3299 := f3299 (by omega) | clear f3299
              intro x5_1v1678 ex5_1v1678
              have tx5_1v1678 : Ti x5_1v1678 z3297 := by rw [ex5_1v1678]; exact t3298
              exact ih _ _ _ _ _ _ _ _ _ _  tx1 tx2 tx3 tx4_1v1677 tx5_1v1678 hI (by omega) (by omega)
          · replace c3286 := c_neq t3284 lit_0 c3286
            unfold pX10_samplesWith_85
            refine ⟨fun c3300 => ?_, fun c3300 => ?_⟩
            · replace c3300 := c_neq lit_1 tx2 c3300
              unfold pX10_samplesWith_100
              obtain ⟨z3301, t3302, f3303⟩ := t_add tx4 lit_0
              first | replace f3303 := f3303 (by omega) | clear f3303
              intro x4_1v1679 ex4_1v1679
              have tx4_1v1679 : Ti x4_1v1679 z3301 := by rw [ex4_1v1679]; exact t3302
              unfold pX10_samplesWith_103
              obtain ⟨z3304, t3305, f3306⟩ := t_add tx5 lit_1
              first | replace f3306 := f3306 (by omega) | clear f3306
              intro x5_1v1680 ex5_1v1680
              have tx5_1v1680 : Ti x5_1v1680 z3304 := by rw [ex5_1v1680]; exact t3305
              exact ih _ _ _ _ _ _ _ _ _ _  tx1 tx2 tx3 tx4_1v1679 tx5_1v1680 hI (by omega) (by omega)
            · replace c3300 := c_eq lit_1 tx2 c3300
              unfold pX10_samplesWith_100
              obtain ⟨z3307, t3308, f3309⟩ := t_add tx4 lit_1
              first | replace f3309 := f3309 (by omega) | clear f3309
              intro x4_1v1681 ex4_1v1681
              have tx4_1v1681 : Ti x4_1v1681 z3307 := by rw [ex4_1v1681]; exact t3308
              unfold pX10_samplesWith_103
              obtain ⟨z3310, t3311, f3312⟩ := t_add tx5 lit_1
              first | replace f3312 := f3312 (by omega) | clear f3312
              intro x5_1v1682 ex5_1v1682
              have tx5_1v1682 : Ti x5_1v1682 z3310 := by rw [ex5_1v1682]; exact t3311
              exact ih _ _ _ _ _ _ _ _ _ _  tx1 tx2 tx3 tx4_1v1681 tx5_1v1682 hI (by omega) (by omega)
set_option maxHeartbeats 4000000 in
set_option maxRecDepth 100000 in
theorem sX10_samplesWith {T D : Int} {k : Nat} {post : Int32 → Wd → Prop} {x1 : Int32} {zx1 : Int} {x2 : Int32} {zx2 : Int} {x3 : Int32} {zx3 : Int} {w : Wd}  (tx1 : Ti x1 zx1) (tx2 : Ti x2 zx2) (tx3 : Ti x3 zx3) (hI : IX k T D w)  (hp : ∀ (r : Int32) (zr : Int), Ti r zr → post r w) : pX10_samplesWith   post  x1 x2 x3 w := by
  unfold pX10_samplesWith
  have hk := ix_k hI
  exact ⟨70000, sX10_samplesWith_6   (hp := hp) 70000 _ _ _ _ _ _ _ _ _ _  tx1 tx2 tx3 lit_0 lit_0 hI (by omega) (by omega)⟩
set_option maxHeartbeats 4000000 in
set_option maxRecDepth 100000 in
theorem sX10_origin_19 {T D : Int} {k : Nat} {post : Int32 → Wd → Prop} {w : Wd}  (hp : ∀ (r : Int32) (zr : Int), Ti r zr → post r w) : ∀ (n : Nat) (x1 : Int32) (x2 : Int32) (x3 : Int32) (x4 : Int32) (x5 : Int32) (zx1 : Int) (zx2 : Int) (zx3 : Int) (zx4 : Int) (zx5 : Int), Ti x1 zx1 → Ti x2 zx2 → Ti x3 zx3 → Ti x4 zx4 → Ti x5 zx5 → IX k T D w → (0 ≤ zx5 ∧ zx5 ≤ 12) → (13 - zx5) < (n : Int) → pX10_origin_19   post  n x1 x2 x3 x4 x5 w := by
  intro n
  induction n with
  | zero =>
    intro x1 x2 x3 x4 x5 zx1 zx2 zx3 zx4 zx5  tx1 tx2 tx3 tx4 tx5 hI h0 hm
    exact absurd hm (by omega)
  | succ n ih =>
    intro x1 x2 x3 x4 x5 zx1 zx2 zx3 zx4 zx5  tx1 tx2 tx3 tx4 tx5 hI h0 hm
    unfold pX10_origin_19
    have hk := ix_k hI
    obtain ⟨z3313, t3314⟩ := t_any (w.1 (rl (w.2.2.2.2 0)) 0)
    have f3315 := ixg_r0 hI t3314
    refine ⟨fun c3316 => ?_, fun c3316 => ?_⟩
    · replace c3316 := c_le t3314 tx5 c3316
      refine ⟨fun c3317 => ?_, fun c3317 => ?_⟩
      · replace c3317 := c_neq tx1 lit_0 c3317
        exact hp _ _ tx4 
      · replace c3317 := c_eq tx1 lit_0 c3317
        exact hp _ _ tx3 
    · replace c3316 := c_nle t3314 tx5 c3316
      refine sX10_samplesWith   (hI := hI) (tx1 := tx5) (tx2 := lit_0) (tx3 := tx2)  (hp := fun r_3v1683 zr_3v1683 tr_3v1683 => ?_)
      refine sX10_samplesWith   (hI := hI) (tx1 := tx5) (tx2 := lit_1) (tx3 := tx2)  (hp := fun r_5v1688 zr_5v1688 tr_5v1688 => ?_)
      obtain ⟨z3318, t3319, f3320⟩ := t_mul lit_2 tr_5v1688
      first | replace f3320 := f3320 (by omega) | clear f3320
      refine ⟨fun c3321 => ?_, fun c3321 => ?_⟩
      · replace c3321 := c_le t3319 tr_3v1683 c3321
        unfold pX10_origin_67
        obtain ⟨z3322, t3323, f3324⟩ := t_ite t3319 tr_3v1683 t3319 tr_3v1683
        obtain ⟨z3325, t3326, f3327⟩ := t_add tx4 t3323
        first | replace f3327 := f3327 (by omega) | clear f3327
        intro x4_1v1692 ex4_1v1692
        have tx4_1v1692 : Ti x4_1v1692 z3325 := by rw [ex4_1v1692]; exact t3326
        obtain ⟨z3328, t3329, f3330⟩ := t_add tx5 lit_1
        first | replace f3330 := f3330 (by omega) | clear f3330
        intro x5_2v1693 ex5_2v1693
        have tx5_2v1693 : Ti x5_2v1693 z3328 := by rw [ex5_2v1693]; exact t3329
        exact ih _ _ _ _ _ _ _ _ _ _  tx1 tx2 tx3 tx4_1v1692 tx5_2v1693 hI (by omega) (by omega)
      · replace c3321 := c_nle t3319 tr_3v1683 c3321
        obtain ⟨z3331, t3332⟩ := t_any (x3 ||| ((1 : Int32) <<< (x5 &&& 31)))
        intro x3_8v1691 ex3_8v1691
        have tx3_8v1691 : Ti x3_8v1691 z3331 := by rw [ex3_8v1691]; exact t3332
        unfold pX10_origin_67
        obtain ⟨z3333, t3334, f3335⟩ := t_ite t3319 tr_3v1683 t3319 tr_3v1683
        obtain ⟨z3336, t3337, f3338⟩ := t_add tx4 t3334
        first | replace f3338 := f3338 (by omega) | clear f3338
        intro x4_1v1694 ex4_1v1694
        have tx4_1v1694 : Ti x4_1v1694 z3336 := by rw [ex4_1v1694]; exact t3337
        obtain ⟨z3339, t3340, f3341⟩ := t_add tx5 lit_1
        first | replace f3341 := f3341 (by omega) | clear f3341
        intro x5_2v1695 ex5_2v1695
        have tx5_2v1695 : Ti x5_2v1695 z3339 := by rw [ex5_2v1695]; exact t3340
        exact ih _ _ _ _ _ _ _ _ _ _  tx1 tx2 tx3_8v1691 tx4_1v1694 tx5_2v1695 hI (by omega) (by omega)
set_option maxHeartbeats 4000000 in
set_option maxRecDepth 100000 in
theorem sX10_origin {T D : Int} {k : Nat} {post : Int32 → Wd → Prop} {x1 : Int32} {zx1 : Int} {x2 : Int32} {zx2 : Int} {w : Wd}  (tx1 : Ti x1 zx1) (tx2 : Ti x2 zx2) (hI : IX k T D w)  (hp : ∀ (r : Int32) (zr : Int), Ti r zr → post r w) : pX10_origin   post  x1 x2 w := by
  unfold pX10_origin
  have hk := ix_k hI
  refine ⟨fun c3342 => ?_, fun c3342 => ?_⟩
  · replace c3342 := c_lt tx1 lit_0 c3342
    exact hp _ _ lit_m1 
  · replace c3342 := c_nlt tx1 lit_0 c3342
    refine ⟨fun c3343 => ?_, fun c3343 => ?_⟩
    · replace c3343 := c_le tx1 lit_1 c3343
      exact ⟨70000, sX10_origin_19   (hp := hp) 70000 _ _ _ _ _ _ _ _ _ _  tx1 tx2 lit_0 lit_0 lit_0 hI (by omega) (by omega)⟩
    · replace c3343 := c_nle tx1 lit_1 c3343
      exact hp _ _ lit_m1 
set_option maxHeartbeats 4000000 in
set_option maxRecDepth 100000 in
theorem sX10_isFalse {T D : Int} {k : Nat} {post : Int32 → Wd → Prop} {x1 : Int32} {zx1 : Int} {w : Wd}  (tx1 : Ti x1 zx1) (hI : IX k T D w) (h0 : 0 ≤ zx1 ∧ zx1 ≤ 39) (hp : ∀ (r : Int32) (zr : Int), Ti r zr → post r w) : pX10_isFalse   post  x1 w := by
  unfold pX10_isFalse
  have hk := ix_k hI
  refine ⟨vp_of tx1 (by omega) (by omega), ?_⟩
  obtain ⟨z3344, t3345⟩ := t_any (w.2.1 75 x1.toNatClampNeg)
  intro x2_1v1696 ex2_1v1696
  have tx2_1v1696 : Ti x2_1v1696 z3344 := by rw [ex2_1v1696]; exact t3345
  refine sX10_isSeal   (hI := hI) (tx1 := tx2_1v1696)  (hp := fun r_2v1697 zr_2v1697 tr_2v1697 p3346 => ?_)
  refine ⟨fun c3347 => ?_, fun c3347 => ?_⟩
  · replace c3347 := c_eq tr_2v1697 lit_0 c3347
    exact hp _ _ lit_1 
  · replace c3347 := c_neq tr_2v1697 lit_0 c3347
    refine ⟨vp_of tx1 (by omega) (by omega), ?_⟩
    refine sX10_printOf   (hI := hI) (tx1 := tx2_1v1696)  (hp := fun r_5v1701 zr_5v1701 tr_5v1701 => ?_)
    obtain ⟨z3348, t3349⟩ := t_any ((w.2.1 74 x1.toNatClampNeg) &&& (r_5v1701 ^^^ (-1 : Int32)))
    refine ⟨fun c3350 => ?_, fun c3350 => ?_⟩
    · replace c3350 := c_neq t3349 lit_0 c3350
      exact hp _ _ lit_1 
    · replace c3350 := c_eq t3349 lit_0 c3350
      refine ⟨vp_of tx1 (by omega) (by omega), ?_⟩
      refine ⟨vp_of tx2_1v1696 (by omega) (by omega), ?_⟩
      obtain ⟨z3351, t3352⟩ := t_any (w.2.1 165 x2_1v1696.toNatClampNeg)
      obtain ⟨z3353, t3354⟩ := t_any (w.2.1 76 x1.toNatClampNeg)
      refine ⟨fun c3355 => ?_, fun c3355 => ?_⟩
      · replace c3355 := c_le t3352 t3354 c3355
        exact hp _ _ lit_0 
      · replace c3355 := c_nle t3352 t3354 c3355
        exact hp _ _ lit_1 
set_option maxHeartbeats 4000000 in
set_option maxRecDepth 100000 in
theorem sX10_falses_12 {T D : Int} {k : Nat} {post : Int32 → Wd → Prop}   (hp : ∀ (r : Int32) (zr : Int) (w9 : Wd), Ti r zr → IX k T D w9 → post r w9) : ∀ (n : Nat) (x1 : Int32) (x2 : Int32) (x3 : Int32) (zx1 : Int) (zx2 : Int) (zx3 : Int) (w : Wd), Ti x1 zx1 → Ti x2 zx2 → Ti x3 zx3 → IX k T D w → (0 ≤ zx3 ∧ zx3 ≤ 40) → (41 - zx3) < (n : Int) → pX10_falses_12   post  n x1 x2 x3 w := by
  intro n
  induction n with
  | zero =>
    intro x1 x2 x3 zx1 zx2 zx3 w tx1 tx2 tx3 hI h0 hm
    exact absurd hm (by omega)
  | succ n ih =>
    intro x1 x2 x3 zx1 zx2 zx3 w tx1 tx2 tx3 hI h0 hm
    unfold pX10_falses_12
    have hk := ix_k hI
    obtain ⟨z3356, t3357⟩ := t_any (w.1 70 0)
    have f3358 := ixg_70_0 hI t3357
    refine ⟨fun c3359 => ?_, fun c3359 => ?_⟩
    · replace c3359 := c_le t3357 tx3 c3359
      exact hp _ _ _  tx2 hI 
    · replace c3359 := c_nle t3357 tx3 c3359
      refine sX3_counts   (hI := hI) (tx1 := tx3) (tx2 := lit_1) (tx3 := tx1)  (hp := fun r_2v1703 zr_2v1703 tr_2v1703 => ?_)
      refine ⟨fun c3360 => ?_, fun c3360 => ?_⟩
      · replace c3360 := c_eq tr_2v1703 lit_0 c3360
        unfold pX10_falses_61
        obtain ⟨z3361, t3362, f3363⟩ := t_add tx3 lit_1
        first | replace f3363 := f3363 (by omega) | clear f3363
        intro x3_1v1711 ex3_1v1711
        have tx3_1v1711 : Ti x3_1v1711 z3361 := by rw [ex3_1v1711]; exact t3362
        exact ih _ _ _ _ _ _ _ tx1 tx2 tx3_1v1711 hI (by omega) (by omega)
      · replace c3360 := c_neq tr_2v1703 lit_0 c3360
        refine sX10_isFalse   (hI := hI) (tx1 := tx3) (h0 := (by omega)) (hp := fun r_5v1708 zr_5v1708 tr_5v1708 => ?_)
        refine ⟨fun c3364 => ?_, fun c3364 => ?_⟩
        · replace c3364 := c_eq tr_5v1708 lit_0 c3364
          unfold pX10_falses_61
          obtain ⟨z3365, t3366, f3367⟩ := t_add tx3 lit_1
          first | replace f3367 := f3367 (by omega) | clear f3367
          intro x3_1v1713 ex3_1v1713
          have tx3_1v1713 : Ti x3_1v1713 z3365 := by rw [ex3_1v1713]; exact t3366
          exact ih _ _ _ _ _ _ _ tx1 tx2 tx3_1v1713 hI (by omega) (by omega)
        · replace c3364 := c_neq tr_5v1708 lit_0 c3364
          refine ⟨fun c3368 => ?_, fun c3368 => ?_⟩
          · replace c3368 := c_le lit_8 tx2 c3368
            unfold pX10_falses_58
            obtain ⟨z3369, t3370, f3371⟩ := t_add tx2 lit_1
            first | replace f3371 := f3371 (by omega) | clear f3371
            intro x2_1v1714 ex2_1v1714
            have tx2_1v1714 : Ti x2_1v1714 z3369 := by rw [ex2_1v1714]; exact t3370
            unfold pX10_falses_61
            obtain ⟨z3372, t3373, f3374⟩ := t_add tx3 lit_1
            first | replace f3374 := f3374 (by omega) | clear f3374
            intro x3_1v1715 ex3_1v1715
            have tx3_1v1715 : Ti x3_1v1715 z3372 := by rw [ex3_1v1715]; exact t3373
            exact ih _ _ _ _ _ _ _ tx1 tx2_1v1714 tx3_1v1715 hI (by omega) (by omega)
          · replace c3368 := c_nle lit_8 tx2 c3368
            refine sX4_lay   (hI := hI) (tx1 := tx3)  (hp := fun  w_9v1712   hIw_9v1712  => ?_)
            unfold pX10_falses_58
            obtain ⟨z3375, t3376, f3377⟩ := t_add tx2 lit_1
            first | replace f3377 := f3377 (by omega) | clear f3377
            intro x2_1v1716 ex2_1v1716
            have tx2_1v1716 : Ti x2_1v1716 z3375 := by rw [ex2_1v1716]; exact t3376
            unfold pX10_falses_61
            obtain ⟨z3378, t3379, f3380⟩ := t_add tx3 lit_1
            first | replace f3380 := f3380 (by omega) | clear f3380
            intro x3_1v1717 ex3_1v1717
            have tx3_1v1717 : Ti x3_1v1717 z3378 := by rw [ex3_1v1717]; exact t3379
            exact ih _ _ _ _ _ _ _ tx1 tx2_1v1716 tx3_1v1717 hIw_9v1712 (by omega) (by omega)
set_option maxHeartbeats 4000000 in
set_option maxRecDepth 100000 in
theorem sX10_falses {T D : Int} {k : Nat} {post : Int32 → Wd → Prop} {x1 : Int32} {zx1 : Int} {w : Wd}  (tx1 : Ti x1 zx1) (hI : IX k T D w)  (hp : ∀ (r : Int32) (zr : Int) (w9 : Wd), Ti r zr → IX k T D w9 → post r w9) : pX10_falses   post  x1 w := by
  unfold pX10_falses
  have hk := ix_k hI
  intro w_1v1718 ew_1v1718
  have hIw_1v1718 := ixs_110_1 hI ew_1v1718 lit_0 (by omega) (by omega)
  exact ⟨70000, sX10_falses_12   (hp := hp) 70000 _ _ _ _ _ _ _ tx1 lit_0 lit_0 hIw_1v1718 (by omega) (by omega)⟩
set_option maxHeartbeats 4000000 in
set_option maxRecDepth 100000 in
theorem sX10_span_30 {T D : Int} {k : Nat} {post : Int32 → Wd → Prop} {w : Wd}  (hp : ∀ (r : Int32) (zr : Int), Ti r zr → post r w) : ∀ (n : Nat) (x1 : Int32) (x2 : Int32) (x3 : Int32) (x4 : Int32) (x5 : Int32) (x6 : Int32) (zx1 : Int) (zx2 : Int) (zx3 : Int) (zx4 : Int) (zx5 : Int) (zx6 : Int), Ti x1 zx1 → Ti x2 zx2 → Ti x3 zx3 → Ti x4 zx4 → Ti x5 zx5 → Ti x6 zx6 → IX k T D w → (0 ≤ zx6 ∧ zx6 ≤ 40) → (41 - zx6) < (n : Int) → pX10_span_30   post  n x1 x2 x3 x4 x5 x6 w := by
  intro n
  induction n with
  | zero =>
    intro x1 x2 x3 x4 x5 x6 zx1 zx2 zx3 zx4 zx5 zx6  tx1 tx2 tx3 tx4 tx5 tx6 hI h0 hm
    exact absurd hm (by omega)
  | succ n ih =>
    intro x1 x2 x3 x4 x5 x6 zx1 zx2 zx3 zx4 zx5 zx6  tx1 tx2 tx3 tx4 tx5 tx6 hI h0 hm
    unfold pX10_span_30
    have hk := ix_k hI
    obtain ⟨z3381, t3382⟩ := t_any (w.1 70 0)
    have f3383 := ixg_70_0 hI t3382
    refine ⟨fun c3384 => ?_, fun c3384 => ?_⟩
    · replace c3384 := c_le t3382 tx6 c3384
      refine ⟨fun c3385 => ?_, fun c3385 => ?_⟩
      · replace c3385 := c_neq tx2 lit_2 c3385
        refine ⟨fun c3386 => ?_, fun c3386 => ?_⟩
        · replace c3386 := c_le tx4 tx5 c3386
          refine ⟨fun c3387 => ?_, fun c3387 => ?_⟩
          · replace c3387 := c_neq tx2 lit_0 c3387
            exact hp _ _ tx5 
          · replace c3387 := c_eq tx2 lit_0 c3387
            exact hp _ _ tx4 
        · replace c3386 := c_nle tx4 tx5 c3386
          exact hp _ _ lit_m1 
      · replace c3385 := c_eq tx2 lit_2 c3385
        obtain ⟨z3388, t3389, f3390⟩ := t_sub tx5 tx4
        first | replace f3390 := f3390 (by omega) | clear f3390
        obtain ⟨z3391, t3392, f3393⟩ := t_add t3389 lit_1
        first | replace f3393 := f3393 (by omega) | clear f3393
        obtain ⟨z3394, t3395, f3396⟩ := t_ite lit_0 t3392 t3392 lit_0
        exact hp _ _ t3395 
    · replace c3384 := c_nle t3382 tx6 c3384
      refine sX3_counts   (hI := hI) (tx1 := tx6) (tx2 := lit_2) (tx3 := tx3)  (hp := fun r_5v1719 zr_5v1719 tr_5v1719 => ?_)
      refine ⟨fun c3397 => ?_, fun c3397 => ?_⟩
      · replace c3397 := c_eq tr_5v1719 lit_0 c3397
        unfold pX10_span_122
        obtain ⟨z3398, t3399, f3400⟩ := t_add tx6 lit_1
        first | replace f3400 := f3400 (by omega) | clear f3400
        intro x6_1v1725 ex6_1v1725
        have tx6_1v1725 : Ti x6_1v1725 z3398 := by rw [ex6_1v1725]; exact t3399
        exact ih _ _ _ _ _ _ _ _ _ _ _ _  tx1 tx2 tx3 tx4 tx5 tx6_1v1725 hI (by omega) (by omega)
      · replace c3397 := c_neq tr_5v1719 lit_0 c3397
        refine ⟨vp_of tx6 (by omega) (by omega), ?_⟩
        obtain ⟨z3401, t3402⟩ := t_any (w.2.1 74 x6.toNatClampNeg)
        refine ⟨fun c3403 => ?_, fun c3403 => ?_⟩
        · replace c3403 := c_neq t3402 tx1 c3403
          unfold pX10_span_122
          obtain ⟨z3404, t3405, f3406⟩ := t_add tx6 lit_1
          first | replace f3406 := f3406 (by omega) | clear f3406
          intro x6_1v1726 ex6_1v1726
          have tx6_1v1726 : Ti x6_1v1726 z3404 := by rw [ex6_1v1726]; exact t3405
          exact ih _ _ _ _ _ _ _ _ _ _ _ _  tx1 tx2 tx3 tx4 tx5 tx6_1v1726 hI (by omega) (by omega)
        · replace c3403 := c_eq t3402 tx1 c3403
          refine ⟨vp_of tx6 (by omega) (by omega), ?_⟩
          obtain ⟨z3407, t3408⟩ := t_any (w.2.1 76 x6.toNatClampNeg)
          refine ⟨fun c3409 => ?_, fun c3409 => ?_⟩
          · replace c3409 := c_eq t3408 lit_0 c3409
            refine ⟨vp_of tx6 (by omega) (by omega), ?_⟩
            obtain ⟨z3410, t3411⟩ := t_any (w.2.1 75 x6.toNatClampNeg)
            obtain ⟨z3412, t3413, f3414⟩ := t_ite t3411 tx5 t3411 tx5
            intro x5_10v1723 ex5_10v1723
            have tx5_10v1723 : Ti x5_10v1723 z3412 := by rw [ex5_10v1723]; exact t3413
            unfold pX10_span_122
            obtain ⟨z3415, t3416, f3417⟩ := t_add tx6 lit_1
            first | replace f3417 := f3417 (by omega) | clear f3417
            intro x6_1v1727 ex6_1v1727
            have tx6_1v1727 : Ti x6_1v1727 z3415 := by rw [ex6_1v1727]; exact t3416
            exact ih _ _ _ _ _ _ _ _ _ _ _ _  tx1 tx2 tx3 tx4 tx5_10v1723 tx6_1v1727 hI (by omega) (by omega)
          · replace c3409 := c_neq t3408 lit_0 c3409
            refine ⟨vp_of tx6 (by omega) (by omega), ?_⟩
            obtain ⟨z3418, t3419⟩ := t_any (w.2.1 75 x6.toNatClampNeg)
            obtain ⟨z3420, t3421, f3422⟩ := t_add t3419 lit_1
            first | replace f3422 := f3422 (by omega) | clear f3422
            obtain ⟨z3423, t3424, f3425⟩ := t_ite tx4 t3421 t3421 tx4
            intro x4_11v1724 ex4_11v1724
            have tx4_11v1724 : Ti x4_11v1724 z3423 := by rw [ex4_11v1724]; exact t3424
            unfold pX10_span_122
            obtain ⟨z3426, t3427, f3428⟩ := t_add tx6 lit_1
            first | replace f3428 := f3428 (by omega) | clear f3428
            intro x6_1v1728 ex6_1v1728
            have tx6_1v1728 : Ti x6_1v1728 z3426 := by rw [ex6_1v1728]; exact t3427
            exact ih _ _ _ _ _ _ _ _ _ _ _ _  tx1 tx2 tx3 tx4_11v1724 tx5 tx6_1v1728 hI (by omega) (by omega)
set_option maxHeartbeats 4000000 in
set_option maxRecDepth 100000 in
theorem sX10_span {T D : Int} {k : Nat} {post : Int32 → Wd → Prop} {x1 : Int32} {zx1 : Int} {x2 : Int32} {zx2 : Int} {x3 : Int32} {zx3 : Int} {w : Wd}  (tx1 : Ti x1 zx1) (tx2 : Ti x2 zx2) (tx3 : Ti x3 zx3) (hI : IX k T D w)  (hp : ∀ (r : Int32) (zr : Int), Ti r zr → post r w) : pX10_span   post  x1 x2 x3 w := by
  unfold pX10_span
  have hk := ix_k hI
  refine sX10_isMark   (hI := hI) (tx1 := tx1)  (hp := fun r_1v1729 zr_1v1729 tr_1v1729 p3429 => ?_)
  refine ⟨fun c3430 => ?_, fun c3430 => ?_⟩
  · replace c3430 := c_eq tr_1v1729 lit_0 c3430
    exact hp _ _ lit_m1 
  · replace c3430 := c_neq tr_1v1729 lit_0 c3430
    refine ⟨fun c3431 => ?_, fun c3431 => ?_⟩
    · replace c3431 := c_lt tx2 lit_0 c3431
      exact hp _ _ lit_m1 
    · replace c3431 := c_nlt tx2 lit_0 c3431
      refine ⟨fun c3432 => ?_, fun c3432 => ?_⟩
      · replace c3432 := c_le tx2 lit_2 c3432
        exact ⟨70000, sX10_span_30   (hp := hp) 70000 _ _ _ _ _ _ _ _ _ _ _ _  tx1 tx2 tx3 lit_0 lit_999 lit_0 hI (by omega) (by omega)⟩
      · replace c3432 := c_nle tx2 lit_2 c3432
        exact hp _ _ lit_m1 
set_option maxHeartbeats 4000000 in
set_option maxRecDepth 100000 in
theorem sX3_join_72 {T D : Int} {k : Nat} {post : Int32 → Wd → Prop}   (hp : ∀ (r : Int32) (zr : Int) (w9 : Wd), Ti r zr → IX k T D w9 → post r w9) : ∀ (n : Nat) (x1 : Int32) (x4 : Int32) (x5 : Int32) (x6 : Int32) (zx1 : Int) (zx4 : Int) (zx5 : Int) (zx6 : Int) (w : Wd), Ti x1 zx1 → Ti x4 zx4 → Ti x5 zx5 → Ti x6 zx6 → IX k T D w → (0 ≤ zx6 ∧ zx6 ≤ 8) → (0 ≤ zx1 ∧ zx1 ≤ 7) → (9 - zx6) < (n : Int) → pX3_join_72   post  n x1 x4 x5 x6 w := by
  intro n
  induction n with
  | zero =>
    intro x1 x4 x5 x6 zx1 zx4 zx5 zx6 w tx1 tx4 tx5 tx6 hI h0 h1 hm
    exact absurd hm (by omega)
  | succ n ih =>
    intro x1 x4 x5 x6 zx1 zx4 zx5 zx6 w tx1 tx4 tx5 tx6 hI h0 h1 hm
    unfold pX3_join_72
    have hk := ix_k hI
    refine ⟨fun c3433 => ?_, fun c3433 => ?_⟩
    · replace c3433 := c_le lit_8 tx6 c3433
      exact hp _ _ _  lit_1 hI 
    · replace c3433 := c_nle lit_8 tx6 c3433
      refine ⟨vp_of tx6 (by omega) (by omega), ?_⟩
      obtain ⟨z3434, t3435⟩ := t_any (w.2.1 79 x6.toNatClampNeg)
      refine ⟨fun c3436 => ?_, fun c3436 => ?_⟩
      · replace c3436 := c_neq t3435 tx5 c3436
        unfold pX3_join_116
        obtain ⟨z3437, t3438, f3439⟩ := t_add tx6 lit_1
        first | replace f3439 := f3439 (by omega) | clear f3439
        intro x6_1v1733 ex6_1v1733
        have tx6_1v1733 : Ti x6_1v1733 z3437 := by rw [ex6_1v1733]; exact t3438
        exact ih _ _ _ _ _ _ _ _ _ tx1 tx4 tx5 tx6_1v1733 hI (by omega) (by omega) (by omega)
      · replace c3436 := c_eq t3435 tx5 c3436
        refine ⟨vp_of tx1 (by omega) (by omega), ?_⟩
        refine ⟨vp_of tx6 (by omega) (by omega), ?_⟩
        intro w_3v1731 ew_3v1731
        have hIw_3v1731 := ixs_A hI ew_3v1731 (by decide)
        refine ⟨vp_of tx6 (by omega) (by omega), ?_⟩
        refine ⟨vp_of tx6 (by omega) (by omega), ?_⟩
        intro w_4v1732 ew_4v1732
        have hIw_4v1732 := ixs_A hIw_3v1731 ew_4v1732 (by decide)
        unfold pX3_join_116
        obtain ⟨z3440, t3441, f3442⟩ := t_add tx6 lit_1
        first | replace f3442 := f3442 (by omega) | clear f3442
        intro x6_1v1734 ex6_1v1734
        have tx6_1v1734 : Ti x6_1v1734 z3440 := by rw [ex6_1v1734]; exact t3441
        exact ih _ _ _ _ _ _ _ _ _ tx1 tx4 tx5 tx6_1v1734 hIw_4v1732 (by omega) (by omega) (by omega)
set_option maxHeartbeats 4000000 in
set_option maxRecDepth 100000 in
theorem sX3_join {T D : Int} {k : Nat} {post : Int32 → Wd → Prop} {x1 : Int32} {zx1 : Int} {x2 : Int32} {zx2 : Int} {x3 : Int32} {zx3 : Int} {w : Wd}  (tx1 : Ti x1 zx1) (tx2 : Ti x2 zx2) (tx3 : Ti x3 zx3) (hI : IX k T D w)  (hp : ∀ (r : Int32) (zr : Int) (w9 : Wd), Ti r zr → IX k T D w9 → post r w9) : pX3_join   post  x1 x2 x3 w := by
  unfold pX3_join
  have hk := ix_k hI
  refine ⟨fun c3443 => ?_, fun c3443 => ?_⟩
  · replace c3443 := c_lt tx1 lit_0 c3443
    exact hp _ _ _  lit_0 hI 
  · replace c3443 := c_nlt tx1 lit_0 c3443
    refine ⟨fun c3444 => ?_, fun c3444 => ?_⟩
    · replace c3444 := c_le lit_8 tx1 c3444
      exact hp _ _ _  lit_0 hI 
    · replace c3444 := c_nle lit_8 tx1 c3444
      refine ⟨fun c3445 => ?_, fun c3445 => ?_⟩
      · replace c3445 := c_lt tx2 lit_0 c3445
        exact hp _ _ _  lit_0 hI 
      · replace c3445 := c_nlt tx2 lit_0 c3445
        refine ⟨fun c3446 => ?_, fun c3446 => ?_⟩
        · replace c3446 := c_lt tx2 lit_8 c3446
          refine ⟨vp_of tx1 (by omega) (by omega), ?_⟩
          refine ⟨vp_of tx2 (by omega) (by omega), ?_⟩
          obtain ⟨z3447, t3448⟩ := t_any (((w.2.1 80 x1.toNatClampNeg) ^^^ (w.2.1 80 x2.toNatClampNeg)) ^^^ x3)
          intro x4_5v1735 ex4_5v1735
          have tx4_5v1735 : Ti x4_5v1735 z3447 := by rw [ex4_5v1735]; exact t3448
          refine ⟨vp_of tx2 (by omega) (by omega), ?_⟩
          obtain ⟨z3449, t3450⟩ := t_any (w.2.1 79 x2.toNatClampNeg)
          intro x5_6v1736 ex5_6v1736
          have tx5_6v1736 : Ti x5_6v1736 z3449 := by rw [ex5_6v1736]; exact t3450
          refine ⟨vp_of tx1 (by omega) (by omega), ?_⟩
          obtain ⟨z3451, t3452⟩ := t_any (w.2.1 79 x1.toNatClampNeg)
          refine ⟨fun c3453 => ?_, fun c3453 => ?_⟩
          · replace c3453 := c_neq t3452 tx5_6v1736 c3453
            exact ⟨70000, sX3_join_72   (hp := hp) 70000 _ _ _ _ _ _ _ _ _ tx1 tx4_5v1735 tx5_6v1736 lit_0 hI (by omega) (by omega) (by omega)⟩
          · replace c3453 := c_eq t3452 tx5_6v1736 c3453
            refine ⟨fun c3454 => ?_, fun c3454 => ?_⟩
            · replace c3454 := c_neq tx4_5v1735 lit_0 c3454
              exact hp _ _ _  lit_0 hI 
            · replace c3454 := c_eq tx4_5v1735 lit_0 c3454
              exact hp _ _ _  lit_1 hI 
        · replace c3446 := c_nlt tx2 lit_8 c3446
          exact hp _ _ _  lit_0 hI 
set_option maxHeartbeats 4000000 in
set_option maxRecDepth 100000 in
theorem sX3_sideOf_42 {T D : Int} {k : Nat} {post : Int32 → Wd → Prop}   (hp : ∀ (r : Int32) (zr : Int) (w9 : Wd), Ti r zr → IX k T D w9 → post r w9) : ∀ (n : Nat) (x1 : Int32) (x2 : Int32) (x3 : Int32) (zx1 : Int) (zx2 : Int) (zx3 : Int) (w : Wd), Ti x1 zx1 → Ti x2 zx2 → Ti x3 zx3 → IX k T D w → (0 ≤ zx3 ∧ zx3 ≤ 40) → (0 ≤ zx1 ∧ zx1 ≤ 7) → (41 - zx3) < (n : Int) → pX3_sideOf_42   post  n x1 x2 x3 w := by
  intro n
  induction n with
  | zero =>
    intro x1 x2 x3 zx1 zx2 zx3 w tx1 tx2 tx3 hI h0 h1 hm
    exact absurd hm (by omega)
  | succ n ih =>
    intro x1 x2 x3 zx1 zx2 zx3 w tx1 tx2 tx3 hI h0 h1 hm
    unfold pX3_sideOf_42
    have hk := ix_k hI
    obtain ⟨z3455, t3456⟩ := t_any (w.1 70 0)
    have f3457 := ixg_70_0 hI t3456
    refine ⟨fun c3458 => ?_, fun c3458 => ?_⟩
    · replace c3458 := c_le t3456 tx3 c3458
      refine ⟨vp_of tx1 (by omega) (by omega), ?_⟩
      obtain ⟨z3459, t3460⟩ := t_any (w.2.1 79 x1.toNatClampNeg)
      obtain ⟨z3461, t3462⟩ := t_any (w.2.1 79 (0 : Int32).toNatClampNeg)
      refine ⟨fun c3463 => ?_, fun c3463 => ?_⟩
      · replace c3463 := c_neq t3460 t3462 c3463
        exact hp _ _ _  lit_m1 hI 
      · replace c3463 := c_eq t3460 t3462 c3463
        refine ⟨vp_of tx1 (by omega) (by omega), ?_⟩
        obtain ⟨z3464, t3465⟩ := t_any ((w.2.1 80 x1.toNatClampNeg) ^^^ (w.2.1 80 (0 : Int32).toNatClampNeg))
        exact hp _ _ _  t3465 hI 
    · replace c3458 := c_nle t3456 tx3 c3458
      refine sX3_counts   (hI := hI) (tx1 := tx3) (tx2 := lit_3) (tx3 := tx2)  (hp := fun r_3v1737 zr_3v1737 tr_3v1737 => ?_)
      refine ⟨fun c3466 => ?_, fun c3466 => ?_⟩
      · replace c3466 := c_eq tr_3v1737 lit_0 c3466
        unfold pX3_sideOf_88
        obtain ⟨z3467, t3468, f3469⟩ := t_add tx3 lit_1
        first | replace f3469 := f3469 (by omega) | clear f3469
        intro x3_1v1743 ex3_1v1743
        have tx3_1v1743 : Ti x3_1v1743 z3467 := by rw [ex3_1v1743]; exact t3468
        exact ih _ _ _ _ _ _ _ tx1 tx2 tx3_1v1743 hI (by omega) (by omega) (by omega)
      · replace c3466 := c_neq tr_3v1737 lit_0 c3466
        refine ⟨vp_of tx3 (by omega) (by omega), ?_⟩
        refine ⟨vp_of tx3 (by omega) (by omega), ?_⟩
        refine ⟨vp_of tx3 (by omega) (by omega), ?_⟩
        obtain ⟨z3470, t3471⟩ := t_any (w.2.1 74 x3.toNatClampNeg)
        obtain ⟨z3472, t3473⟩ := t_any (w.2.1 75 x3.toNatClampNeg)
        obtain ⟨z3474, t3475⟩ := t_any (w.2.1 76 x3.toNatClampNeg)
        refine sX3_join   (hI := hI) (tx1 := t3471) (tx2 := t3473) (tx3 := t3475)  (hp := fun r_6v1741 zr_6v1741 w_7v1742  tr_6v1741 hIw_7v1742  => ?_)
        refine ⟨fun c3476 => ?_, fun c3476 => ?_⟩
        · replace c3476 := c_neq tr_6v1741 lit_0 c3476
          unfold pX3_sideOf_88
          obtain ⟨z3477, t3478, f3479⟩ := t_add tx3 lit_1
          first | replace f3479 := f3479 (by omega) | clear f3479
          intro x3_1v1744 ex3_1v1744
          have tx3_1v1744 : Ti x3_1v1744 z3477 := by rw [ex3_1v1744]; exact t3478
          exact ih _ _ _ _ _ _ _ tx1 tx2 tx3_1v1744 hIw_7v1742 (by omega) (by omega) (by omega)
        · replace c3476 := c_eq tr_6v1741 lit_0 c3476
          exact hp _ _ _  lit_m2 hIw_7v1742 
set_option maxHeartbeats 4000000 in
set_option maxRecDepth 100000 in
theorem sX3_sideOf_14 {T D : Int} {k : Nat} {post : Int32 → Wd → Prop}   (hp : ∀ (r : Int32) (zr : Int) (w9 : Wd), Ti r zr → IX k T D w9 → post r w9) : ∀ (n : Nat) (x1 : Int32) (x2 : Int32) (x3 : Int32) (zx1 : Int) (zx2 : Int) (zx3 : Int) (w : Wd), Ti x1 zx1 → Ti x2 zx2 → Ti x3 zx3 → IX k T D w → (0 ≤ zx3 ∧ zx3 ≤ 8) → (0 ≤ zx1 ∧ zx1 ≤ 7) → (9 - zx3) < (n : Int) → pX3_sideOf_14   post  n x1 x2 x3 w := by
  intro n
  induction n with
  | zero =>
    intro x1 x2 x3 zx1 zx2 zx3 w tx1 tx2 tx3 hI h0 h1 hm
    exact absurd hm (by omega)
  | succ n ih =>
    intro x1 x2 x3 zx1 zx2 zx3 w tx1 tx2 tx3 hI h0 h1 hm
    unfold pX3_sideOf_14
    have hk := ix_k hI
    refine ⟨fun c3480 => ?_, fun c3480 => ?_⟩
    · replace c3480 := c_le lit_8 tx3 c3480
      exact ⟨70000, sX3_sideOf_42   (hp := hp) 70000 _ _ _ _ _ _ _ tx1 tx2 lit_0 hI (by omega) (by omega) (by omega)⟩
    · replace c3480 := c_nle lit_8 tx3 c3480
      refine ⟨vp_of tx3 (by omega) (by omega), ?_⟩
      intro w_2v1745 ew_2v1745
      have hIw_2v1745 := ixs_A hI ew_2v1745 (by decide)
      refine ⟨vp_of tx3 (by omega) (by omega), ?_⟩
      intro w_3v1746 ew_3v1746
      have hIw_3v1746 := ixs_A hIw_2v1745 ew_3v1746 (by decide)
      obtain ⟨z3481, t3482, f3483⟩ := t_add tx3 lit_1
      first | replace f3483 := f3483 (by omega) | clear f3483
      intro x3_4v1747 ex3_4v1747
      have tx3_4v1747 : Ti x3_4v1747 z3481 := by rw [ex3_4v1747]; exact t3482
      exact ih _ _ _ _ _ _ _ tx1 tx2 tx3_4v1747 hIw_3v1746 (by omega) (by omega) (by omega)
set_option maxHeartbeats 4000000 in
set_option maxRecDepth 100000 in
theorem sX3_sideOf {T D : Int} {k : Nat} {post : Int32 → Wd → Prop} {x1 : Int32} {zx1 : Int} {x2 : Int32} {zx2 : Int} {w : Wd}  (tx1 : Ti x1 zx1) (tx2 : Ti x2 zx2) (hI : IX k T D w)  (hp : ∀ (r : Int32) (zr : Int) (w9 : Wd), Ti r zr → IX k T D w9 → post r w9) : pX3_sideOf   post  x1 x2 w := by
  unfold pX3_sideOf
  have hk := ix_k hI
  refine ⟨fun c3484 => ?_, fun c3484 => ?_⟩
  · replace c3484 := c_lt tx1 lit_0 c3484
    exact hp _ _ _  lit_m1 hI 
  · replace c3484 := c_nlt tx1 lit_0 c3484
    refine ⟨fun c3485 => ?_, fun c3485 => ?_⟩
    · replace c3485 := c_lt tx1 lit_8 c3485
      exact ⟨70000, sX3_sideOf_14   (hp := hp) 70000 _ _ _ _ _ _ _ tx1 tx2 lit_0 hI (by omega) (by omega) (by omega)⟩
    · replace c3485 := c_nlt tx1 lit_8 c3485
      exact hp _ _ _  lit_m1 hI 
set_option maxHeartbeats 4000000 in
set_option maxRecDepth 100000 in
theorem sX10_backward {T D : Int} {k : Nat} {post : Int32 → Wd → Prop} {x1 : Int32} {zx1 : Int} {x2 : Int32} {zx2 : Int} {w : Wd}  (tx1 : Ti x1 zx1) (tx2 : Ti x2 zx2) (hI : IX k T D w)  (hp : ∀ (r : Int32) (zr : Int) (w9 : Wd), Ti r zr → IX k T D w9 → post r w9) : pX10_backward   post  x1 x2 w := by
  unfold pX10_backward
  have hk := ix_k hI
  refine sX10_isPaper   (hI := hI) (tx0 := tx1)  (hp := fun r_1v1748 zr_1v1748 tr_1v1748 p3486 => ?_)
  refine ⟨fun c3487 => ?_, fun c3487 => ?_⟩
  · replace c3487 := c_eq tr_1v1748 lit_0 c3487
    exact hp _ _ _  lit_m1 hI 
  · replace c3487 := c_neq tr_1v1748 lit_0 c3487
    refine sX3_sideOf   (hI := hI) (tx1 := tx1) (tx2 := tx2)  (hp := fun r_4v1752 zr_4v1752 w_5v1753  tr_4v1752 hIw_5v1753  => ?_)
    exact hp _ _ _  tr_4v1752 hIw_5v1753 
set_option maxHeartbeats 4000000 in
set_option maxRecDepth 100000 in
theorem sX10_lies {T D : Int} {k : Nat} {post : Int32 → Wd → Prop} {x1 : Int32} {zx1 : Int} {w : Wd}  (tx1 : Ti x1 zx1) (hI : IX k T D w)  (hp : ∀ (r : Int32) (zr : Int), Ti r zr → post r w) : pX10_lies   post  x1 w := by
  unfold pX10_lies
  have hk := ix_k hI
  refine ⟨fun c3488 => ?_, fun c3488 => ?_⟩
  · replace c3488 := c_lt tx1 lit_0 c3488
    exact hp _ _ lit_m2 
  · replace c3488 := c_nlt tx1 lit_0 c3488
    obtain ⟨z3489, t3490⟩ := t_any (w.1 110 1)
    have f3491 := ixg_110_1 hI t3490
    refine ⟨fun c3492 => ?_, fun c3492 => ?_⟩
    · replace c3492 := c_lt tx1 t3490 c3492
      refine ⟨vp_of tx1 (by omega) (by omega), ?_⟩
      obtain ⟨z3493, t3494⟩ := t_any (w.2.1 111 x1.toNatClampNeg)
      exact hp _ _ t3494 
    · replace c3492 := c_nlt tx1 t3490 c3492
      exact hp _ _ lit_m2 
theorem sX2_copyPrints {T D : Int} {k : Nat} {post : Wd → Prop} {c c1 : Nat} {w : Wd} (hI : IX k T D w) (hp : ∀ (w9 : Wd), IX k T D w9 → post w9) : pX2_copyPrints post (160 + 20 * c) (160 + 20 * c1) w := by
  unfold pX2_copyPrints
  obtain ⟨z, t⟩ := t_any (w.1 (160 + 20 * c1) 6)
  have b := Rg.g (hI.2.2.2.2.2.2.2.2.2.2.1 c1).2 t
  intro w_1 e1
  have i1 := ixs_c6 hI e1 t b.1 b.2
  intro w_2 e2
  have i2 := ixs_C i1 e2 (by omega)
  intro w_3 e3
  have i3 := ixs_C i2 e3 (by omega)
  intro w_4 e4
  exact hp _ (ixs_C i3 e4 (by omega))
theorem sX2_copySeals {T D : Int} {k : Nat} {post : Wd → Prop} {c c1 : Nat} {w : Wd} (hI : IX k T D w) (hp : ∀ (w9 : Wd), IX k T D w9 → post w9) : pX2_copySeals post (160 + 20 * c) (160 + 20 * c1) w := by
  unfold pX2_copySeals
  obtain ⟨z, t⟩ := t_any (w.1 (160 + 20 * c1) 0)
  have b := Rg.g (hI.2.2.2.2.2.2.2.2.2.2.1 c1).1 t
  intro w_1 e1
  have i1 := ixs_c0 hI e1 t b.1 b.2
  intro w_2 e2
  have i2 := ixs_C i1 e2 (by omega)
  intro w_3 e3
  have i3 := ixs_C i2 e3 (by omega)
  intro w_4 e4
  have i4 := ixs_C i3 e4 (by omega)
  intro w_5 e5
  have i5 := ixs_C i4 e5 (by omega)
  intro w_6 e6
  exact hp _ (ixs_C i5 e6 (by omega))
theorem sX2_copyFrom {T D : Int} {k : Nat} {post : Wd → Prop} {c c1 : Nat} {w : Wd} (hI : IX k T D w) (hp : ∀ (w9 : Wd), IX k T D w9 → post w9) : pX2_copyFrom post (160 + 20 * c) (160 + 20 * c1) w := by
  unfold pX2_copyFrom
  refine sX2_copySeals hI (fun w_1 i1 => ?_)
  refine sX2_copyPrints i1 (fun w_2 i2 => ?_)
  intro w_3 e3
  have i3 := ixs_n i2 e3 (by unfold nX; omega)
  intro w_4 e4
  have i4 := ixs_n i3 e4 (by unfold nX; omega)
  intro w_5 e5
  exact hp _ (ixs_n i4 e5 (by unfold nX; omega))
theorem i_cz {x : Int32} {z : Int} (t : Ti x z) : x.toNatClampNeg = z.toNat := by
  have t : x.toInt = z := t
  rw [← t]; rfl
theorem sX10_image {T D : Int} {k : Nat} {post : Int32 → Wd → Prop} {x1 : Int32} {zx1 : Int} {w : Wd} (tx1 : Ti x1 zx1) (hI : IX k T D w) (hp : ∀ (r : Int32) (zr : Int) (w9 : Wd), Ti r zr → IX k T D w9 → post r w9) : pX10_image post x1 w := by
  unfold pX10_image
  refine ⟨fun c => hp _ _ _ lit_m1 hI, fun c => ⟨fun c2 => ?_, fun c2 => hp _ _ _ lit_m1 hI⟩⟩
  replace c := c_nlt tx1 lit_0 c
  replace c2 := c_lt tx1 lit_3 c2
  have e0 := i_cz tx1
  have e : 180 + 20 * x1.toNatClampNeg = 160 + 20 * (x1.toNatClampNeg + 1) := by omega
  refine ⟨vp_of tx1 (by omega) (by omega), by unfold cOk; omega, ?_⟩
  rw [e]
  refine sX2_copyFrom (c := x1.toNatClampNeg + 1) (c1 := 0) hI (fun w_3 i3 => ?_)
  refine ⟨vp_of tx1 (by omega) (by omega), ?_⟩
  intro w_4 e4
  exact hp _ _ _ rfl (ixs_A i3 e4 (by decide))
theorem sX10_back {T D : Int} {k : Nat} {post : Int32 → Wd → Prop} {x1 : Int32} {zx1 : Int} {w : Wd} (tx1 : Ti x1 zx1) (hI : IX k T D w) (hp : ∀ (r : Int32) (zr : Int) (w9 : Wd) (D9 : Int), Ti r zr → IX k T D9 w9 → post r w9) : pX10_back post x1 w := by
  unfold pX10_back
  refine ⟨fun c => hp _ _ _ _ lit_m1 hI, fun c => ⟨fun c2 => hp _ _ _ _ lit_m1 hI, fun c2 => ?_⟩⟩
  replace c := c_nlt tx1 lit_0 c
  replace c2 := c_nle lit_3 tx1 c2
  have e0 := i_cz tx1
  have e : 180 + 20 * x1.toNatClampNeg = 160 + 20 * (x1.toNatClampNeg + 1) := by omega
  refine ⟨vp_of tx1 (by omega) (by omega), fun c3 => ?_, fun c3 => hp _ _ _ _ lit_m1 hI⟩
  refine ⟨vp_of tx1 (by omega) (by omega), by unfold cOk; omega, ?_⟩
  rw [e]
  refine sX2_copyFrom (c := 0) (c1 := x1.toNatClampNeg + 1) hI (fun w_4 i4 => ?_)
  exact sX0_forget (hI := i4) (hp := fun w_5 i5 => hp _ _ _ _ rfl i5)
set_option maxHeartbeats 4000000 in
set_option maxRecDepth 100000 in
theorem sX10_about {T D : Int} {k : Nat} {post : Int32 → Wd → Prop} {x1 : Int32} {zx1 : Int} {w : Wd}  (tx1 : Ti x1 zx1) (hI : IX k T D w)  (hp : ∀ (r : Int32) (zr : Int), Ti r zr → post r w) : pX10_about   post  x1 w := by
  unfold pX10_about
  have hk := ix_k hI
  refine ⟨fun c3495 => ?_, fun c3495 => ?_, fun c3495 => ?_, fun c3495 => ?_, fun c3495 => ?_, fun c3495 => ?_, fun c3495 => ?_, fun c3495 => ?_, fun c3495 => ?_, fun c3495 => ?_, fun c3495 => ?_, fun c3495 => ?_, fun c3495 => ?_, fun c3495 => ?_, fun c3495 => ?_⟩
  · rw [show x1.toInt = zx1 from tx1] at c3495
    exact hp _ _ lit_m1 
  · rw [show x1.toInt = zx1 from tx1] at c3495
    obtain ⟨z3496, t3497⟩ := t_any (w.1 (rl (w.2.2.2.2 0)) 2)
    have f3498 := ixg_r2 hI t3497
    exact hp _ _ t3497 
  · rw [show x1.toInt = zx1 from tx1] at c3495
    obtain ⟨z3499, t3500⟩ := t_any (w.1 (rl (w.2.2.2.2 0)) 0)
    have f3501 := ixg_r0 hI t3500
    exact hp _ _ t3500 
  · rw [show x1.toInt = zx1 from tx1] at c3495
    obtain ⟨z3502, t3503⟩ := t_any (w.1 160 0)
    have f3504 := ixg_c0 hI t3503
    exact hp _ _ t3503 
  · rw [show x1.toInt = zx1 from tx1] at c3495
    obtain ⟨z3505, t3506⟩ := t_any (w.1 160 6)
    have f3507 := ixg_c6 hI t3506
    exact hp _ _ t3506 
  · rw [show x1.toInt = zx1 from tx1] at c3495
    obtain ⟨z3508, t3509⟩ := t_any (w.1 160 11)
    exact hp _ _ t3509 
  · rw [show x1.toInt = zx1 from tx1] at c3495
    obtain ⟨z3510, t3511⟩ := t_any (w.1 160 12)
    exact hp _ _ t3511 
  · rw [show x1.toInt = zx1 from tx1] at c3495
    obtain ⟨z3512, t3513⟩ := t_any (w.1 160 13)
    exact hp _ _ t3513 
  · rw [show x1.toInt = zx1 from tx1] at c3495
    obtain ⟨z3514, t3515⟩ := t_any (w.1 50 7)
    have f3516 := ixg_50_7 hI t3515
    exact hp _ _ t3515 
  · rw [show x1.toInt = zx1 from tx1] at c3495
    obtain ⟨z3517, t3518⟩ := t_any (w.1 50 8)
    exact hp _ _ t3518 
  · rw [show x1.toInt = zx1 from tx1] at c3495
    obtain ⟨z3519, t3520⟩ := t_any (w.1 70 0)
    have f3521 := ixg_70_0 hI t3520
    exact hp _ _ t3520 
  · rw [show x1.toInt = zx1 from tx1] at c3495
    obtain ⟨z3522, t3523⟩ := t_any (w.1 70 1)
    have f3524 := ixg_70_1 hI t3523
    exact hp _ _ t3523 
  · rw [show x1.toInt = zx1 from tx1] at c3495
    obtain ⟨z3525, t3526⟩ := t_any (w.1 0 13)
    have f3527 := ixg_0_13 hI t3526
    exact hp _ _ t3526 
  · rw [show x1.toInt = zx1 from tx1] at c3495
    obtain ⟨z3528, t3529⟩ := t_any (w.1 (rl (w.2.2.2.2 0)) 5)
    exact hp _ _ t3529 
  · rw [show x1.toInt = zx1 from tx1] at c3495
    obtain ⟨z3530, t3531⟩ := t_any (w.1 110 1)
    have f3532 := ixg_110_1 hI t3531
    exact hp _ _ t3531 
