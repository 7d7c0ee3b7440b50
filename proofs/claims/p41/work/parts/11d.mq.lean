set_option maxHeartbeats 4000000 in
set_option maxRecDepth 100000 in
theorem sX11_made_25 {T W H P S M : Int} {post : Int32 → Wd → Prop} {w : Wd}  (hp : ∀ (r : Int32) (zr : Int), Ti r zr → post r w) : ∀ (n : Nat) (x1 : Int32) (x2 : Int32) (x3 : Int32) (x4 : Int32) (zx1 : Int) (zx2 : Int) (zx3 : Int) (zx4 : Int), Ti x1 zx1 → Ti x2 zx2 → Ti x3 zx3 → Ti x4 zx4 → IM T W H P S M w → (0 ≤ zx4 ∧ zx4 ≤ 24) → (25 - zx4) < (n : Int) → pX11_made_25   post  n x1 x2 x3 x4 w := by
  intro n
  induction n with
  | zero =>
    intro x1 x2 x3 x4 zx1 zx2 zx3 zx4  tx1 tx2 tx3 tx4 hI h0 hm
    exact absurd hm (by omega)
  | succ n ih =>
    intro x1 x2 x3 x4 zx1 zx2 zx3 zx4  tx1 tx2 tx3 tx4 hI h0 hm
    unfold pX11_made_25
    have hk := im_k hI
    obtain ⟨z485, t486⟩ := t_any (w.2.1 341 (216 : Int32).toNatClampNeg)
    have f487 := img_216 hI t486
    refine ⟨fun c488 => ?_, fun c488 => ?_⟩
    · replace c488 := c_le t486 tx4 c488
      exact hp _ _ tx3 
    · replace c488 := c_nle t486 tx4 c488
      refine sX11_rowOf   (hI := hI) (tx1 := tx4) (h0 := (by omega)) (hp := fun r_2v174 zr_2v174 tr_2v174 p489 => ?_)
      refine sX11_turnedRow   (hI := hI) (tx1 := tr_2v174)  (hp := fun r_4v181 zr_4v181 tr_4v181 => ?_)
      obtain ⟨z490, t491⟩ := t_any (x1 &&& r_4v181)
      refine ⟨fun c492 => ?_, fun c492 => ?_⟩
      · replace c492 := c_neq t491 tx1 c492
        unfold pX11_made_76
        obtain ⟨z493, t494, f495⟩ := t_add tx4 lit_1
        first | replace f495 := f495 (by omega) | clear f495
        intro x4_1v189 ex4_1v189
        have tx4_1v189 : Ti x4_1v189 z493 := by rw [ex4_1v189]; exact t494
        exact ih _ _ _ _ _ _ _ _  tx1 tx2 tx3 tx4_1v189 hI (by omega) (by omega)
      · replace c492 := c_eq t491 tx1 c492
        obtain ⟨z496, t497, f498⟩ := t_sub tr_4v181 tx1
        first | replace f498 := f498 (by omega) | clear f498
        refine sX11_bitsOf   (hI := hI) (tx0 := t497)  (hp := fun r_7v186 zr_7v186 tr_7v186 => ?_)
        refine ⟨fun c499 => ?_, fun c499 => ?_⟩
        · replace c499 := c_lt tx2 tr_7v186 c499
          unfold pX11_made_76
          obtain ⟨z500, t501, f502⟩ := t_add tx4 lit_1
          first | replace f502 := f502 (by omega) | clear f502
          intro x4_1v191 ex4_1v191
          have tx4_1v191 : Ti x4_1v191 z500 := by rw [ex4_1v191]; exact t501
          exact ih _ _ _ _ _ _ _ _  tx1 tx2 tx3 tx4_1v191 hI (by omega) (by omega)
        · replace c499 := c_nlt tx2 tr_7v186 c499
          obtain ⟨z503, t504, f505⟩ := t_shlW hI tx4
          first | replace f505 := f505 (by omega) | clear f505
          obtain ⟨z506, t507, f508⟩ := t_orW hI tx3 t504
          first | replace f508 := f508 (by omega) | clear f508
          intro x3_10v190 ex3_10v190
          have tx3_10v190 : Ti x3_10v190 z506 := by rw [ex3_10v190]; exact t507
          unfold pX11_made_76
          obtain ⟨z509, t510, f511⟩ := t_add tx4 lit_1
          first | replace f511 := f511 (by omega) | clear f511
          intro x4_1v192 ex4_1v192
          have tx4_1v192 : Ti x4_1v192 z509 := by rw [ex4_1v192]; exact t510
          exact ih _ _ _ _ _ _ _ _  tx1 tx2 tx3_10v190 tx4_1v192 hI (by omega) (by omega)
set_option maxHeartbeats 4000000 in
set_option maxRecDepth 100000 in
theorem sX11_made {T W H P S M : Int} {post : Int32 → Wd → Prop} {x1 : Int32} {zx1 : Int} {x2 : Int32} {zx2 : Int} {w : Wd}  (tx1 : Ti x1 zx1) (tx2 : Ti x2 zx2) (hI : IM T W H P S M w)  (hp : ∀ (r : Int32) (zr : Int), Ti r zr → post r w) : pX11_made   post  x1 x2 w := by
  unfold pX11_made
  have hk := im_k hI
  refine sX11_isRow   (hI := hI) (tx1 := tx1)  (hp := fun r_1v193 zr_1v193 tr_1v193 p512 => ?_)
  refine ⟨fun c513 => ?_, fun c513 => ?_⟩
  · replace c513 := c_eq tr_1v193 lit_0 c513
    exact hp _ _ lit_m1 
  · replace c513 := c_neq tr_1v193 lit_0 c513
    refine sX11_isIn   (hI := hI) (tx0 := tx2) (tx1 := lit_0) (tx2 := lit_12)  (hp := fun r_4v197 zr_4v197 tr_4v197 p514 p515 => ?_)
    refine ⟨fun c516 => ?_, fun c516 => ?_⟩
    · replace c516 := c_neq tr_4v197 lit_0 c516
      exact ⟨70000, sX11_made_25    (hp := hp) 70000 _ _ _ _ _ _ _ _  tx1 tx2 lit_0 lit_0 hI (by omega) (by omega)⟩
    · replace c516 := c_eq tr_4v197 lit_0 c516
      exact hp _ _ lit_m1 
set_option maxHeartbeats 4000000 in
set_option maxRecDepth 100000 in
theorem sX11_apart {T W H P S M : Int} {post : Int32 → Wd → Prop} {x1 : Int32} {zx1 : Int} {x2 : Int32} {zx2 : Int} {x3 : Int32} {zx3 : Int} {w : Wd}  (tx1 : Ti x1 zx1) (tx2 : Ti x2 zx2) (tx3 : Ti x3 zx3) (hI : IM T W H P S M w)  (hp : ∀ (r : Int32) (zr : Int), Ti r zr → post r w) : pX11_apart   post  x1 x2 x3 w := by
  unfold pX11_apart
  have hk := im_k hI
  refine sX11_isSeal   (hI := hI) (tx1 := tx1)  (hp := fun r_1v199 zr_1v199 tr_1v199 p517 => ?_)
  refine ⟨fun c518 => ?_, fun c518 => ?_⟩
  · replace c518 := c_eq tr_1v199 lit_0 c518
    exact hp _ _ lit_m1 
  · replace c518 := c_neq tr_1v199 lit_0 c518
    refine sX11_isSeal   (hI := hI) (tx1 := tx2)  (hp := fun r_4v215 zr_4v215 tr_4v215 p519 => ?_)
    refine ⟨fun c520 => ?_, fun c520 => ?_⟩
    · replace c520 := c_eq tr_4v215 lit_0 c520
      exact hp _ _ lit_m1 
    · replace c520 := c_neq tr_4v215 lit_0 c520
      refine sX11_rowOf   (hI := hI) (tx1 := tx1) (h0 := (by omega)) (hp := fun r_7v229 zr_7v229 tr_7v229 p521 => ?_)
      refine ⟨fun c522 => ?_, fun c522 => ?_⟩
      · replace c522 := c_eq tx3 lit_0 c522
        refine sX11_rowOf   (hI := hI) (tx1 := tx2) (h0 := (by omega)) (hp := fun r_10v241 zr_10v241 tr_10v241 p523 => ?_)
        obtain ⟨z524, t525⟩ := t_any (r_7v229 ^^^ r_10v241)
        refine sX11_bitsOf   (hI := hI) (tx0 := t525)  (hp := fun r_12v251 zr_12v251 tr_12v251 => ?_)
        exact hp _ _ tr_12v251 
      · replace c522 := c_neq tx3 lit_0 c522
        refine sX11_rowOf   (hI := hI) (tx1 := tx2) (h0 := (by omega)) (hp := fun r_14v245 zr_14v245 tr_14v245 p526 => ?_)
        refine sX11_turnedRow   (hI := hI) (tx1 := tr_14v245)  (hp := fun r_16v253 zr_16v253 tr_16v253 => ?_)
        obtain ⟨z527, t528⟩ := t_any (r_7v229 ^^^ r_16v253)
        refine sX11_bitsOf   (hI := hI) (tx0 := t528)  (hp := fun r_18v257 zr_18v257 tr_18v257 => ?_)
        exact hp _ _ tr_18v257 
set_option maxHeartbeats 4000000 in
set_option maxRecDepth 100000 in
theorem sX11_heats_32 {T W H P S M : Int} {post : Int32 → Wd → Prop}   (hp : ∀ (r : Int32) (zr : Int) (w9 : Wd), Ti r zr → IM T W H P S M w9 → post r w9) : ∀ (n : Nat) (x1 : Int32) (x2 : Int32) (x3 : Int32) (x4 : Int32) (x5 : Int32) (zx1 : Int) (zx2 : Int) (zx3 : Int) (zx4 : Int) (zx5 : Int) (w : Wd), Ti x1 zx1 → Ti x2 zx2 → Ti x3 zx3 → Ti x4 zx4 → Ti x5 zx5 → IM T W H P S M w → (0 ≤ zx5 ∧ zx5 ≤ 10) → (0 ≤ zx1 ∧ zx1 < S) → (0 ≤ zx2 ∧ zx2 < H) → (11 - zx5) < (n : Int) → pX11_heats_32   post  n x1 x2 x3 x4 x5 w := by
  intro n
  induction n with
  | zero =>
    intro x1 x2 x3 x4 x5 zx1 zx2 zx3 zx4 zx5 w tx1 tx2 tx3 tx4 tx5 hI h0 h1 h2 hm
    exact absurd hm (by omega)
  | succ n ih =>
    intro x1 x2 x3 x4 x5 zx1 zx2 zx3 zx4 zx5 w tx1 tx2 tx3 tx4 tx5 hI h0 h1 h2 hm
    unfold pX11_heats_32
    have hk := im_k hI
    refine ⟨fun c529 => ?_, fun c529 => ?_⟩
    · replace c529 := c_lt lit_9 tx5 c529
      exact hp _ _ _  tx4 hI 
    · replace c529 := c_nlt lit_9 tx5 c529
      refine sX11_rowOf   (hI := hI) (tx1 := tx1) (h0 := (by omega)) (hp := fun r_2v259 zr_2v259 tr_2v259 p530 => ?_)
      refine sX11_castOf   (hI := hI) (tx1 := tr_2v259) (tx2 := tx2) (tx3 := tx5) (tx4 := lit_0) (h0 := (by omega)) (hp := fun r_4v264 zr_4v264 w_5v265  tr_4v264 hIw_5v265 p531 => ?_)
      refine ⟨fun c532 => ?_, fun c532 => ?_⟩
      · replace c532 := c_neq tr_4v264 tx3 c532
        unfold pX11_heats_65
        obtain ⟨z533, t534, f535⟩ := t_add tx5 lit_1
        first | replace f535 := f535 (by omega) | clear f535
        intro x5_1v267 ex5_1v267
        have tx5_1v267 : Ti x5_1v267 z533 := by rw [ex5_1v267]; exact t534
        exact ih _ _ _ _ _ _ _ _ _ _ _ tx1 tx2 tx3 tx4 tx5_1v267 hIw_5v265 (by omega) (by omega) (by omega) (by omega)
      · replace c532 := c_eq tr_4v264 tx3 c532
        obtain ⟨z536, t537, f538⟩ := t_shlW hIw_5v265 tx5
        first | replace f538 := f538 (by omega) | clear f538
        obtain ⟨z539, t540, f541⟩ := t_orW hIw_5v265 tx4 t537
        first | replace f541 := f541 (by omega) | clear f541
        intro x4_7v266 ex4_7v266
        have tx4_7v266 : Ti x4_7v266 z539 := by rw [ex4_7v266]; exact t540
        unfold pX11_heats_65
        obtain ⟨z542, t543, f544⟩ := t_add tx5 lit_1
        first | replace f544 := f544 (by omega) | clear f544
        intro x5_1v268 ex5_1v268
        have tx5_1v268 : Ti x5_1v268 z542 := by rw [ex5_1v268]; exact t543
        exact ih _ _ _ _ _ _ _ _ _ _ _ tx1 tx2 tx3 tx4_7v266 tx5_1v268 hIw_5v265 (by omega) (by omega) (by omega) (by omega)
set_option maxHeartbeats 4000000 in
set_option maxRecDepth 100000 in
theorem sX11_heats {T W H P S M : Int} {post : Int32 → Wd → Prop} {x1 : Int32} {zx1 : Int} {x2 : Int32} {zx2 : Int} {x3 : Int32} {zx3 : Int} {w : Wd}  (tx1 : Ti x1 zx1) (tx2 : Ti x2 zx2) (tx3 : Ti x3 zx3) (hI : IM T W H P S M w)  (hp : ∀ (r : Int32) (zr : Int) (w9 : Wd), Ti r zr → IM T W H P S M w9 → post r w9) : pX11_heats   post  x1 x2 x3 w := by
  unfold pX11_heats
  have hk := im_k hI
  refine sX11_isSeal   (hI := hI) (tx1 := tx1)  (hp := fun r_1v269 zr_1v269 tr_1v269 p545 => ?_)
  refine ⟨fun c546 => ?_, fun c546 => ?_⟩
  · replace c546 := c_eq tr_1v269 lit_0 c546
    exact hp _ _ _  lit_m1 hI 
  · replace c546 := c_neq tr_1v269 lit_0 c546
    refine sX11_isHand   (hI := hI) (tx1 := tx2)  (hp := fun r_4v275 zr_4v275 tr_4v275 p547 => ?_)
    refine ⟨fun c548 => ?_, fun c548 => ?_⟩
    · replace c548 := c_eq tr_4v275 lit_0 c548
      exact hp _ _ _  lit_m1 hI 
    · replace c548 := c_neq tr_4v275 lit_0 c548
      refine sX11_isRow   (hI := hI) (tx1 := tx3)  (hp := fun r_7v279 zr_7v279 tr_7v279 p549 => ?_)
      refine ⟨fun c550 => ?_, fun c550 => ?_⟩
      · replace c550 := c_neq tr_7v279 lit_0 c550
        exact ⟨70000, sX11_heats_32    (hp := hp) 70000 _ _ _ _ _ _ _ _ _ _ _ tx1 tx2 tx3 lit_0 lit_0 hI (by omega) (by omega) (by omega) (by omega)⟩
      · replace c550 := c_eq tr_7v279 lit_0 c550
        exact hp _ _ _  lit_m1 hI 
set_option maxHeartbeats 4000000 in
set_option maxRecDepth 100000 in
theorem sX11_canCast {T W H P S M : Int} {post : Int32 → Wd → Prop} {x1 : Int32} {zx1 : Int} {x2 : Int32} {zx2 : Int} {x3 : Int32} {zx3 : Int} {w : Wd}  (tx1 : Ti x1 zx1) (tx2 : Ti x2 zx2) (tx3 : Ti x3 zx3) (hI : IM T W H P S M w)  (hp : ∀ (r : Int32) (zr : Int), Ti r zr → ((zr = 0 ∨ (0 ≤ zx1 ∧ zx1 < S ∧ 0 ≤ zx2 ∧ zx2 < H ∧ 0 ≤ zx3 ∧ zx3 ≤ 9))) → post r w) : pX11_canCast   post  x1 x2 x3 w := by
  unfold pX11_canCast
  have hk := im_k hI
  refine sX11_isSeal   (hI := hI) (tx1 := tx1)  (hp := fun r_1v281 zr_1v281 tr_1v281 p551 => ?_)
  refine ⟨fun c552 => ?_, fun c552 => ?_⟩
  · replace c552 := c_eq tr_1v281 lit_0 c552
    exact hp _ _ lit_0 (by omega)
  · replace c552 := c_neq tr_1v281 lit_0 c552
    refine sX11_isHand   (hI := hI) (tx1 := tx2)  (hp := fun r_4v287 zr_4v287 tr_4v287 p553 => ?_)
    refine ⟨fun c554 => ?_, fun c554 => ?_⟩
    · replace c554 := c_eq tr_4v287 lit_0 c554
      exact hp _ _ lit_0 (by omega)
    · replace c554 := c_neq tr_4v287 lit_0 c554
      refine sX11_isHeat   (hI := hI) (tx0 := tx3)  (hp := fun r_7v291 zr_7v291 tr_7v291 p555 => ?_)
      refine ⟨fun c556 => ?_, fun c556 => ?_⟩
      · replace c556 := c_eq tr_7v291 lit_0 c556
        exact hp _ _ lit_0 (by omega)
      · replace c556 := c_neq tr_7v291 lit_0 c556
        exact hp _ _ lit_1 (by omega)
set_option maxHeartbeats 4000000 in
set_option maxRecDepth 100000 in
theorem sX11_luckOf_6 {T W H P S M : Int} {post : Int32 → Wd → Prop}   (hp : ∀ (r : Int32) (zr : Int) (w9 : Wd), Ti r zr → IM T W H P S M w9 → post r w9) : ∀ (n : Nat) (x1 : Int32) (x2 : Int32) (x3 : Int32) (x4 : Int32) (x5 : Int32) (x6 : Int32) (zx1 : Int) (zx2 : Int) (zx3 : Int) (zx4 : Int) (zx5 : Int) (zx6 : Int) (w : Wd), Ti x1 zx1 → Ti x2 zx2 → Ti x3 zx3 → Ti x4 zx4 → Ti x5 zx5 → Ti x6 zx6 → IM T W H P S M w → (0 ≤ zx6 ∧ zx6 ≤ 100) → (0 ≤ zx1 ∧ zx1 < S) → (0 ≤ zx2 ∧ zx2 < H) → (101 - zx6) < (n : Int) → pX11_luckOf_6   post  n x1 x2 x3 x4 x5 x6 w := by
  intro n
  induction n with
  | zero =>
    intro x1 x2 x3 x4 x5 x6 zx1 zx2 zx3 zx4 zx5 zx6 w tx1 tx2 tx3 tx4 tx5 tx6 hI h0 h1 h2 hm
    exact absurd hm (by omega)
  | succ n ih =>
    intro x1 x2 x3 x4 x5 x6 zx1 zx2 zx3 zx4 zx5 zx6 w tx1 tx2 tx3 tx4 tx5 tx6 hI h0 h1 h2 hm
    unfold pX11_luckOf_6
    have hk := im_k hI
    refine ⟨fun c557 => ?_, fun c557 => ?_⟩
    · replace c557 := c_le lit_100 tx6 c557
      exact hp _ _ _  tx5 hI 
    · replace c557 := c_nle lit_100 tx6 c557
      refine sX11_rowOf   (hI := hI) (tx1 := tx1) (h0 := (by omega)) (hp := fun r_2v293 zr_2v293 tr_2v293 p558 => ?_)
      refine sX11_castOf   (hI := hI) (tx1 := tr_2v293) (tx2 := tx2) (tx3 := tx3) (tx4 := tx6) (h0 := (by omega)) (hp := fun r_4v297 zr_4v297 w_5v298  tr_4v297 hIw_5v298 p559 => ?_)
      refine ⟨fun c560 => ?_, fun c560 => ?_⟩
      · replace c560 := c_neq tr_4v297 tx4 c560
        unfold pX11_luckOf_38
        obtain ⟨z561, t562, f563⟩ := t_add tx5 lit_0
        first | replace f563 := f563 (by omega) | clear f563
        intro x5_1v299 ex5_1v299
        have tx5_1v299 : Ti x5_1v299 z561 := by rw [ex5_1v299]; exact t562
        obtain ⟨z564, t565, f566⟩ := t_add tx6 lit_1
        first | replace f566 := f566 (by omega) | clear f566
        intro x6_2v300 ex6_2v300
        have tx6_2v300 : Ti x6_2v300 z564 := by rw [ex6_2v300]; exact t565
        exact ih _ _ _ _ _ _ _ _ _ _ _ _ _ tx1 tx2 tx3 tx4 tx5_1v299 tx6_2v300 hIw_5v298 (by omega) (by omega) (by omega) (by omega)
      · replace c560 := c_eq tr_4v297 tx4 c560
        unfold pX11_luckOf_38
        obtain ⟨z567, t568, f569⟩ := t_add tx5 lit_1
        first | replace f569 := f569 (by omega) | clear f569
        intro x5_1v301 ex5_1v301
        have tx5_1v301 : Ti x5_1v301 z567 := by rw [ex5_1v301]; exact t568
        obtain ⟨z570, t571, f572⟩ := t_add tx6 lit_1
        first | replace f572 := f572 (by omega) | clear f572
        intro x6_2v302 ex6_2v302
        have tx6_2v302 : Ti x6_2v302 z570 := by rw [ex6_2v302]; exact t571
        exact ih _ _ _ _ _ _ _ _ _ _ _ _ _ tx1 tx2 tx3 tx4 tx5_1v301 tx6_2v302 hIw_5v298 (by omega) (by omega) (by omega) (by omega)
set_option maxHeartbeats 4000000 in
set_option maxRecDepth 100000 in
theorem sX11_luckOf {T W H P S M : Int} {post : Int32 → Wd → Prop} {x1 : Int32} {zx1 : Int} {x2 : Int32} {zx2 : Int} {x3 : Int32} {zx3 : Int} {x4 : Int32} {zx4 : Int} {w : Wd}  (tx1 : Ti x1 zx1) (tx2 : Ti x2 zx2) (tx3 : Ti x3 zx3) (tx4 : Ti x4 zx4) (hI : IM T W H P S M w) (h0 : 0 ≤ zx1 ∧ zx1 < S) (h1 : 0 ≤ zx2 ∧ zx2 < H) (hp : ∀ (r : Int32) (zr : Int) (w9 : Wd), Ti r zr → IM T W H P S M w9 → post r w9) : pX11_luckOf   post  x1 x2 x3 x4 w := by
  unfold pX11_luckOf
  have hk := im_k hI
  exact ⟨70000, sX11_luckOf_6    (hp := hp) 70000 _ _ _ _ _ _ _ _ _ _ _ _ _ tx1 tx2 tx3 tx4 lit_0 lit_0 hI (by omega) (by omega) (by omega) (by omega)⟩
set_option maxHeartbeats 4000000 in
set_option maxRecDepth 100000 in
theorem sX11_luck {T W H P S M : Int} {post : Int32 → Wd → Prop} {x1 : Int32} {zx1 : Int} {x2 : Int32} {zx2 : Int} {x3 : Int32} {zx3 : Int} {x4 : Int32} {zx4 : Int} {w : Wd}  (tx1 : Ti x1 zx1) (tx2 : Ti x2 zx2) (tx3 : Ti x3 zx3) (tx4 : Ti x4 zx4) (hI : IM T W H P S M w)  (hp : ∀ (r : Int32) (zr : Int) (w9 : Wd), Ti r zr → IM T W H P S M w9 → post r w9) : pX11_luck   post  x1 x2 x3 x4 w := by
  unfold pX11_luck
  have hk := im_k hI
  refine sX11_canCast   (hI := hI) (tx1 := tx1) (tx2 := tx2) (tx3 := tx3)  (hp := fun r_1v303 zr_1v303 tr_1v303 p573 => ?_)
  refine ⟨fun c574 => ?_, fun c574 => ?_⟩
  · replace c574 := c_eq tr_1v303 lit_0 c574
    exact hp _ _ _  lit_m1 hI 
  · replace c574 := c_neq tr_1v303 lit_0 c574
    refine sX11_isRow   (hI := hI) (tx1 := tx4)  (hp := fun r_4v309 zr_4v309 tr_4v309 p575 => ?_)
    refine ⟨fun c576 => ?_, fun c576 => ?_⟩
    · replace c576 := c_eq tr_4v309 lit_0 c576
      exact hp _ _ _  lit_m1 hI 
    · replace c576 := c_neq tr_4v309 lit_0 c576
      refine sX11_luckOf   (hI := hI) (tx1 := tx1) (tx2 := tx2) (tx3 := tx3) (tx4 := tx4) (h0 := (by omega)) (h1 := (by omega)) (hp := fun r_7v313 zr_7v313 w_8v314  tr_7v313 hIw_8v314  => ?_)
      exact hp _ _ _  tr_7v313 hIw_8v314 
set_option maxHeartbeats 4000000 in
set_option maxRecDepth 100000 in
theorem sX11_likely_80 {T W H P S M : Int} {k67 : Int32 → Int32 → Int32 → Int32 → Wd → Prop} {M67 : Int} {post : Int32 → Wd → Prop}  (hk67 : ∀ (x4 : Int32) (x5 : Int32) (x6 : Int32) (x7 : Int32) (zx4 : Int) (zx5 : Int) (zx6 : Int) (zx7 : Int) (w : Wd), Ti x4 zx4 → Ti x5 zx5 → Ti x6 zx6 → Ti x7 zx7 → IM T W H P S M w → (0 ≤ zx7 ∧ zx7 ≤ 100) → (101 - zx7) < M67 → k67 x4 x5 x6 x7 w) (hp : ∀ (r : Int32) (zr : Int) (w9 : Wd), Ti r zr → IM T W H P S M w9 → post r w9) : ∀ (n : Nat) (x4 : Int32) (x5 : Int32) (x6 : Int32) (x7 : Int32) (x8 : Int32) (x9 : Int32) (zx4 : Int) (zx5 : Int) (zx6 : Int) (zx7 : Int) (zx8 : Int) (zx9 : Int) (w : Wd), Ti x4 zx4 → Ti x5 zx5 → Ti x6 zx6 → Ti x7 zx7 → Ti x8 zx8 → Ti x9 zx9 → IM T W H P S M w → (0 ≤ zx9 ∧ zx9 ≤ 100) → (0 ≤ zx7 ∧ zx7 ≤ 99) → (0 ≤ zx7 ∧ zx7 ≤ 100) → ((101 - zx7) ≤ M67) → (101 - zx9) < (n : Int) → pX11_likely_80 k67  post  n x4 x5 x6 x7 x8 x9 w := by
  intro n
  induction n with
  | zero =>
    intro x4 x5 x6 x7 x8 x9 zx4 zx5 zx6 zx7 zx8 zx9 w tx4 tx5 tx6 tx7 tx8 tx9 hI h0 h1 h2 h3 hm
    exact absurd hm (by omega)
  | succ n ih =>
    intro x4 x5 x6 x7 x8 x9 zx4 zx5 zx6 zx7 zx8 zx9 w tx4 tx5 tx6 tx7 tx8 tx9 hI h0 h1 h2 h3 hm
    unfold pX11_likely_80
    have hk := im_k hI
    refine ⟨fun c577 => ?_, fun c577 => ?_⟩
    · replace c577 := c_le lit_100 tx9 c577
      refine ⟨fun c578 => ?_, fun c578 => ?_⟩
      · replace c578 := c_lt tx8 tx6 c578
        unfold pX11_likely_162
        obtain ⟨z579, t580, f581⟩ := t_add tx7 lit_1
        first | replace f581 := f581 (by omega) | clear f581
        intro x7_1v315 ex7_1v315
        have tx7_1v315 : Ti x7_1v315 z579 := by rw [ex7_1v315]; exact t580
        exact hk67 _ _ _ _ _ _ _ _ _ tx4 tx5 tx6 tx7_1v315 hI (by omega) (by omega)
      · replace c578 := c_nlt tx8 tx6 c578
        refine ⟨fun c582 => ?_, fun c582 => ?_⟩
        · replace c582 := c_neq tx8 tx6 c582
          unfold pX11_likely_149
          refine ⟨vp_of tx7 (by omega) (by omega), ?_⟩
          obtain ⟨z583, t584⟩ := t_any (w.2.1 345 x7.toNatClampNeg)
          intro x5_1v316 ex5_1v316
          have tx5_1v316 : Ti x5_1v316 z583 := by rw [ex5_1v316]; exact t584
          unfold pX11_likely_162
          obtain ⟨z586, t587, f588⟩ := t_add tx7 lit_1
          first | replace f588 := f588 (by omega) | clear f588
          intro x7_1v317 ex7_1v317
          have tx7_1v317 : Ti x7_1v317 z586 := by rw [ex7_1v317]; exact t587
          exact hk67 _ _ _ _ _ _ _ _ _ tx4 tx5_1v316 tx8 tx7_1v317 hI (by omega) (by omega)
        · replace c582 := c_eq tx8 tx6 c582
          refine ⟨vp_of tx7 (by omega) (by omega), ?_⟩
          obtain ⟨z589, t590⟩ := t_any (w.2.1 345 x7.toNatClampNeg)
          refine ⟨fun c592 => ?_, fun c592 => ?_⟩
          · replace c592 := c_lt t590 tx5 c592
            unfold pX11_likely_149
            refine ⟨vp_of tx7 (by omega) (by omega), ?_⟩
            intro x5_1v318 ex5_1v318
            have tx5_1v318 : Ti x5_1v318 z589 := by rw [ex5_1v318]; exact t590
            unfold pX11_likely_162
            obtain ⟨z593, t594, f595⟩ := t_add tx7 lit_1
            first | replace f595 := f595 (by omega) | clear f595
            intro x7_1v319 ex7_1v319
            have tx7_1v319 : Ti x7_1v319 z593 := by rw [ex7_1v319]; exact t594
            exact hk67 _ _ _ _ _ _ _ _ _ tx4 tx5_1v318 tx8 tx7_1v319 hI (by omega) (by omega)
          · replace c592 := c_nlt t590 tx5 c592
            unfold pX11_likely_162
            obtain ⟨z596, t597, f598⟩ := t_add tx7 lit_1
            first | replace f598 := f598 (by omega) | clear f598
            intro x7_1v320 ex7_1v320
            have tx7_1v320 : Ti x7_1v320 z596 := by rw [ex7_1v320]; exact t597
            exact hk67 _ _ _ _ _ _ _ _ _ tx4 tx5 tx6 tx7_1v320 hI (by omega) (by omega)
    · replace c577 := c_nle lit_100 tx9 c577
      refine ⟨vp_of tx9 (by omega) (by omega), ?_⟩
      refine ⟨vp_of tx7 (by omega) (by omega), ?_⟩
      obtain ⟨z599, t600⟩ := t_any (w.2.1 345 x9.toNatClampNeg)
      obtain ⟨z602, t603⟩ := t_any (w.2.1 345 x7.toNatClampNeg)
      refine ⟨fun c605 => ?_, fun c605 => ?_⟩
      · replace c605 := c_neq t600 t603 c605
        unfold pX11_likely_111
        obtain ⟨z606, t607, f608⟩ := t_add tx8 lit_0
        first | replace f608 := f608 (by omega) | clear f608
        intro x8_1v321 ex8_1v321
        have tx8_1v321 : Ti x8_1v321 z606 := by rw [ex8_1v321]; exact t607
        obtain ⟨z609, t610, f611⟩ := t_add tx9 lit_1
        first | replace f611 := f611 (by omega) | clear f611
        intro x9_2v322 ex9_2v322
        have tx9_2v322 : Ti x9_2v322 z609 := by rw [ex9_2v322]; exact t610
        exact ih _ _ _ _ _ _ _ _ _ _ _ _ _ tx4 tx5 tx6 tx7 tx8_1v321 tx9_2v322 hI (by omega) (by omega) (by omega) (by omega) (by omega)
      · replace c605 := c_eq t600 t603 c605
        unfold pX11_likely_111
        obtain ⟨z612, t613, f614⟩ := t_add tx8 lit_1
        first | replace f614 := f614 (by omega) | clear f614
        intro x8_1v323 ex8_1v323
        have tx8_1v323 : Ti x8_1v323 z612 := by rw [ex8_1v323]; exact t613
        obtain ⟨z615, t616, f617⟩ := t_add tx9 lit_1
        first | replace f617 := f617 (by omega) | clear f617
        intro x9_2v324 ex9_2v324
        have tx9_2v324 : Ti x9_2v324 z615 := by rw [ex9_2v324]; exact t616
        exact ih _ _ _ _ _ _ _ _ _ _ _ _ _ tx4 tx5 tx6 tx7 tx8_1v323 tx9_2v324 hI (by omega) (by omega) (by omega) (by omega) (by omega)
set_option maxHeartbeats 4000000 in
set_option maxRecDepth 100000 in
theorem sX11_likely_67 {T W H P S M : Int} {post : Int32 → Wd → Prop}   (hp : ∀ (r : Int32) (zr : Int) (w9 : Wd), Ti r zr → IM T W H P S M w9 → post r w9) : ∀ (n : Nat) (x4 : Int32) (x5 : Int32) (x6 : Int32) (x7 : Int32) (zx4 : Int) (zx5 : Int) (zx6 : Int) (zx7 : Int) (w : Wd), Ti x4 zx4 → Ti x5 zx5 → Ti x6 zx6 → Ti x7 zx7 → IM T W H P S M w → (0 ≤ zx7 ∧ zx7 ≤ 100) → (101 - zx7) < (n : Int) → pX11_likely_67   post  n x4 x5 x6 x7 w := by
  intro n
  induction n with
  | zero =>
    intro x4 x5 x6 x7 zx4 zx5 zx6 zx7 w tx4 tx5 tx6 tx7 hI h0 hm
    exact absurd hm (by omega)
  | succ n ih =>
    intro x4 x5 x6 x7 zx4 zx5 zx6 zx7 w tx4 tx5 tx6 tx7 hI h0 hm
    unfold pX11_likely_67
    have hk := im_k hI
    refine ⟨fun c618 => ?_, fun c618 => ?_⟩
    · replace c618 := c_le lit_100 tx7 c618
      refine ⟨fun c619 => ?_, fun c619 => ?_⟩
      · replace c619 := c_neq tx4 lit_0 c619
        exact hp _ _ _  tx6 hI 
      · replace c619 := c_eq tx4 lit_0 c619
        exact hp _ _ _  tx5 hI 
    · replace c618 := c_nle lit_100 tx7 c618
      exact ⟨70000, sX11_likely_80  (M67 := (n : Int)) (hk67 := ih)  (hp := hp) 70000 _ _ _ _ _ _ _ _ _ _ _ _ _ tx4 tx5 tx6 tx7 lit_0 lit_0 hI (by omega) (by omega) (by omega) (by omega) (by omega)⟩
set_option maxHeartbeats 4000000 in
set_option maxRecDepth 100000 in
theorem sX11_likely_25 {T W H P S M : Int} {post : Int32 → Wd → Prop}   (hp : ∀ (r : Int32) (zr : Int) (w9 : Wd), Ti r zr → IM T W H P S M w9 → post r w9) : ∀ (n : Nat) (x1 : Int32) (x2 : Int32) (x3 : Int32) (x4 : Int32) (x5 : Int32) (zx1 : Int) (zx2 : Int) (zx3 : Int) (zx4 : Int) (zx5 : Int) (w : Wd), Ti x1 zx1 → Ti x2 zx2 → Ti x3 zx3 → Ti x4 zx4 → Ti x5 zx5 → IM T W H P S M w → (0 ≤ zx5 ∧ zx5 ≤ 100) → (0 ≤ zx1 ∧ zx1 < S) → (0 ≤ zx2 ∧ zx2 < H) → (101 - zx5) < (n : Int) → pX11_likely_25   post  n x1 x2 x3 x4 x5 w := by
  intro n
  induction n with
  | zero =>
    intro x1 x2 x3 x4 x5 zx1 zx2 zx3 zx4 zx5 w tx1 tx2 tx3 tx4 tx5 hI h0 h1 h2 hm
    exact absurd hm (by omega)
  | succ n ih =>
    intro x1 x2 x3 x4 x5 zx1 zx2 zx3 zx4 zx5 w tx1 tx2 tx3 tx4 tx5 hI h0 h1 h2 hm
    unfold pX11_likely_25
    have hk := im_k hI
    refine ⟨fun c620 => ?_, fun c620 => ?_⟩
    · replace c620 := c_le lit_100 tx5 c620
      exact ⟨70000, sX11_likely_67    (hp := hp) 70000 _ _ _ _ _ _ _ _ _ tx4 lit_m1 lit_0 lit_0 hI (by omega) (by omega)⟩
    · replace c620 := c_nle lit_100 tx5 c620
      refine sX11_rowOf   (hI := hI) (tx1 := tx1) (h0 := (by omega)) (hp := fun r_2v325 zr_2v325 tr_2v325 p621 => ?_)
      refine sX11_castOf   (hI := hI) (tx1 := tr_2v325) (tx2 := tx2) (tx3 := tx3) (tx4 := tx5) (h0 := (by omega)) (hp := fun r_4v331 zr_4v331 w_5v332  tr_4v331 hIw_5v332 p622 => ?_)
      refine ⟨vp_of tx5 (by omega) (by omega), ?_⟩
      intro w_6v333 ew_6v333
      have hIw_6v333 := ims_A hIw_5v332 ew_6v333 (by decide)
      obtain ⟨z623, t624, f625⟩ := t_add tx5 lit_1
      first | replace f625 := f625 (by omega) | clear f625
      intro x5_7v334 ex5_7v334
      have tx5_7v334 : Ti x5_7v334 z623 := by rw [ex5_7v334]; exact t624
      exact ih _ _ _ _ _ _ _ _ _ _ _ tx1 tx2 tx3 tx4 tx5_7v334 hIw_6v333 (by omega) (by omega) (by omega) (by omega)
set_option maxHeartbeats 4000000 in
set_option maxRecDepth 100000 in
theorem sX11_likely {T W H P S M : Int} {post : Int32 → Wd → Prop} {x1 : Int32} {zx1 : Int} {x2 : Int32} {zx2 : Int} {x3 : Int32} {zx3 : Int} {x4 : Int32} {zx4 : Int} {w : Wd}  (tx1 : Ti x1 zx1) (tx2 : Ti x2 zx2) (tx3 : Ti x3 zx3) (tx4 : Ti x4 zx4) (hI : IM T W H P S M w)  (hp : ∀ (r : Int32) (zr : Int) (w9 : Wd), Ti r zr → IM T W H P S M w9 → post r w9) : pX11_likely   post  x1 x2 x3 x4 w := by
  unfold pX11_likely
  have hk := im_k hI
  refine sX11_canCast   (hI := hI) (tx1 := tx1) (tx2 := tx2) (tx3 := tx3)  (hp := fun r_1v335 zr_1v335 tr_1v335 p626 => ?_)
  refine ⟨fun c627 => ?_, fun c627 => ?_⟩
  · replace c627 := c_eq tr_1v335 lit_0 c627
    exact hp _ _ _  lit_m1 hI 
  · replace c627 := c_neq tr_1v335 lit_0 c627
    refine sX11_isIn   (hI := hI) (tx0 := tx4) (tx1 := lit_0) (tx2 := lit_1)  (hp := fun r_4v339 zr_4v339 tr_4v339 p628 p629 => ?_)
    refine ⟨fun c630 => ?_, fun c630 => ?_⟩
    · replace c630 := c_neq tr_4v339 lit_0 c630
      exact ⟨70000, sX11_likely_25    (hp := hp) 70000 _ _ _ _ _ _ _ _ _ _ _ tx1 tx2 tx3 tx4 lit_0 hI (by omega) (by omega) (by omega) (by omega)⟩
    · replace c630 := c_eq tr_4v339 lit_0 c630
      exact hp _ _ _  lit_m1 hI 
set_option maxHeartbeats 4000000 in
set_option maxRecDepth 100000 in
theorem sX11_fades_22 {T W H P S M : Int} {post : Int32 → Wd → Prop}   (hp : ∀ (r : Int32) (zr : Int) (w9 : Wd), Ti r zr → IM T W H P S M w9 → post r w9) : ∀ (n : Nat) (x2 : Int32) (x3 : Int32) (x4 : Int32) (x5 : Int32) (zx2 : Int) (zx3 : Int) (zx4 : Int) (zx5 : Int) (w : Wd), Ti x2 zx2 → Ti x3 zx3 → Ti x4 zx4 → Ti x5 zx5 → IM T W H P S M w → (0 ≤ zx5 ∧ zx5 ≤ 4097) → (0 ≤ zx2 ∧ zx2 < H) → (4098 - zx5) < (n : Int) → pX11_fades_22   post  n x2 x3 x4 x5 w := by
  intro n
  induction n with
  | zero =>
    intro x2 x3 x4 x5 zx2 zx3 zx4 zx5 w tx2 tx3 tx4 tx5 hI h0 h1 hm
    exact absurd hm (by omega)
  | succ n ih =>
    intro x2 x3 x4 x5 zx2 zx3 zx4 zx5 w tx2 tx3 tx4 tx5 hI h0 h1 hm
    unfold pX11_fades_22
    have hk := im_k hI
    refine ⟨fun c631 => ?_, fun c631 => ?_⟩
    · replace c631 := c_lt lit_4096 tx5 c631
      exact hp _ _ _  lit_m1 hI 
    · replace c631 := c_nlt lit_4096 tx5 c631
      refine ⟨fun c632 => ?_, fun c632 => ?_⟩
      · replace c632 := c_neq tx4 lit_0 c632
        refine sX11_castOf   (hI := hI) (tx1 := tx4) (tx2 := tx2) (tx3 := tx3) (tx4 := lit_0) (h0 := (by omega)) (hp := fun r_3v341 zr_3v341 w_4v342  tr_3v341 hIw_4v342 p633 => ?_)
        obtain ⟨z634, t635, f636⟩ := t_add tx5 lit_1
        first | replace f636 := f636 (by omega) | clear f636
        intro x5_5v343 ex5_5v343
        have tx5_5v343 : Ti x5_5v343 z634 := by rw [ex5_5v343]; exact t635
        exact ih _ _ _ _ _ _ _ _ _ tx2 tx3 tr_3v341 tx5_5v343 hIw_4v342 (by omega) (by omega) (by omega)
      · replace c632 := c_eq tx4 lit_0 c632
        exact hp _ _ _  tx5 hI 
set_option maxHeartbeats 4000000 in
set_option maxRecDepth 100000 in
theorem sX11_fades {T W H P S M : Int} {post : Int32 → Wd → Prop} {x1 : Int32} {zx1 : Int} {x2 : Int32} {zx2 : Int} {x3 : Int32} {zx3 : Int} {w : Wd}  (tx1 : Ti x1 zx1) (tx2 : Ti x2 zx2) (tx3 : Ti x3 zx3) (hI : IM T W H P S M w)  (hp : ∀ (r : Int32) (zr : Int) (w9 : Wd), Ti r zr → IM T W H P S M w9 → post r w9) : pX11_fades   post  x1 x2 x3 w := by
  unfold pX11_fades
  have hk := im_k hI
  refine sX11_canCast   (hI := hI) (tx1 := tx1) (tx2 := tx2) (tx3 := tx3)  (hp := fun r_1v344 zr_1v344 tr_1v344 p637 => ?_)
  refine ⟨fun c638 => ?_, fun c638 => ?_⟩
  · replace c638 := c_neq tr_1v344 lit_0 c638
    refine sX11_rowOf   (hI := hI) (tx1 := tx1) (h0 := (by omega)) (hp := fun r_4v348 zr_4v348 tr_4v348 p639 => ?_)
    exact ⟨70000, sX11_fades_22    (hp := hp) 70000 _ _ _ _ _ _ _ _ _ tx2 tx3 tr_4v348 lit_0 hI (by omega) (by omega) (by omega)⟩
  · replace c638 := c_eq tr_1v344 lit_0 c638
    exact hp _ _ _  lit_m1 hI 
set_option maxHeartbeats 4000000 in
set_option maxRecDepth 100000 in
theorem sX11_kinOf_5 {T W H P S M : Int} {post : Int32 → Wd → Prop} {w : Wd}  (hp : ∀ (r : Int32) (zr : Int), Ti r zr → (0 ≤ zr ∧ zr < S) → post r w) : ∀ (n : Nat) (x3 : Int32) (x4 : Int32) (zx3 : Int) (zx4 : Int), Ti x3 zx3 → Ti x4 zx4 → IM T W H P S M w → (0 ≤ zx3 ∧ zx3 < S) → (0 ≤ zx4 ∧ zx4 < S) → (zx3 + zx4 + 1) < (n : Int) → pX11_kinOf_5   post  n x3 x4 w := by
  intro n
  induction n with
  | zero =>
    intro x3 x4 zx3 zx4  tx3 tx4 hI h0 h1 hm
    exact absurd hm (by omega)
  | succ n ih =>
    intro x3 x4 zx3 zx4  tx3 tx4 hI h0 h1 hm
    unfold pX11_kinOf_5
    have hk := im_k hI
    refine ⟨fun c640 => ?_, fun c640 => ?_⟩
    · replace c640 := c_eq tx3 tx4 c640
      exact hp _ _ tx3 (by omega)
    · replace c640 := c_neq tx3 tx4 c640
      refine ⟨fun c641 => ?_, fun c641 => ?_⟩
      · replace c641 := c_le tx3 tx4 c641
        obtain ⟨z642, t643, f644⟩ := t_mul lit_4 tx4
        first | replace f644 := f644 (by omega) | clear f644
        obtain ⟨z645, t646, f647⟩ := t_add t643 lit_1
        first | replace f647 := f647 (by omega) | clear f647
        refine ⟨vp_of t646 (by omega) (by omega), ?_⟩
        obtain ⟨z648, t649⟩ := t_any (w.2.1 341 (((4 : Int32) * x4) + (1 : Int32)).toNatClampNeg)
        have f650 := img_par (x := zx4) hI t646 t649
        first | replace f650 := f650 (by omega) | clear f650
        intro x4_3v350 ex4_3v350
        have tx4_3v350 : Ti x4_3v350 z648 := by rw [ex4_3v350]; exact t649
        exact ih _ _ _ _  tx3 tx4_3v350 hI (by omega) (by omega) (by omega)
      · replace c641 := c_nle tx3 tx4 c641
        obtain ⟨z651, t652, f653⟩ := t_mul lit_4 tx3
        first | replace f653 := f653 (by omega) | clear f653
        obtain ⟨z654, t655, f656⟩ := t_add t652 lit_1
        first | replace f656 := f656 (by omega) | clear f656
        refine ⟨vp_of t655 (by omega) (by omega), ?_⟩
        obtain ⟨z657, t658⟩ := t_any (w.2.1 341 (((4 : Int32) * x3) + (1 : Int32)).toNatClampNeg)
        have f659 := img_par (x := zx3) hI t655 t658
        first | replace f659 := f659 (by omega) | clear f659
        intro x3_4v351 ex3_4v351
        have tx3_4v351 : Ti x3_4v351 z657 := by rw [ex3_4v351]; exact t658
        exact ih _ _ _ _  tx3_4v351 tx4 hI (by omega) (by omega) (by omega)
set_option maxHeartbeats 4000000 in
set_option maxRecDepth 100000 in
theorem sX11_kinOf {T W H P S M : Int} {post : Int32 → Wd → Prop} {x1 : Int32} {zx1 : Int} {x2 : Int32} {zx2 : Int} {w : Wd}  (tx1 : Ti x1 zx1) (tx2 : Ti x2 zx2) (hI : IM T W H P S M w) (h0 : 0 ≤ zx1 ∧ zx1 < S) (h1 : 0 ≤ zx2 ∧ zx2 < S) (hp : ∀ (r : Int32) (zr : Int), Ti r zr → (0 ≤ zr ∧ zr < S) → post r w) : pX11_kinOf   post  x1 x2 w := by
  unfold pX11_kinOf
  have hk := im_k hI
  exact ⟨70000, sX11_kinOf_5    (hp := hp) 70000 _ _ _ _  tx1 tx2 hI (by omega) (by omega) (by omega)⟩
set_option maxHeartbeats 4000000 in
set_option maxRecDepth 100000 in
theorem sX11_kin {T W H P S M : Int} {post : Int32 → Wd → Prop} {x1 : Int32} {zx1 : Int} {x2 : Int32} {zx2 : Int} {x3 : Int32} {zx3 : Int} {w : Wd}  (tx1 : Ti x1 zx1) (tx2 : Ti x2 zx2) (tx3 : Ti x3 zx3) (hI : IM T W H P S M w)  (hp : ∀ (r : Int32) (zr : Int), Ti r zr → post r w) : pX11_kin   post  x1 x2 x3 w := by
  unfold pX11_kin
  have hk := im_k hI
  refine sX11_isSeal   (hI := hI) (tx1 := tx1)  (hp := fun r_1v352 zr_1v352 tr_1v352 p660 => ?_)
  refine ⟨fun c661 => ?_, fun c661 => ?_⟩
  · replace c661 := c_eq tr_1v352 lit_0 c661
    exact hp _ _ lit_m1 
  · replace c661 := c_neq tr_1v352 lit_0 c661
    refine sX11_isSeal   (hI := hI) (tx1 := tx2)  (hp := fun r_4v366 zr_4v366 tr_4v366 p662 => ?_)
    refine ⟨fun c663 => ?_, fun c663 => ?_⟩
    · replace c663 := c_eq tr_4v366 lit_0 c663
      exact hp _ _ lit_m1 
    · replace c663 := c_neq tr_4v366 lit_0 c663
      refine sX11_isIn   (hI := hI) (tx0 := tx3) (tx1 := lit_0) (tx2 := lit_1)  (hp := fun r_7v378 zr_7v378 tr_7v378 p664 p665 => ?_)
      refine ⟨fun c666 => ?_, fun c666 => ?_⟩
      · replace c666 := c_neq tr_7v378 lit_0 c666
        refine sX11_kinOf   (hI := hI) (tx1 := tx1) (tx2 := tx2) (h0 := (by omega)) (h1 := (by omega)) (hp := fun r_10v388 zr_10v388 tr_10v388 p667 => ?_)
        refine ⟨fun c668 => ?_, fun c668 => ?_⟩
        · replace c668 := c_neq tx3 lit_0 c668
          refine sX11_deep   (hI := hI) (tx1 := tx1) (h0 := (by omega)) (hp := fun r_13v396 zr_13v396 tr_13v396 => ?_)
          refine sX11_deep   (hI := hI) (tx1 := tx2) (h0 := (by omega)) (hp := fun r_15v402 zr_15v402 tr_15v402 => ?_)
          refine sX11_deep   (hI := hI) (tx1 := tr_10v388) (h0 := (by omega)) (hp := fun r_17v406 zr_17v406 tr_17v406 => ?_)
          obtain ⟨z669, t670, f671⟩ := t_add tr_13v396 tr_15v402
          first | replace f671 := f671 (by omega) | clear f671
          obtain ⟨z672, t673, f674⟩ := t_mul lit_2 tr_17v406
          first | replace f674 := f674 (by omega) | clear f674
          obtain ⟨z675, t676, f677⟩ := t_sub t670 t673
          first | replace f677 := f677 (by omega) | clear f677
          exact hp _ _ t676 
        · replace c668 := c_eq tx3 lit_0 c668
          exact hp _ _ tr_10v388 
      · replace c666 := c_eq tr_7v378 lit_0 c666
        exact hp _ _ lit_m1 
set_option maxHeartbeats 4000000 in
set_option maxRecDepth 100000 in
theorem sX11_thumb_42 {T W H P S M : Int} {post : Int32 → Wd → Prop} {w : Wd}  (hp : ∀ (r : Int32) (zr : Int), Ti r zr → post r w) : ∀ (n : Nat) (x3 : Int32) (x4 : Int32) (zx3 : Int) (zx4 : Int), Ti x3 zx3 → Ti x4 zx4 → IM T W H P S M w → (0 ≤ zx3 ∧ zx3 < S) → (zx3 + 1) < (n : Int) → pX11_thumb_42   post  n x3 x4 w := by
  intro n
  induction n with
  | zero =>
    intro x3 x4 zx3 zx4  tx3 tx4 hI h0 hm
    exact absurd hm (by omega)
  | succ n ih =>
    intro x3 x4 zx3 zx4  tx3 tx4 hI h0 hm
    unfold pX11_thumb_42
    have hk := im_k hI
    refine ⟨fun c678 => ?_, fun c678 => ?_⟩
    · replace c678 := c_le tx3 lit_0 c678
      exact hp _ _ lit_m1 
    · replace c678 := c_nle tx3 lit_0 c678
      obtain ⟨z679, t680, f681⟩ := t_mul lit_4 tx3
      first | replace f681 := f681 (by omega) | clear f681
      obtain ⟨z682, t683, f684⟩ := t_add t680 lit_1
      first | replace f684 := f684 (by omega) | clear f684
      refine ⟨vp_of t683 (by omega) (by omega), ?_⟩
      obtain ⟨z685, t686⟩ := t_any (w.2.1 341 (((4 : Int32) * x3) + (1 : Int32)).toNatClampNeg)
      have f687 := img_par (x := zx3) hI t683 t686
      first | replace f687 := f687 (by omega) | clear f687
      intro x5_2v408 ex5_2v408
      have tx5_2v408 : Ti x5_2v408 z685 := by rw [ex5_2v408]; exact t686
      refine sX11_width   (hI := hI)   (hp := fun r_3v409 zr_3v409 tr_3v409 p688 => ?_)
      obtain ⟨z689, t690, f691⟩ := t_sub tr_3v409 lit_1
      first | replace f691 := f691 (by omega) | clear f691
      obtain ⟨z692, t693, f694⟩ := t_sub t690 tx4
      first | replace f694 := f694 (by omega) | clear f694
      intro x4_5v414 ex4_5v414
      have tx4_5v414 : Ti x4_5v414 z692 := by rw [ex4_5v414]; exact t693
      refine sX11_rowOf   (hI := hI) (tx1 := tx5_2v408) (h0 := (by omega)) (hp := fun r_6v415 zr_6v415 tr_6v415 p695 => ?_)
      obtain ⟨z696, t697, f698⟩ := t_and (x := (r_6v415 >>> (x4_5v414 &&& 31))) lit_1 (by decide)
      refine ⟨fun c699 => ?_, fun c699 => ?_⟩
      · replace c699 := c_neq t697 lit_0 c699
        exact ih _ _ _ _  tx5_2v408 tx4_5v414 hI (by omega) (by omega)
      · replace c699 := c_eq t697 lit_0 c699
        obtain ⟨z700, t701, f702⟩ := t_add t680 lit_2
        first | replace f702 := f702 (by omega) | clear f702
        refine ⟨vp_of t701 (by omega) (by omega), ?_⟩
        obtain ⟨z703, t704⟩ := t_any (w.2.1 341 (((4 : Int32) * x3) + (2 : Int32)).toNatClampNeg)
        exact hp _ _ t704 
set_option maxHeartbeats 4000000 in
set_option maxRecDepth 100000 in
theorem sX11_thumb {T W H P S M : Int} {post : Int32 → Wd → Prop} {x1 : Int32} {zx1 : Int} {x2 : Int32} {zx2 : Int} {w : Wd}  (tx1 : Ti x1 zx1) (tx2 : Ti x2 zx2) (hI : IM T W H P S M w)  (hp : ∀ (r : Int32) (zr : Int), Ti r zr → post r w) : pX11_thumb   post  x1 x2 w := by
  unfold pX11_thumb
  have hk := im_k hI
  refine sX11_isSeal   (hI := hI) (tx1 := tx1)  (hp := fun r_1v417 zr_1v417 tr_1v417 p706 => ?_)
  refine ⟨fun c707 => ?_, fun c707 => ?_⟩
  · replace c707 := c_eq tr_1v417 lit_0 c707
    exact hp _ _ lit_m2 
  · replace c707 := c_neq tr_1v417 lit_0 c707
    refine sX11_width   (hI := hI)   (hp := fun r_4v425 zr_4v425 tr_4v425 p708 => ?_)
    obtain ⟨z709, t710, f711⟩ := t_sub tr_4v425 lit_1
    first | replace f711 := f711 (by omega) | clear f711
    refine sX11_isIn   (hI := hI) (tx0 := tx2) (tx1 := lit_0) (tx2 := t710)  (hp := fun r_6v431 zr_6v431 tr_6v431 p712 p713 => ?_)
    refine ⟨fun c714 => ?_, fun c714 => ?_⟩
    · replace c714 := c_eq tr_6v431 lit_0 c714
      exact hp _ _ lit_m2 
    · replace c714 := c_neq tr_6v431 lit_0 c714
      refine sX11_rowOf   (hI := hI) (tx1 := tx1) (h0 := (by omega)) (hp := fun r_9v435 zr_9v435 tr_9v435 p715 => ?_)
      obtain ⟨z716, t717, f718⟩ := t_and (x := (r_9v435 >>> (x2 &&& 31))) lit_1 (by decide)
      refine ⟨fun c719 => ?_, fun c719 => ?_⟩
      · replace c719 := c_neq t717 lit_0 c719
        exact ⟨70000, sX11_thumb_42    (hp := hp) 70000 _ _ _ _  tx1 tx2 hI (by omega) (by omega)⟩
      · replace c719 := c_eq t717 lit_0 c719
        exact hp _ _ lit_m2 
set_option maxHeartbeats 4000000 in
set_option maxRecDepth 100000 in
theorem sX11_layShares_142 {T W H P S M : Int} {k131 : Int32 → Int32 → Wd → Prop} {M131 : Int} {post : Wd → Prop}  (hk131 : ∀ (x2 : Int32) (x4 : Int32) (zx2 : Int) (zx4 : Int) (w : Wd), Ti x2 zx2 → Ti x4 zx4 → IM T W H P S M w → (-2147483648 ≤ zx4 ∧ zx4 ≤ 2147483647) → (1 ≤ zx2 ∧ zx2 ≤ 4) → (zx4 + 2147483649) < M131 → k131 x2 x4 w) (hp : ∀ (w9 : Wd), IM T W H P S M w9 → post w9) : ∀ (n : Nat) (x2 : Int32) (x4 : Int32) (x5 : Int32) (x6 : Int32) (zx2 : Int) (zx4 : Int) (zx5 : Int) (zx6 : Int) (w : Wd), Ti x2 zx2 → Ti x4 zx4 → Ti x5 zx5 → Ti x6 zx6 → IM T W H P S M w → (0 ≤ zx6 ∧ zx6 ≤ 4) → (0 ≤ zx5 ∧ zx5 ≤ 3) → (0 < zx4) → (-2147483648 ≤ zx4 ∧ zx4 ≤ 2147483647) → (1 ≤ zx2 ∧ zx2 ≤ 4) → ((zx4 + 2147483649) ≤ M131) → (5 - zx6) < (n : Int) → pX11_layShares_142 k131  post  n x2 x4 x5 x6 w := by
  intro n
  induction n with
  | zero =>
    intro x2 x4 x5 x6 zx2 zx4 zx5 zx6 w tx2 tx4 tx5 tx6 hI h0 h1 h2 h3 h4 h5 hm
    exact absurd hm (by omega)
  | succ n ih =>
    intro x2 x4 x5 x6 zx2 zx4 zx5 zx6 w tx2 tx4 tx5 tx6 hI h0 h1 h2 h3 h4 h5 hm
    unfold pX11_layShares_142
    have hk := im_k hI
    refine ⟨fun c720 => ?_, fun c720 => ?_⟩
    · replace c720 := c_le tx2 tx6 c720
      refine ⟨vp_of tx5 (by omega) (by omega), ?_⟩
      refine ⟨vp_of tx5 (by omega) (by omega), ?_⟩
      intro w_2v437 ew_2v437
      have hIw_2v437 := ims_A hI ew_2v437 (by decide)
      refine ⟨vp_of tx5 (by omega) (by omega), ?_⟩
      intro w_3v438 ew_3v438
      have hIw_3v438 := ims_A hIw_2v437 ew_3v438 (by decide)
      obtain ⟨z721, t722, f723⟩ := t_add tx4 lit_m1
      first | replace f723 := f723 (by omega) | clear f723
      intro x4_4v439 ex4_4v439
      have tx4_4v439 : Ti x4_4v439 z721 := by rw [ex4_4v439]; exact t722
      have f724 := t_rng tx4_4v439
      exact hk131 _ _ _ _ _ tx2 tx4_4v439 hIw_3v438 (by omega) (by omega) (by omega)
    · replace c720 := c_nle tx2 tx6 c720
      refine ⟨vp_of tx6 (by omega) (by omega), ?_⟩
      refine ⟨vp_of tx5 (by omega) (by omega), ?_⟩
      obtain ⟨z725, t726⟩ := t_any (w.2.1 347 x6.toNatClampNeg)
      obtain ⟨z728, t729⟩ := t_any (w.2.1 347 x5.toNatClampNeg)
      refine ⟨fun c731 => ?_, fun c731 => ?_⟩
      · replace c731 := c_le t726 t729 c731
        unfold pX11_layShares_169
        obtain ⟨z732, t733, f734⟩ := t_add tx6 lit_1
        first | replace f734 := f734 (by omega) | clear f734
        intro x6_1v440 ex6_1v440
        have tx6_1v440 : Ti x6_1v440 z732 := by rw [ex6_1v440]; exact t733
        exact ih _ _ _ _ _ _ _ _ _ tx2 tx4 tx5 tx6_1v440 hI (by omega) (by omega) (by omega) (by omega) (by omega) (by omega) (by omega)
      · replace c731 := c_nle t726 t729 c731
        unfold pX11_layShares_169
        obtain ⟨z735, t736, f737⟩ := t_add tx6 lit_1
        first | replace f737 := f737 (by omega) | clear f737
        intro x6_1v441 ex6_1v441
        have tx6_1v441 : Ti x6_1v441 z735 := by rw [ex6_1v441]; exact t736
        exact ih _ _ _ _ _ _ _ _ _ tx2 tx4 tx6 tx6_1v441 hI (by omega) (by omega) (by omega) (by omega) (by omega) (by omega) (by omega)
set_option maxHeartbeats 4000000 in
set_option maxRecDepth 100000 in
theorem sX11_layShares_131 {T W H P S M : Int} {post : Wd → Prop}   (hp : ∀ (w9 : Wd), IM T W H P S M w9 → post w9) : ∀ (n : Nat) (x2 : Int32) (x4 : Int32) (zx2 : Int) (zx4 : Int) (w : Wd), Ti x2 zx2 → Ti x4 zx4 → IM T W H P S M w → (-2147483648 ≤ zx4 ∧ zx4 ≤ 2147483647) → (1 ≤ zx2 ∧ zx2 ≤ 4) → (zx4 + 2147483649) < (n : Int) → pX11_layShares_131   post  n x2 x4 w := by
  intro n
  induction n with
  | zero =>
    intro x2 x4 zx2 zx4 w tx2 tx4 hI h0 h1 hm
    exact absurd hm (by omega)
  | succ n ih =>
    intro x2 x4 zx2 zx4 w tx2 tx4 hI h0 h1 hm
    unfold pX11_layShares_131
    have hk := im_k hI
    refine ⟨fun c738 => ?_, fun c738 => ?_⟩
    · replace c738 := c_le tx4 lit_0 c738
      exact hp  _   hI 
    · replace c738 := c_nle tx4 lit_0 c738
      exact ⟨70000, sX11_layShares_142  (M131 := (n : Int)) (hk131 := ih)  (hp := hp) 70000 _ _ _ _ _ _ _ _ _ tx2 tx4 lit_0 lit_1 hI (by omega) (by omega) (by omega) (by omega) (by omega) (by omega) (by omega)⟩
set_option maxHeartbeats 4000000 in
set_option maxRecDepth 100000 in
theorem sX11_layShares_24 {T W H P S M : Int} {k12 : Int32 → Int32 → Int32 → Int32 → Int32 → Wd → Prop} {M12 : Int} {post : Wd → Prop}  (hk12 : ∀ (x1 : Int32) (x2 : Int32) (x3 : Int32) (x4 : Int32) (x5 : Int32) (zx1 : Int) (zx2 : Int) (zx3 : Int) (zx4 : Int) (zx5 : Int) (w : Wd), Ti x1 zx1 → Ti x2 zx2 → Ti x3 zx3 → Ti x4 zx4 → Ti x5 zx5 → IM T W H P S M w → (0 ≤ zx5 ∧ zx5 ≤ 4) → (1 ≤ zx2 ∧ zx2 ≤ 4) → (5 - zx5) < M12 → k12 x1 x2 x3 x4 x5 w) (hp : ∀ (w9 : Wd), IM T W H P S M w9 → post w9) : ∀ (n : Nat) (x1 : Int32) (x2 : Int32) (x3 : Int32) (x4 : Int32) (x5 : Int32) (x6 : Int32) (x7 : Int32) (zx1 : Int) (zx2 : Int) (zx3 : Int) (zx4 : Int) (zx5 : Int) (zx6 : Int) (zx7 : Int) (w : Wd), Ti x1 zx1 → Ti x2 zx2 → Ti x3 zx3 → Ti x4 zx4 → Ti x5 zx5 → Ti x6 zx6 → Ti x7 zx7 → IM T W H P S M w → (0 ≤ zx7 ∧ zx7 ≤ 12) → (zx5 ≤ 3) → (0 ≤ zx5 ∧ zx5 ≤ 4) → (1 ≤ zx2 ∧ zx2 ≤ 4) → ((5 - zx5) ≤ M12) → (13 - zx7) < (n : Int) → pX11_layShares_24 k12  post  n x1 x2 x3 x4 x5 x6 x7 w := by
  intro n
  induction n with
  | zero =>
    intro x1 x2 x3 x4 x5 x6 x7 zx1 zx2 zx3 zx4 zx5 zx6 zx7 w tx1 tx2 tx3 tx4 tx5 tx6 tx7 hI h0 h1 h2 h3 h4 hm
    exact absurd hm (by omega)
  | succ n ih =>
    intro x1 x2 x3 x4 x5 x6 x7 zx1 zx2 zx3 zx4 zx5 zx6 zx7 w tx1 tx2 tx3 tx4 tx5 tx6 tx7 hI h0 h1 h2 h3 h4 hm
    unfold pX11_layShares_24
    have hk := im_k hI
    refine sX11_width   (hI := hI)   (hp := fun r_1v442 zr_1v442 tr_1v442 p739 => ?_)
    refine ⟨fun c740 => ?_, fun c740 => ?_⟩
    · replace c740 := c_le tr_1v442 tx7 c740
      refine ⟨fun c741 => ?_, fun c741 => ?_⟩
      · replace c741 := c_neq tx3 lit_0 c741
        refine ⟨nz_of tx3 (by omega), ?_⟩
        unfold pX11_layShares_85
        refine ⟨vp_of tx5 (by omega) (by omega), ?_⟩
        intro w_1v450 ew_1v450
        have hIw_1v450 := ims_A hI ew_1v450 (by decide)
        refine ⟨fun c742 => ?_, fun c742 => ?_⟩
        · replace c742 := c_neq tx3 lit_0 c742
          refine ⟨nz_of tx3 (by omega), ?_⟩
          unfold pX11_layShares_107
          refine ⟨vp_of tx5 (by omega) (by omega), ?_⟩
          intro w_1v451 ew_1v451
          have hIw_1v451 := ims_A hIw_1v450 ew_1v451 (by decide)
          refine ⟨vp_of tx5 (by omega) (by omega), ?_⟩
          obtain ⟨z743, t744, f745⟩ := t_mul lit_100 tx6
          first | replace f745 := f745 (by omega) | clear f745
          obtain ⟨z746, t747, f748⟩ := t_divv t744 tx3
          first | replace f748 := f748 (by omega) | clear f748
          have t749 : Ti (w_1v450.2.1 346 x5.toNatClampNeg) z746 := by rw [ew_1v450, sA_at]; exact t747
          have t750 : Ti (w_1v451.2.1 346 x5.toNatClampNeg) z746 := by rw [ew_1v451, sA_ne (by decide)]; exact t749
          obtain ⟨z751, t752, f753⟩ := t_sub tx4 t750
          first | replace f753 := f753 (by omega) | clear f753
          intro x4_2v452 ex4_2v452
          have tx4_2v452 : Ti x4_2v452 z751 := by rw [ex4_2v452]; exact t752
          obtain ⟨z754, t755, f756⟩ := t_add tx5 lit_1
          first | replace f756 := f756 (by omega) | clear f756
          intro x5_3v453 ex5_3v453
          have tx5_3v453 : Ti x5_3v453 z754 := by rw [ex5_3v453]; exact t755
          exact hk12 _ _ _ _ _ _ _ _ _ _ _ tx1 tx2 tx3 tx4_2v452 tx5_3v453 hIw_1v451 (by omega) (by omega) (by omega)
        · replace c742 := c_eq tx3 lit_0 c742
          unfold pX11_layShares_107
          refine ⟨vp_of tx5 (by omega) (by omega), ?_⟩
          intro w_1v454 ew_1v454
          have hIw_1v454 := ims_A hIw_1v450 ew_1v454 (by decide)
          refine ⟨vp_of tx5 (by omega) (by omega), ?_⟩
          obtain ⟨z757, t758, f759⟩ := t_mul lit_100 tx6
          first | replace f759 := f759 (by omega) | clear f759
          obtain ⟨z760, t761, f762⟩ := t_divv t758 tx3
          first | replace f762 := f762 (by omega) | clear f762
          have t763 : Ti (w_1v450.2.1 346 x5.toNatClampNeg) z760 := by rw [ew_1v450, sA_at]; exact t761
          have t764 : Ti (w_1v454.2.1 346 x5.toNatClampNeg) z760 := by rw [ew_1v454, sA_ne (by decide)]; exact t763
          obtain ⟨z765, t766, f767⟩ := t_sub tx4 t764
          first | replace f767 := f767 (by omega) | clear f767
          intro x4_2v455 ex4_2v455
          have tx4_2v455 : Ti x4_2v455 z765 := by rw [ex4_2v455]; exact t766
          obtain ⟨z768, t769, f770⟩ := t_add tx5 lit_1
          first | replace f770 := f770 (by omega) | clear f770
          intro x5_3v456 ex5_3v456
          have tx5_3v456 : Ti x5_3v456 z768 := by rw [ex5_3v456]; exact t769
          exact hk12 _ _ _ _ _ _ _ _ _ _ _ tx1 tx2 tx3 tx4_2v455 tx5_3v456 hIw_1v454 (by omega) (by omega) (by omega)
      · replace c741 := c_eq tx3 lit_0 c741
        unfold pX11_layShares_85
        refine ⟨vp_of tx5 (by omega) (by omega), ?_⟩
        intro w_1v457 ew_1v457
        have hIw_1v457 := ims_A hI ew_1v457 (by decide)
        refine ⟨fun c771 => ?_, fun c771 => ?_⟩
        · replace c771 := c_neq tx3 lit_0 c771
          refine ⟨nz_of tx3 (by omega), ?_⟩
          unfold pX11_layShares_107
          refine ⟨vp_of tx5 (by omega) (by omega), ?_⟩
          intro w_1v458 ew_1v458
          have hIw_1v458 := ims_A hIw_1v457 ew_1v458 (by decide)
          refine ⟨vp_of tx5 (by omega) (by omega), ?_⟩
          have t772 : Ti (w_1v457.2.1 346 x5.toNatClampNeg) 0 := by rw [ew_1v457, sA_at]; exact lit_0
          have t773 : Ti (w_1v458.2.1 346 x5.toNatClampNeg) 0 := by rw [ew_1v458, sA_ne (by decide)]; exact t772
          obtain ⟨z774, t775, f776⟩ := t_sub tx4 t773
          first | replace f776 := f776 (by omega) | clear f776
          intro x4_2v459 ex4_2v459
          have tx4_2v459 : Ti x4_2v459 z774 := by rw [ex4_2v459]; exact t775
          obtain ⟨z777, t778, f779⟩ := t_add tx5 lit_1
          first | replace f779 := f779 (by omega) | clear f779
          intro x5_3v460 ex5_3v460
          have tx5_3v460 : Ti x5_3v460 z777 := by rw [ex5_3v460]; exact t778
          exact hk12 _ _ _ _ _ _ _ _ _ _ _ tx1 tx2 tx3 tx4_2v459 tx5_3v460 hIw_1v458 (by omega) (by omega) (by omega)
        · replace c771 := c_eq tx3 lit_0 c771
          unfold pX11_layShares_107
          refine ⟨vp_of tx5 (by omega) (by omega), ?_⟩
          intro w_1v461 ew_1v461
          have hIw_1v461 := ims_A hIw_1v457 ew_1v461 (by decide)
          refine ⟨vp_of tx5 (by omega) (by omega), ?_⟩
          have t780 : Ti (w_1v457.2.1 346 x5.toNatClampNeg) 0 := by rw [ew_1v457, sA_at]; exact lit_0
          have t781 : Ti (w_1v461.2.1 346 x5.toNatClampNeg) 0 := by rw [ew_1v461, sA_ne (by decide)]; exact t780
          obtain ⟨z782, t783, f784⟩ := t_sub tx4 t781
          first | replace f784 := f784 (by omega) | clear f784
          intro x4_2v462 ex4_2v462
          have tx4_2v462 : Ti x4_2v462 z782 := by rw [ex4_2v462]; exact t783
          obtain ⟨z785, t786, f787⟩ := t_add tx5 lit_1
          first | replace f787 := f787 (by omega) | clear f787
          intro x5_3v463 ex5_3v463
          have tx5_3v463 : Ti x5_3v463 z785 := by rw [ex5_3v463]; exact t786
          exact hk12 _ _ _ _ _ _ _ _ _ _ _ tx1 tx2 tx3 tx4_2v462 tx5_3v463 hIw_1v461 (by omega) (by omega) (by omega)
    · replace c740 := c_nle tr_1v442 tx7 c740
      refine sX11_width   (hI := hI)   (hp := fun r_5v447 zr_5v447 tr_5v447 p788 => ?_)
      refine ⟨nz_of tr_5v447 (by omega), ?_⟩
      obtain ⟨z789, t790, f791⟩ := t_mulv tx7 tx2
      first | replace f791 := f791 (by omega) | clear f791
      obtain ⟨z792, t793, f794⟩ := t_divv t790 tr_5v447
      first | replace f794 := f794 (by omega) | clear f794
      refine ⟨fun c795 => ?_, fun c795 => ?_⟩
      · replace c795 := c_neq t793 tx5 c795
        unfold pX11_layShares_58
        obtain ⟨z796, t797, f798⟩ := t_add tx7 lit_1
        first | replace f798 := f798 (by omega) | clear f798
        intro x7_1v465 ex7_1v465
        have tx7_1v465 : Ti x7_1v465 z796 := by rw [ex7_1v465]; exact t797
        exact ih _ _ _ _ _ _ _ _ _ _ _ _ _ _ _ tx1 tx2 tx3 tx4 tx5 tx6 tx7_1v465 hI (by omega) (by omega) (by omega) (by omega) (by omega) (by omega)
      · replace c795 := c_eq t793 tx5 c795
        obtain ⟨z799, t800, f801⟩ := t_and (x := (x1 >>> (x7 &&& 31))) lit_1 (by decide)
        obtain ⟨z802, t803, f804⟩ := t_add tx6 t800
        first | replace f804 := f804 (by omega) | clear f804
        intro x6_8v464 ex6_8v464
        have tx6_8v464 : Ti x6_8v464 z802 := by rw [ex6_8v464]; exact t803
        unfold pX11_layShares_58
        obtain ⟨z805, t806, f807⟩ := t_add tx7 lit_1
        first | replace f807 := f807 (by omega) | clear f807
        intro x7_1v466 ex7_1v466
        have tx7_1v466 : Ti x7_1v466 z805 := by rw [ex7_1v466]; exact t806
        exact ih _ _ _ _ _ _ _ _ _ _ _ _ _ _ _ tx1 tx2 tx3 tx4 tx5 tx6_8v464 tx7_1v466 hI (by omega) (by omega) (by omega) (by omega) (by omega) (by omega)
set_option maxHeartbeats 4000000 in
set_option maxRecDepth 100000 in
theorem sX11_layShares_12 {T W H P S M : Int} {post : Wd → Prop}   (hp : ∀ (w9 : Wd), IM T W H P S M w9 → post w9) : ∀ (n : Nat) (x1 : Int32) (x2 : Int32) (x3 : Int32) (x4 : Int32) (x5 : Int32) (zx1 : Int) (zx2 : Int) (zx3 : Int) (zx4 : Int) (zx5 : Int) (w : Wd), Ti x1 zx1 → Ti x2 zx2 → Ti x3 zx3 → Ti x4 zx4 → Ti x5 zx5 → IM T W H P S M w → (0 ≤ zx5 ∧ zx5 ≤ 4) → (1 ≤ zx2 ∧ zx2 ≤ 4) → (5 - zx5) < (n : Int) → pX11_layShares_12   post  n x1 x2 x3 x4 x5 w := by
  intro n
  induction n with
  | zero =>
    intro x1 x2 x3 x4 x5 zx1 zx2 zx3 zx4 zx5 w tx1 tx2 tx3 tx4 tx5 hI h0 h1 hm
    exact absurd hm (by omega)
  | succ n ih =>
    intro x1 x2 x3 x4 x5 zx1 zx2 zx3 zx4 zx5 w tx1 tx2 tx3 tx4 tx5 hI h0 h1 hm
    unfold pX11_layShares_12
    have hk := im_k hI
    refine ⟨fun c808 => ?_, fun c808 => ?_⟩
    · replace c808 := c_le tx2 tx5 c808
      refine ⟨fun c809 => ?_, fun c809 => ?_⟩
      · replace c809 := c_neq tx3 lit_0 c809
        have f810 := t_rng tx4
        exact ⟨4294967298, sX11_layShares_131    (hp := hp) 4294967298 _ _ _ _ _ tx2 tx4 hI (by omega) (by omega) (by omega)⟩
      · replace c809 := c_eq tx3 lit_0 c809
        exact hp  _   hI 
    · replace c808 := c_nle tx2 tx5 c808
      exact ⟨70000, sX11_layShares_24  (M12 := (n : Int)) (hk12 := ih)  (hp := hp) 70000 _ _ _ _ _ _ _ _ _ _ _ _ _ _ _ tx1 tx2 tx3 tx4 tx5 lit_0 lit_0 hI (by omega) (by omega) (by omega) (by omega) (by omega) (by omega)⟩
set_option maxHeartbeats 4000000 in
set_option maxRecDepth 100000 in
theorem sX11_layShares {T W H P S M : Int} {post : Wd → Prop} {x1 : Int32} {zx1 : Int} {x2 : Int32} {zx2 : Int} {w : Wd}  (tx1 : Ti x1 zx1) (tx2 : Ti x2 zx2) (hI : IM T W H P S M w) (h0 : 1 ≤ zx2 ∧ zx2 ≤ 4) (hp : ∀ (w9 : Wd), IM T W H P S M w9 → post w9) : pX11_layShares   post  x1 x2 w := by
  unfold pX11_layShares
  have hk := im_k hI
  refine sX11_bitsOf   (hI := hI) (tx0 := tx1)  (hp := fun r_1v467 zr_1v467 tr_1v467 => ?_)
  exact ⟨70000, sX11_layShares_12    (hp := hp) 70000 _ _ _ _ _ _ _ _ _ _ _ tx1 tx2 tr_1v467 lit_100 lit_0 hI (by omega) (by omega) (by omega)⟩
set_option maxHeartbeats 4000000 in
set_option maxRecDepth 100000 in
theorem sX11_share {T W H P S M : Int} {post : Int32 → Wd → Prop} {x1 : Int32} {zx1 : Int} {x2 : Int32} {zx2 : Int} {x3 : Int32} {zx3 : Int} {w : Wd}  (tx1 : Ti x1 zx1) (tx2 : Ti x2 zx2) (tx3 : Ti x3 zx3) (hI : IM T W H P S M w)  (hp : ∀ (r : Int32) (zr : Int) (w9 : Wd), Ti r zr → IM T W H P S M w9 → post r w9) : pX11_share   post  x1 x2 x3 w := by
  unfold pX11_share
  have hk := im_k hI
  refine sX11_isRow   (hI := hI) (tx1 := tx1)  (hp := fun r_1v469 zr_1v469 tr_1v469 p811 => ?_)
  refine ⟨fun c812 => ?_, fun c812 => ?_⟩
  · replace c812 := c_eq tr_1v469 lit_0 c812
    exact hp _ _ _  lit_m1 hI 
  · replace c812 := c_neq tr_1v469 lit_0 c812
    refine sX11_isIn   (hI := hI) (tx0 := tx2) (tx1 := lit_1) (tx2 := lit_4)  (hp := fun r_4v476 zr_4v476 tr_4v476 p813 p814 => ?_)
    refine ⟨fun c815 => ?_, fun c815 => ?_⟩
    · replace c815 := c_eq tr_4v476 lit_0 c815
      exact hp _ _ _  lit_m1 hI 
    · replace c815 := c_neq tr_4v476 lit_0 c815
      obtain ⟨z816, t817, f818⟩ := t_sub tx2 lit_1
      first | replace f818 := f818 (by omega) | clear f818
      refine sX11_isIn   (hI := hI) (tx0 := tx3) (tx1 := lit_0) (tx2 := t817)  (hp := fun r_7v481 zr_7v481 tr_7v481 p819 p820 => ?_)
      refine ⟨fun c821 => ?_, fun c821 => ?_⟩
      · replace c821 := c_neq tr_7v481 lit_0 c821
        refine sX11_layShares   (hI := hI) (tx1 := tx1) (tx2 := tx2) (h0 := (by omega)) (hp := fun  w_10v484   hIw_10v484  => ?_)
        refine ⟨vp_of tx3 (by omega) (by omega), ?_⟩
        obtain ⟨z822, t823⟩ := t_any (w_10v484.2.1 346 x3.toNatClampNeg)
        exact hp _ _ _  t823 hIw_10v484 
      · replace c821 := c_eq tr_7v481 lit_0 c821
        exact hp _ _ _  lit_m1 hI 
set_option maxHeartbeats 4000000 in
set_option maxRecDepth 100000 in
theorem sX11_forge_40 {T W H P S M : Int} {post : Int32 → Wd → Prop}   (hp : ∀ (r : Int32) (zr : Int) (w9 : Wd), Ti r zr → IM T W H P S M w9 → post r w9) : ∀ (n : Nat) (x1 : Int32) (x2 : Int32) (x3 : Int32) (x4 : Int32) (x5 : Int32) (x6 : Int32) (x7 : Int32) (x8 : Int32) (zx1 : Int) (zx2 : Int) (zx3 : Int) (zx4 : Int) (zx5 : Int) (zx6 : Int) (zx7 : Int) (zx8 : Int) (w : Wd), Ti x1 zx1 → Ti x2 zx2 → Ti x3 zx3 → Ti x4 zx4 → Ti x5 zx5 → Ti x6 zx6 → Ti x7 zx7 → Ti x8 zx8 → IM T W H P S M w → (0 ≤ zx8 ∧ zx8 ≤ 4096) → (0 ≤ zx1 ∧ zx1 < S) → (0 ≤ zx2 ∧ zx2 < H) → (4097 - zx8) < (n : Int) → pX11_forge_40   post  n x1 x2 x3 x4 x5 x6 x7 x8 w := by
  intro n
  induction n with
  | zero =>
    intro x1 x2 x3 x4 x5 x6 x7 x8 zx1 zx2 zx3 zx4 zx5 zx6 zx7 zx8 w tx1 tx2 tx3 tx4 tx5 tx6 tx7 tx8 hI h0 h1 h2 hm
    exact absurd hm (by omega)
  | succ n ih =>
    intro x1 x2 x3 x4 x5 x6 x7 x8 zx1 zx2 zx3 zx4 zx5 zx6 zx7 zx8 w tx1 tx2 tx3 tx4 tx5 tx6 tx7 tx8 hI h0 h1 h2 hm
    unfold pX11_forge_40
    have hk := im_k hI
    refine sX11_width   (hI := hI)   (hp := fun r_1v485 zr_1v485 tr_1v485 p825 => ?_)
    obtain ⟨z826, t827, f828⟩ := t_shlW hI tr_1v485
    first | replace f828 := f828 (by omega) | clear f828
    refine ⟨fun c829 => ?_, fun c829 => ?_⟩
    · replace c829 := c_le t827 tx8 c829
      refine ⟨fun c830 => ?_, fun c830 => ?_⟩
      · replace c830 := c_le lit_0 tx6 c830
        refine ⟨fun c831 => ?_, fun c831 => ?_⟩
        · replace c831 := c_neq tx5 lit_0 c831
          exact hp _ _ _  tx6 hI 
        · replace c831 := c_eq tx5 lit_0 c831
          exact hp _ _ _  tx7 hI 
      · replace c830 := c_nle lit_0 tx6 c830
        exact hp _ _ _  lit_m1 hI 
    · replace c829 := c_nle t827 tx8 c829
      refine sX11_rowOf   (hI := hI) (tx1 := tx1) (h0 := (by omega)) (hp := fun r_6v491 zr_6v491 tr_6v491 p832 => ?_)
      obtain ⟨z833, t834⟩ := t_any (x8 ^^^ r_6v491)
      refine sX11_bitsOf   (hI := hI) (tx0 := t834)  (hp := fun r_8v495 zr_8v495 tr_8v495 => ?_)
      refine ⟨fun c835 => ?_, fun c835 => ?_⟩
      · replace c835 := c_lt tx6 lit_0 c835
        unfold pX11_forge_76
        refine sX11_castOf   (hI := hI) (tx1 := tx8) (tx2 := tx2) (tx3 := tx3) (tx4 := lit_0) (h0 := (by omega)) (hp := fun r_1v497 zr_1v497 w_2v498  tr_1v497 hIw_2v498 p836 => ?_)
        refine ⟨fun c837 => ?_, fun c837 => ?_⟩
        · replace c837 := c_eq tr_1v497 tx4 c837
          unfold pX11_forge_101
          obtain ⟨z838, t839, f840⟩ := t_add tx8 lit_1
          first | replace f840 := f840 (by omega) | clear f840
          intro x8_1v499 ex8_1v499
          have tx8_1v499 : Ti x8_1v499 z838 := by rw [ex8_1v499]; exact t839
          exact ih _ _ _ _ _ _ _ _ _ _ _ _ _ _ _ _ _ tx1 tx2 tx3 tx4 tx5 tx8 tr_8v495 tx8_1v499 hIw_2v498 (by omega) (by omega) (by omega) (by omega)
        · replace c837 := c_neq tr_1v497 tx4 c837
          unfold pX11_forge_101
          obtain ⟨z841, t842, f843⟩ := t_add tx8 lit_1
          first | replace f843 := f843 (by omega) | clear f843
          intro x8_1v500 ex8_1v500
          have tx8_1v500 : Ti x8_1v500 z841 := by rw [ex8_1v500]; exact t842
          exact ih _ _ _ _ _ _ _ _ _ _ _ _ _ _ _ _ _ tx1 tx2 tx3 tx4 tx5 tx6 tx7 tx8_1v500 hIw_2v498 (by omega) (by omega) (by omega) (by omega)
      · replace c835 := c_nlt tx6 lit_0 c835
        refine ⟨fun c844 => ?_, fun c844 => ?_⟩
        · replace c844 := c_le tx7 tr_8v495 c844
          unfold pX11_forge_101
          obtain ⟨z845, t846, f847⟩ := t_add tx8 lit_1
          first | replace f847 := f847 (by omega) | clear f847
          intro x8_1v501 ex8_1v501
          have tx8_1v501 : Ti x8_1v501 z845 := by rw [ex8_1v501]; exact t846
          exact ih _ _ _ _ _ _ _ _ _ _ _ _ _ _ _ _ _ tx1 tx2 tx3 tx4 tx5 tx6 tx7 tx8_1v501 hI (by omega) (by omega) (by omega) (by omega)
        · replace c844 := c_nle tx7 tr_8v495 c844
          unfold pX11_forge_76
          refine sX11_castOf   (hI := hI) (tx1 := tx8) (tx2 := tx2) (tx3 := tx3) (tx4 := lit_0) (h0 := (by omega)) (hp := fun r_1v502 zr_1v502 w_2v503  tr_1v502 hIw_2v503 p848 => ?_)
          refine ⟨fun c849 => ?_, fun c849 => ?_⟩
          · replace c849 := c_eq tr_1v502 tx4 c849
            unfold pX11_forge_101
            obtain ⟨z850, t851, f852⟩ := t_add tx8 lit_1
            first | replace f852 := f852 (by omega) | clear f852
            intro x8_1v504 ex8_1v504
            have tx8_1v504 : Ti x8_1v504 z850 := by rw [ex8_1v504]; exact t851
            exact ih _ _ _ _ _ _ _ _ _ _ _ _ _ _ _ _ _ tx1 tx2 tx3 tx4 tx5 tx8 tr_8v495 tx8_1v504 hIw_2v503 (by omega) (by omega) (by omega) (by omega)
          · replace c849 := c_neq tr_1v502 tx4 c849
            unfold pX11_forge_101
            obtain ⟨z853, t854, f855⟩ := t_add tx8 lit_1
            first | replace f855 := f855 (by omega) | clear f855
            intro x8_1v505 ex8_1v505
            have tx8_1v505 : Ti x8_1v505 z853 := by rw [ex8_1v505]; exact t854
            exact ih _ _ _ _ _ _ _ _ _ _ _ _ _ _ _ _ _ tx1 tx2 tx3 tx4 tx5 tx6 tx7 tx8_1v505 hIw_2v503 (by omega) (by omega) (by omega) (by omega)
set_option maxHeartbeats 4000000 in
set_option maxRecDepth 100000 in
theorem sX11_forge {T W H P S M : Int} {post : Int32 → Wd → Prop} {x1 : Int32} {zx1 : Int} {x2 : Int32} {zx2 : Int} {x3 : Int32} {zx3 : Int} {x4 : Int32} {zx4 : Int} {x5 : Int32} {zx5 : Int} {w : Wd}  (tx1 : Ti x1 zx1) (tx2 : Ti x2 zx2) (tx3 : Ti x3 zx3) (tx4 : Ti x4 zx4) (tx5 : Ti x5 zx5) (hI : IM T W H P S M w)  (hp : ∀ (r : Int32) (zr : Int) (w9 : Wd), Ti r zr → IM T W H P S M w9 → post r w9) : pX11_forge   post  x1 x2 x3 x4 x5 w := by
  unfold pX11_forge
  have hk := im_k hI
  refine sX11_canCast   (hI := hI) (tx1 := tx1) (tx2 := tx2) (tx3 := tx3)  (hp := fun r_1v506 zr_1v506 tr_1v506 p856 => ?_)
  refine ⟨fun c857 => ?_, fun c857 => ?_⟩
  · replace c857 := c_eq tr_1v506 lit_0 c857
    exact hp _ _ _  lit_m1 hI 
  · replace c857 := c_neq tr_1v506 lit_0 c857
    refine sX11_isRow   (hI := hI) (tx1 := tx4)  (hp := fun r_4v512 zr_4v512 tr_4v512 p858 => ?_)
    refine ⟨fun c859 => ?_, fun c859 => ?_⟩
    · replace c859 := c_eq tr_4v512 lit_0 c859
      exact hp _ _ _  lit_m1 hI 
    · replace c859 := c_neq tr_4v512 lit_0 c859
      refine sX11_isIn   (hI := hI) (tx0 := tx5) (tx1 := lit_0) (tx2 := lit_1)  (hp := fun r_7v516 zr_7v516 tr_7v516 p860 p861 => ?_)
      refine ⟨fun c862 => ?_, fun c862 => ?_⟩
      · replace c862 := c_neq tr_7v516 lit_0 c862
        exact ⟨70000, sX11_forge_40    (hp := hp) 70000 _ _ _ _ _ _ _ _ _ _ _ _ _ _ _ _ _ tx1 tx2 tx3 tx4 tx5 lit_m1 lit_0 lit_0 hI (by omega) (by omega) (by omega) (by omega)⟩
      · replace c862 := c_eq tr_7v516 lit_0 c862
        exact hp _ _ _  lit_m1 hI 
set_option maxHeartbeats 4000000 in
set_option maxRecDepth 100000 in
theorem sX11_nearest_27 {T W H P S M : Int} {post : Int32 → Wd → Prop} {w : Wd}  (hp : ∀ (r : Int32) (zr : Int), Ti r zr → post r w) : ∀ (n : Nat) (x1 : Int32) (x2 : Int32) (x3 : Int32) (x4 : Int32) (x5 : Int32) (zx1 : Int) (zx2 : Int) (zx3 : Int) (zx4 : Int) (zx5 : Int), Ti x1 zx1 → Ti x2 zx2 → Ti x3 zx3 → Ti x4 zx4 → Ti x5 zx5 → IM T W H P S M w → (0 ≤ zx5 ∧ zx5 ≤ 48) → (-1 ≤ zx3) → (49 - zx5) < (n : Int) → pX11_nearest_27   post  n x1 x2 x3 x4 x5 w := by
  intro n
  induction n with
  | zero =>
    intro x1 x2 x3 x4 x5 zx1 zx2 zx3 zx4 zx5  tx1 tx2 tx3 tx4 tx5 hI h0 h1 hm
    exact absurd hm (by omega)
  | succ n ih =>
    intro x1 x2 x3 x4 x5 zx1 zx2 zx3 zx4 zx5  tx1 tx2 tx3 tx4 tx5 hI h0 h1 hm
    unfold pX11_nearest_27
    have hk := im_k hI
    obtain ⟨z863, t864⟩ := t_any (w.2.1 341 (216 : Int32).toNatClampNeg)
    have f865 := img_216 hI t864
    obtain ⟨z866, t867, f868⟩ := t_mul lit_2 t864
    first | replace f868 := f868 (by omega) | clear f868
    refine ⟨fun c869 => ?_, fun c869 => ?_⟩
    · replace c869 := c_le t867 tx5 c869
      refine ⟨fun c870 => ?_, fun c870 => ?_⟩
      · replace c870 := c_neq tx2 lit_0 c870
        refine ⟨fun c871 => ?_, fun c871 => ?_⟩
        · replace c871 := c_neq tx2 lit_1 c871
          refine ⟨nz_of t864 (by omega), ?_⟩
          obtain ⟨z872, t873, f874⟩ := t_divv tx3 t864
          first | replace f874 := f874 (by omega) | clear f874
          exact hp _ _ t873 
        · replace c871 := c_eq tx2 lit_1 c871
          refine ⟨nz_of t864 (by omega), ?_⟩
          obtain ⟨z875, t876, f877⟩ := t_remv tx3 t864
          first | replace f877 := f877 (by omega) | clear f877
          exact hp _ _ t876 
      · replace c870 := c_eq tx2 lit_0 c870
        exact hp _ _ tx4 
    · replace c869 := c_nle t867 tx5 c869
      refine ⟨nz_of t864 (by omega), ?_⟩
      obtain ⟨z878, t879, f880⟩ := t_remv tx5 t864
      first | replace f880 := f880 (by omega) | clear f880
      intro x6_4v518 ex6_4v518
      have tx6_4v518 : Ti x6_4v518 z878 := by rw [ex6_4v518]; exact t879
      refine ⟨fun c881 => ?_, fun c881 => ?_⟩
      · replace c881 := c_le t864 tx5 c881
        refine sX11_rowOf   (hI := hI) (tx1 := tx6_4v518) (h0 := (by omega)) (hp := fun r_6v519 zr_6v519 tr_6v519 p882 => ?_)
        unfold pX11_nearest_88
        obtain ⟨z883, t884⟩ := t_any (x1 ^^^ r_6v519)
        refine sX11_bitsOf   (hI := hI) (tx0 := t884)  (hp := fun r_1v525 zr_1v525 tr_1v525 => ?_)
        refine ⟨fun c885 => ?_, fun c885 => ?_⟩
        · replace c885 := c_lt tx3 lit_0 c885
          unfold pX11_nearest_108
          unfold pX11_nearest_115
          obtain ⟨z886, t887, f888⟩ := t_add tx5 lit_1
          first | replace f888 := f888 (by omega) | clear f888
          intro x5_1v527 ex5_1v527
          have tx5_1v527 : Ti x5_1v527 z886 := by rw [ex5_1v527]; exact t887
          exact ih _ _ _ _ _ _ _ _ _ _  tx1 tx2 tx5 tr_1v525 tx5_1v527 hI (by omega) (by omega) (by omega)
        · replace c885 := c_nlt tx3 lit_0 c885
          refine ⟨fun c889 => ?_, fun c889 => ?_⟩
          · replace c889 := c_lt tr_1v525 tx4 c889
            unfold pX11_nearest_108
            unfold pX11_nearest_115
            obtain ⟨z890, t891, f892⟩ := t_add tx5 lit_1
            first | replace f892 := f892 (by omega) | clear f892
            intro x5_1v528 ex5_1v528
            have tx5_1v528 : Ti x5_1v528 z890 := by rw [ex5_1v528]; exact t891
            exact ih _ _ _ _ _ _ _ _ _ _  tx1 tx2 tx5 tr_1v525 tx5_1v528 hI (by omega) (by omega) (by omega)
          · replace c889 := c_nlt tr_1v525 tx4 c889
            unfold pX11_nearest_115
            obtain ⟨z893, t894, f895⟩ := t_add tx5 lit_1
            first | replace f895 := f895 (by omega) | clear f895
            intro x5_1v529 ex5_1v529
            have tx5_1v529 : Ti x5_1v529 z893 := by rw [ex5_1v529]; exact t894
            exact ih _ _ _ _ _ _ _ _ _ _  tx1 tx2 tx3 tx4 tx5_1v529 hI (by omega) (by omega) (by omega)
      · replace c881 := c_nle t864 tx5 c881
        refine sX11_rowOf   (hI := hI) (tx1 := tx6_4v518) (h0 := (by omega)) (hp := fun r_8v521 zr_8v521 tr_8v521 p896 => ?_)
        refine sX11_turnedRow   (hI := hI) (tx1 := tr_8v521)  (hp := fun r_10v530 zr_10v530 tr_10v530 => ?_)
        unfold pX11_nearest_88
        obtain ⟨z897, t898⟩ := t_any (x1 ^^^ r_10v530)
        refine sX11_bitsOf   (hI := hI) (tx0 := t898)  (hp := fun r_1v532 zr_1v532 tr_1v532 => ?_)
        refine ⟨fun c899 => ?_, fun c899 => ?_⟩
        · replace c899 := c_lt tx3 lit_0 c899
          unfold pX11_nearest_108
          unfold pX11_nearest_115
          obtain ⟨z900, t901, f902⟩ := t_add tx5 lit_1
          first | replace f902 := f902 (by omega) | clear f902
          intro x5_1v534 ex5_1v534
          have tx5_1v534 : Ti x5_1v534 z900 := by rw [ex5_1v534]; exact t901
          exact ih _ _ _ _ _ _ _ _ _ _  tx1 tx2 tx5 tr_1v532 tx5_1v534 hI (by omega) (by omega) (by omega)
        · replace c899 := c_nlt tx3 lit_0 c899
          refine ⟨fun c903 => ?_, fun c903 => ?_⟩
          · replace c903 := c_lt tr_1v532 tx4 c903
            unfold pX11_nearest_108
            unfold pX11_nearest_115
            obtain ⟨z904, t905, f906⟩ := t_add tx5 lit_1
            first | replace f906 := f906 (by omega) | clear f906
            intro x5_1v535 ex5_1v535
            have tx5_1v535 : Ti x5_1v535 z904 := by rw [ex5_1v535]; exact t905
            exact ih _ _ _ _ _ _ _ _ _ _  tx1 tx2 tx5 tr_1v532 tx5_1v535 hI (by omega) (by omega) (by omega)
          · replace c903 := c_nlt tr_1v532 tx4 c903
            unfold pX11_nearest_115
            obtain ⟨z907, t908, f909⟩ := t_add tx5 lit_1
            first | replace f909 := f909 (by omega) | clear f909
            intro x5_1v536 ex5_1v536
            have tx5_1v536 : Ti x5_1v536 z907 := by rw [ex5_1v536]; exact t908
            exact ih _ _ _ _ _ _ _ _ _ _  tx1 tx2 tx3 tx4 tx5_1v536 hI (by omega) (by omega) (by omega)
set_option maxHeartbeats 4000000 in
set_option maxRecDepth 100000 in
theorem sX11_nearest {T W H P S M : Int} {post : Int32 → Wd → Prop} {x1 : Int32} {zx1 : Int} {x2 : Int32} {zx2 : Int} {w : Wd}  (tx1 : Ti x1 zx1) (tx2 : Ti x2 zx2) (hI : IM T W H P S M w)  (hp : ∀ (r : Int32) (zr : Int), Ti r zr → post r w) : pX11_nearest   post  x1 x2 w := by
  unfold pX11_nearest
  have hk := im_k hI
  refine sX11_isRow   (hI := hI) (tx1 := tx1)  (hp := fun r_1v537 zr_1v537 tr_1v537 p910 => ?_)
  refine ⟨fun c911 => ?_, fun c911 => ?_⟩
  · replace c911 := c_eq tr_1v537 lit_0 c911
    exact hp _ _ lit_m1 
  · replace c911 := c_neq tr_1v537 lit_0 c911
    refine sX11_isIn   (hI := hI) (tx0 := tx2) (tx1 := lit_0) (tx2 := lit_2)  (hp := fun r_4v541 zr_4v541 tr_4v541 p912 p913 => ?_)
    refine ⟨fun c914 => ?_, fun c914 => ?_⟩
    · replace c914 := c_neq tr_4v541 lit_0 c914
      exact ⟨70000, sX11_nearest_27    (hp := hp) 70000 _ _ _ _ _ _ _ _ _ _  tx1 tx2 lit_m1 lit_0 lit_0 hI (by omega) (by omega) (by omega)⟩
    · replace c914 := c_eq tr_4v541 lit_0 c914
      exact hp _ _ lit_m1 
