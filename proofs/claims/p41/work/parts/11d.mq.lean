set_option maxHeartbeats 4000000 in
set_option maxRecDepth 100000 in
theorem sX11_whose_31 {T W H P S M : Int} {post : Int32 → Wd → Prop}   (hp : ∀ (r : Int32) (zr : Int) (w9 : Wd), Ti r zr → IM T W H P S M w9 → post r w9) : ∀ (n : Nat) (x1 : Int32) (x2 : Int32) (x3 : Int32) (x4 : Int32) (x5 : Int32) (zx1 : Int) (zx2 : Int) (zx3 : Int) (zx4 : Int) (zx5 : Int) (w : Wd), Ti x1 zx1 → Ti x2 zx2 → Ti x3 zx3 → Ti x4 zx4 → Ti x5 zx5 → IM T W H P S M w → (0 ≤ zx5 ∧ zx5 ≤ 4) → (0 ≤ zx1 ∧ zx1 < S) → (5 - zx5) < (n : Int) → pX11_whose_31   post  n x1 x2 x3 x4 x5 w := by
  intro n
  induction n with
  | zero =>
    intro x1 x2 x3 x4 x5 zx1 zx2 zx3 zx4 zx5 w tx1 tx2 tx3 tx4 tx5 hI h0 h1 hm
    exact absurd hm (by omega)
  | succ n ih =>
    intro x1 x2 x3 x4 x5 zx1 zx2 zx3 zx4 zx5 w tx1 tx2 tx3 tx4 tx5 hI h0 h1 hm
    unfold pX11_whose_31
    have hk := im_k hI
    obtain ⟨z514, t515⟩ := t_any (w.1 300 29)
    have f516 := img_29 hI t515
    refine ⟨vp_of t515 (by omega) (by omega), ?_⟩
    obtain ⟨z517, t518⟩ := t_any (w.2.1 314 (w.1 300 29).toNatClampNeg)
    have f519 := img_314 hI t518
    refine ⟨fun c520 => ?_, fun c520 => ?_⟩
    · replace c520 := c_le t518 tx5 c520
      exact hp _ _ _  tx4 hI 
    · replace c520 := c_nle t518 tx5 c520
      refine sX11_rowOf   (hI := hI) (tx1 := tx1) (h0 := (by omega)) (hp := fun r_2v180 zr_2v180 tr_2v180 p521 => ?_)
      refine sX11_castOf   (hI := hI) (tx1 := tr_2v180) (tx2 := tx5) (tx3 := tx2) (tx4 := lit_0) (h0 := (by omega)) (hp := fun r_4v185 zr_4v185 w_5v186  tr_4v185 hIw_5v186 p522 => ?_)
      refine ⟨fun c523 => ?_, fun c523 => ?_⟩
      · replace c523 := c_neq tr_4v185 tx3 c523
        unfold pX11_whose_71
        obtain ⟨z524, t525, f526⟩ := t_add tx5 lit_1
        first | replace f526 := f526 (by omega) | clear f526
        intro x5_1v188 ex5_1v188
        have tx5_1v188 : Ti x5_1v188 z524 := by rw [ex5_1v188]; exact t525
        exact ih _ _ _ _ _ _ _ _ _ _ _ tx1 tx2 tx3 tx4 tx5_1v188 hIw_5v186 (by omega) (by omega) (by omega)
      · replace c523 := c_eq tr_4v185 tx3 c523
        obtain ⟨z527, t528, f529⟩ := t_shlW hIw_5v186 tx5
        first | replace f529 := f529 (by omega) | clear f529
        obtain ⟨z530, t531, f532⟩ := t_orW hIw_5v186 tx4 t528
        first | replace f532 := f532 (by omega) | clear f532
        intro x4_7v187 ex4_7v187
        have tx4_7v187 : Ti x4_7v187 z530 := by rw [ex4_7v187]; exact t531
        unfold pX11_whose_71
        obtain ⟨z533, t534, f535⟩ := t_add tx5 lit_1
        first | replace f535 := f535 (by omega) | clear f535
        intro x5_1v189 ex5_1v189
        have tx5_1v189 : Ti x5_1v189 z533 := by rw [ex5_1v189]; exact t534
        exact ih _ _ _ _ _ _ _ _ _ _ _ tx1 tx2 tx3 tx4_7v187 tx5_1v189 hIw_5v186 (by omega) (by omega) (by omega)
set_option maxHeartbeats 4000000 in
set_option maxRecDepth 100000 in
theorem sX11_whose {T W H P S M : Int} {post : Int32 → Wd → Prop} {x1 : Int32} {zx1 : Int} {x2 : Int32} {zx2 : Int} {x3 : Int32} {zx3 : Int} {w : Wd}  (tx1 : Ti x1 zx1) (tx2 : Ti x2 zx2) (tx3 : Ti x3 zx3) (hI : IM T W H P S M w)  (hp : ∀ (r : Int32) (zr : Int) (w9 : Wd), Ti r zr → IM T W H P S M w9 → post r w9) : pX11_whose   post  x1 x2 x3 w := by
  unfold pX11_whose
  have hk := im_k hI
  refine sX11_isSeal   (hI := hI) (tx1 := tx1)  (hp := fun r_1v190 zr_1v190 tr_1v190 p536 => ?_)
  refine ⟨fun c537 => ?_, fun c537 => ?_⟩
  · replace c537 := c_eq tr_1v190 lit_0 c537
    exact hp _ _ _  lit_m1 hI 
  · replace c537 := c_neq tr_1v190 lit_0 c537
    refine sX11_isHeat   (hI := hI) (tx0 := tx2)  (hp := fun r_4v196 zr_4v196 tr_4v196 p538 => ?_)
    refine ⟨fun c539 => ?_, fun c539 => ?_⟩
    · replace c539 := c_eq tr_4v196 lit_0 c539
      exact hp _ _ _  lit_m1 hI 
    · replace c539 := c_neq tr_4v196 lit_0 c539
      refine sX11_isRow   (hI := hI) (tx1 := tx3)  (hp := fun r_7v200 zr_7v200 tr_7v200 p540 => ?_)
      refine ⟨fun c541 => ?_, fun c541 => ?_⟩
      · replace c541 := c_neq tr_7v200 lit_0 c541
        exact ⟨70000, sX11_whose_31    (hp := hp) 70000 _ _ _ _ _ _ _ _ _ _ _ tx1 tx2 tx3 lit_0 lit_0 hI (by omega) (by omega) (by omega)⟩
      · replace c541 := c_eq tr_7v200 lit_0 c541
        exact hp _ _ _  lit_m1 hI 
set_option maxHeartbeats 4000000 in
set_option maxRecDepth 100000 in
theorem sX11_made_25 {T W H P S M : Int} {post : Int32 → Wd → Prop} {w : Wd}  (hp : ∀ (r : Int32) (zr : Int), Ti r zr → post r w) : ∀ (n : Nat) (x1 : Int32) (x2 : Int32) (x3 : Int32) (x4 : Int32) (zx1 : Int) (zx2 : Int) (zx3 : Int) (zx4 : Int), Ti x1 zx1 → Ti x2 zx2 → Ti x3 zx3 → Ti x4 zx4 → IM T W H P S M w → (0 ≤ zx4 ∧ zx4 ≤ 24) → (25 - zx4) < (n : Int) → pX11_made_25   post  n x1 x2 x3 x4 w := by
  intro n
  induction n with
  | zero =>
    intro x1 x2 x3 x4 zx1 zx2 zx3 zx4  tx1 tx2 tx3 tx4 hI h0 hm
    exact absurd hm (by omega)
  | succ n ih =>
    intro x1 x2 x3 x4 zx1 zx2 zx3 zx4  tx1 tx2 tx3 tx4 hI h0 hm
    unfold pX11_made_25
    have hk := im_k hI
    obtain ⟨z542, t543⟩ := t_any (w.2.1 341 (216 : Int32).toNatClampNeg)
    have f544 := img_216 hI t543
    refine ⟨fun c545 => ?_, fun c545 => ?_⟩
    · replace c545 := c_le t543 tx4 c545
      exact hp _ _ tx3 
    · replace c545 := c_nle t543 tx4 c545
      refine sX11_rowOf   (hI := hI) (tx1 := tx4) (h0 := (by omega)) (hp := fun r_2v202 zr_2v202 tr_2v202 p546 => ?_)
      refine sX11_turnedRow   (hI := hI) (tx1 := tr_2v202)  (hp := fun r_4v209 zr_4v209 tr_4v209 => ?_)
      obtain ⟨z547, t548⟩ := t_any (x1 &&& r_4v209)
      refine ⟨fun c549 => ?_, fun c549 => ?_⟩
      · replace c549 := c_neq t548 tx1 c549
        unfold pX11_made_76
        obtain ⟨z550, t551, f552⟩ := t_add tx4 lit_1
        first | replace f552 := f552 (by omega) | clear f552
        intro x4_1v217 ex4_1v217
        have tx4_1v217 : Ti x4_1v217 z550 := by rw [ex4_1v217]; exact t551
        exact ih _ _ _ _ _ _ _ _  tx1 tx2 tx3 tx4_1v217 hI (by omega) (by omega)
      · replace c549 := c_eq t548 tx1 c549
        obtain ⟨z553, t554, f555⟩ := t_sub tr_4v209 tx1
        first | replace f555 := f555 (by omega) | clear f555
        refine sX11_bitsOf   (hI := hI) (tx0 := t554)  (hp := fun r_7v214 zr_7v214 tr_7v214 => ?_)
        refine ⟨fun c556 => ?_, fun c556 => ?_⟩
        · replace c556 := c_lt tx2 tr_7v214 c556
          unfold pX11_made_76
          obtain ⟨z557, t558, f559⟩ := t_add tx4 lit_1
          first | replace f559 := f559 (by omega) | clear f559
          intro x4_1v219 ex4_1v219
          have tx4_1v219 : Ti x4_1v219 z557 := by rw [ex4_1v219]; exact t558
          exact ih _ _ _ _ _ _ _ _  tx1 tx2 tx3 tx4_1v219 hI (by omega) (by omega)
        · replace c556 := c_nlt tx2 tr_7v214 c556
          obtain ⟨z560, t561, f562⟩ := t_shlW hI tx4
          first | replace f562 := f562 (by omega) | clear f562
          obtain ⟨z563, t564, f565⟩ := t_orW hI tx3 t561
          first | replace f565 := f565 (by omega) | clear f565
          intro x3_10v218 ex3_10v218
          have tx3_10v218 : Ti x3_10v218 z563 := by rw [ex3_10v218]; exact t564
          unfold pX11_made_76
          obtain ⟨z566, t567, f568⟩ := t_add tx4 lit_1
          first | replace f568 := f568 (by omega) | clear f568
          intro x4_1v220 ex4_1v220
          have tx4_1v220 : Ti x4_1v220 z566 := by rw [ex4_1v220]; exact t567
          exact ih _ _ _ _ _ _ _ _  tx1 tx2 tx3_10v218 tx4_1v220 hI (by omega) (by omega)
set_option maxHeartbeats 4000000 in
set_option maxRecDepth 100000 in
theorem sX11_made {T W H P S M : Int} {post : Int32 → Wd → Prop} {x1 : Int32} {zx1 : Int} {x2 : Int32} {zx2 : Int} {w : Wd}  (tx1 : Ti x1 zx1) (tx2 : Ti x2 zx2) (hI : IM T W H P S M w)  (hp : ∀ (r : Int32) (zr : Int), Ti r zr → post r w) : pX11_made   post  x1 x2 w := by
  unfold pX11_made
  have hk := im_k hI
  refine sX11_isRow   (hI := hI) (tx1 := tx1)  (hp := fun r_1v221 zr_1v221 tr_1v221 p569 => ?_)
  refine ⟨fun c570 => ?_, fun c570 => ?_⟩
  · replace c570 := c_eq tr_1v221 lit_0 c570
    exact hp _ _ lit_m1 
  · replace c570 := c_neq tr_1v221 lit_0 c570
    refine sX11_isIn   (hI := hI) (tx0 := tx2) (tx1 := lit_0) (tx2 := lit_12)  (hp := fun r_4v225 zr_4v225 tr_4v225 p571 p572 => ?_)
    refine ⟨fun c573 => ?_, fun c573 => ?_⟩
    · replace c573 := c_neq tr_4v225 lit_0 c573
      exact ⟨70000, sX11_made_25    (hp := hp) 70000 _ _ _ _ _ _ _ _  tx1 tx2 lit_0 lit_0 hI (by omega) (by omega)⟩
    · replace c573 := c_eq tr_4v225 lit_0 c573
      exact hp _ _ lit_m1 
set_option maxHeartbeats 4000000 in
set_option maxRecDepth 100000 in
theorem sX11_apart {T W H P S M : Int} {post : Int32 → Wd → Prop} {x1 : Int32} {zx1 : Int} {x2 : Int32} {zx2 : Int} {x3 : Int32} {zx3 : Int} {w : Wd}  (tx1 : Ti x1 zx1) (tx2 : Ti x2 zx2) (tx3 : Ti x3 zx3) (hI : IM T W H P S M w)  (hp : ∀ (r : Int32) (zr : Int), Ti r zr → post r w) : pX11_apart   post  x1 x2 x3 w := by
  unfold pX11_apart
  have hk := im_k hI
  refine sX11_isSeal   (hI := hI) (tx1 := tx1)  (hp := fun r_1v227 zr_1v227 tr_1v227 p574 => ?_)
  refine ⟨fun c575 => ?_, fun c575 => ?_⟩
  · replace c575 := c_eq tr_1v227 lit_0 c575
    exact hp _ _ lit_m1 
  · replace c575 := c_neq tr_1v227 lit_0 c575
    refine sX11_isSeal   (hI := hI) (tx1 := tx2)  (hp := fun r_4v243 zr_4v243 tr_4v243 p576 => ?_)
    refine ⟨fun c577 => ?_, fun c577 => ?_⟩
    · replace c577 := c_eq tr_4v243 lit_0 c577
      exact hp _ _ lit_m1 
    · replace c577 := c_neq tr_4v243 lit_0 c577
      refine sX11_rowOf   (hI := hI) (tx1 := tx1) (h0 := (by omega)) (hp := fun r_7v257 zr_7v257 tr_7v257 p578 => ?_)
      refine ⟨fun c579 => ?_, fun c579 => ?_⟩
      · replace c579 := c_eq tx3 lit_0 c579
        refine sX11_rowOf   (hI := hI) (tx1 := tx2) (h0 := (by omega)) (hp := fun r_10v269 zr_10v269 tr_10v269 p580 => ?_)
        obtain ⟨z581, t582⟩ := t_any (r_7v257 ^^^ r_10v269)
        refine sX11_bitsOf   (hI := hI) (tx0 := t582)  (hp := fun r_12v279 zr_12v279 tr_12v279 => ?_)
        exact hp _ _ tr_12v279 
      · replace c579 := c_neq tx3 lit_0 c579
        refine sX11_rowOf   (hI := hI) (tx1 := tx2) (h0 := (by omega)) (hp := fun r_14v273 zr_14v273 tr_14v273 p583 => ?_)
        refine sX11_turnedRow   (hI := hI) (tx1 := tr_14v273)  (hp := fun r_16v281 zr_16v281 tr_16v281 => ?_)
        obtain ⟨z584, t585⟩ := t_any (r_7v257 ^^^ r_16v281)
        refine sX11_bitsOf   (hI := hI) (tx0 := t585)  (hp := fun r_18v285 zr_18v285 tr_18v285 => ?_)
        exact hp _ _ tr_18v285 
set_option maxHeartbeats 4000000 in
set_option maxRecDepth 100000 in
theorem sX11_heats_32 {T W H P S M : Int} {post : Int32 → Wd → Prop}   (hp : ∀ (r : Int32) (zr : Int) (w9 : Wd), Ti r zr → IM T W H P S M w9 → post r w9) : ∀ (n : Nat) (x1 : Int32) (x2 : Int32) (x3 : Int32) (x4 : Int32) (x5 : Int32) (zx1 : Int) (zx2 : Int) (zx3 : Int) (zx4 : Int) (zx5 : Int) (w : Wd), Ti x1 zx1 → Ti x2 zx2 → Ti x3 zx3 → Ti x4 zx4 → Ti x5 zx5 → IM T W H P S M w → (0 ≤ zx5 ∧ zx5 ≤ 10) → (0 ≤ zx1 ∧ zx1 < S) → (0 ≤ zx2 ∧ zx2 < H) → (11 - zx5) < (n : Int) → pX11_heats_32   post  n x1 x2 x3 x4 x5 w := by
  intro n
  induction n with
  | zero =>
    intro x1 x2 x3 x4 x5 zx1 zx2 zx3 zx4 zx5 w tx1 tx2 tx3 tx4 tx5 hI h0 h1 h2 hm
    exact absurd hm (by omega)
  | succ n ih =>
    intro x1 x2 x3 x4 x5 zx1 zx2 zx3 zx4 zx5 w tx1 tx2 tx3 tx4 tx5 hI h0 h1 h2 hm
    unfold pX11_heats_32
    have hk := im_k hI
    refine ⟨fun c586 => ?_, fun c586 => ?_⟩
    · replace c586 := c_lt lit_9 tx5 c586
      exact hp _ _ _  tx4 hI 
    · replace c586 := c_nlt lit_9 tx5 c586
      refine sX11_rowOf   (hI := hI) (tx1 := tx1) (h0 := (by omega)) (hp := fun r_2v287 zr_2v287 tr_2v287 p587 => ?_)
      refine sX11_castOf   (hI := hI) (tx1 := tr_2v287) (tx2 := tx2) (tx3 := tx5) (tx4 := lit_0) (h0 := (by omega)) (hp := fun r_4v292 zr_4v292 w_5v293  tr_4v292 hIw_5v293 p588 => ?_)
      refine ⟨fun c589 => ?_, fun c589 => ?_⟩
      · replace c589 := c_neq tr_4v292 tx3 c589
        unfold pX11_heats_65
        obtain ⟨z590, t591, f592⟩ := t_add tx5 lit_1
        first | replace f592 := f592 (by omega) | clear f592
        intro x5_1v295 ex5_1v295
        have tx5_1v295 : Ti x5_1v295 z590 := by rw [ex5_1v295]; exact t591
        exact ih _ _ _ _ _ _ _ _ _ _ _ tx1 tx2 tx3 tx4 tx5_1v295 hIw_5v293 (by omega) (by omega) (by omega) (by omega)
      · replace c589 := c_eq tr_4v292 tx3 c589
        obtain ⟨z593, t594, f595⟩ := t_shlW hIw_5v293 tx5
        first | replace f595 := f595 (by omega) | clear f595
        obtain ⟨z596, t597, f598⟩ := t_orW hIw_5v293 tx4 t594
        first | replace f598 := f598 (by omega) | clear f598
        intro x4_7v294 ex4_7v294
        have tx4_7v294 : Ti x4_7v294 z596 := by rw [ex4_7v294]; exact t597
        unfold pX11_heats_65
        obtain ⟨z599, t600, f601⟩ := t_add tx5 lit_1
        first | replace f601 := f601 (by omega) | clear f601
        intro x5_1v296 ex5_1v296
        have tx5_1v296 : Ti x5_1v296 z599 := by rw [ex5_1v296]; exact t600
        exact ih _ _ _ _ _ _ _ _ _ _ _ tx1 tx2 tx3 tx4_7v294 tx5_1v296 hIw_5v293 (by omega) (by omega) (by omega) (by omega)
set_option maxHeartbeats 4000000 in
set_option maxRecDepth 100000 in
theorem sX11_heats {T W H P S M : Int} {post : Int32 → Wd → Prop} {x1 : Int32} {zx1 : Int} {x2 : Int32} {zx2 : Int} {x3 : Int32} {zx3 : Int} {w : Wd}  (tx1 : Ti x1 zx1) (tx2 : Ti x2 zx2) (tx3 : Ti x3 zx3) (hI : IM T W H P S M w)  (hp : ∀ (r : Int32) (zr : Int) (w9 : Wd), Ti r zr → IM T W H P S M w9 → post r w9) : pX11_heats   post  x1 x2 x3 w := by
  unfold pX11_heats
  have hk := im_k hI
  refine sX11_isSeal   (hI := hI) (tx1 := tx1)  (hp := fun r_1v297 zr_1v297 tr_1v297 p602 => ?_)
  refine ⟨fun c603 => ?_, fun c603 => ?_⟩
  · replace c603 := c_eq tr_1v297 lit_0 c603
    exact hp _ _ _  lit_m1 hI 
  · replace c603 := c_neq tr_1v297 lit_0 c603
    refine sX11_isHand   (hI := hI) (tx1 := tx2)  (hp := fun r_4v303 zr_4v303 tr_4v303 p604 => ?_)
    refine ⟨fun c605 => ?_, fun c605 => ?_⟩
    · replace c605 := c_eq tr_4v303 lit_0 c605
      exact hp _ _ _  lit_m1 hI 
    · replace c605 := c_neq tr_4v303 lit_0 c605
      refine sX11_isRow   (hI := hI) (tx1 := tx3)  (hp := fun r_7v307 zr_7v307 tr_7v307 p606 => ?_)
      refine ⟨fun c607 => ?_, fun c607 => ?_⟩
      · replace c607 := c_neq tr_7v307 lit_0 c607
        exact ⟨70000, sX11_heats_32    (hp := hp) 70000 _ _ _ _ _ _ _ _ _ _ _ tx1 tx2 tx3 lit_0 lit_0 hI (by omega) (by omega) (by omega) (by omega)⟩
      · replace c607 := c_eq tr_7v307 lit_0 c607
        exact hp _ _ _  lit_m1 hI 
set_option maxHeartbeats 4000000 in
set_option maxRecDepth 100000 in
theorem sX11_canCast {T W H P S M : Int} {post : Int32 → Wd → Prop} {x1 : Int32} {zx1 : Int} {x2 : Int32} {zx2 : Int} {x3 : Int32} {zx3 : Int} {w : Wd}  (tx1 : Ti x1 zx1) (tx2 : Ti x2 zx2) (tx3 : Ti x3 zx3) (hI : IM T W H P S M w)  (hp : ∀ (r : Int32) (zr : Int), Ti r zr → ((zr = 0 ∨ (0 ≤ zx1 ∧ zx1 < S ∧ 0 ≤ zx2 ∧ zx2 < H ∧ 0 ≤ zx3 ∧ zx3 ≤ 9))) → post r w) : pX11_canCast   post  x1 x2 x3 w := by
  unfold pX11_canCast
  have hk := im_k hI
  refine sX11_isSeal   (hI := hI) (tx1 := tx1)  (hp := fun r_1v309 zr_1v309 tr_1v309 p608 => ?_)
  refine ⟨fun c609 => ?_, fun c609 => ?_⟩
  · replace c609 := c_eq tr_1v309 lit_0 c609
    exact hp _ _ lit_0 (by omega)
  · replace c609 := c_neq tr_1v309 lit_0 c609
    refine sX11_isHand   (hI := hI) (tx1 := tx2)  (hp := fun r_4v315 zr_4v315 tr_4v315 p610 => ?_)
    refine ⟨fun c611 => ?_, fun c611 => ?_⟩
    · replace c611 := c_eq tr_4v315 lit_0 c611
      exact hp _ _ lit_0 (by omega)
    · replace c611 := c_neq tr_4v315 lit_0 c611
      refine sX11_isHeat   (hI := hI) (tx0 := tx3)  (hp := fun r_7v319 zr_7v319 tr_7v319 p612 => ?_)
      refine ⟨fun c613 => ?_, fun c613 => ?_⟩
      · replace c613 := c_eq tr_7v319 lit_0 c613
        exact hp _ _ lit_0 (by omega)
      · replace c613 := c_neq tr_7v319 lit_0 c613
        exact hp _ _ lit_1 (by omega)
set_option maxHeartbeats 4000000 in
set_option maxRecDepth 100000 in
theorem sX11_luckOf_6 {T W H P S M : Int} {post : Int32 → Wd → Prop}   (hp : ∀ (r : Int32) (zr : Int) (w9 : Wd), Ti r zr → IM T W H P S M w9 → post r w9) : ∀ (n : Nat) (x1 : Int32) (x2 : Int32) (x3 : Int32) (x4 : Int32) (x5 : Int32) (x6 : Int32) (zx1 : Int) (zx2 : Int) (zx3 : Int) (zx4 : Int) (zx5 : Int) (zx6 : Int) (w : Wd), Ti x1 zx1 → Ti x2 zx2 → Ti x3 zx3 → Ti x4 zx4 → Ti x5 zx5 → Ti x6 zx6 → IM T W H P S M w → (0 ≤ zx6 ∧ zx6 ≤ 100) → (0 ≤ zx1 ∧ zx1 < S) → (0 ≤ zx2 ∧ zx2 < H) → (101 - zx6) < (n : Int) → pX11_luckOf_6   post  n x1 x2 x3 x4 x5 x6 w := by
  intro n
  induction n with
  | zero =>
    intro x1 x2 x3 x4 x5 x6 zx1 zx2 zx3 zx4 zx5 zx6 w tx1 tx2 tx3 tx4 tx5 tx6 hI h0 h1 h2 hm
    exact absurd hm (by omega)
  | succ n ih =>
    intro x1 x2 x3 x4 x5 x6 zx1 zx2 zx3 zx4 zx5 zx6 w tx1 tx2 tx3 tx4 tx5 tx6 hI h0 h1 h2 hm
    unfold pX11_luckOf_6
    have hk := im_k hI
    refine ⟨fun c614 => ?_, fun c614 => ?_⟩
    · replace c614 := c_le lit_100 tx6 c614
      exact hp _ _ _  tx5 hI 
    · replace c614 := c_nle lit_100 tx6 c614
      refine sX11_rowOf   (hI := hI) (tx1 := tx1) (h0 := (by omega)) (hp := fun r_2v321 zr_2v321 tr_2v321 p615 => ?_)
      refine sX11_castOf   (hI := hI) (tx1 := tr_2v321) (tx2 := tx2) (tx3 := tx3) (tx4 := tx6) (h0 := (by omega)) (hp := fun r_4v325 zr_4v325 w_5v326  tr_4v325 hIw_5v326 p616 => ?_)
      refine ⟨fun c617 => ?_, fun c617 => ?_⟩
      · replace c617 := c_neq tr_4v325 tx4 c617
        unfold pX11_luckOf_38
        obtain ⟨z618, t619, f620⟩ := t_add tx5 lit_0
        first | replace f620 := f620 (by omega) | clear f620
        intro x5_1v327 ex5_1v327
        have tx5_1v327 : Ti x5_1v327 z618 := by rw [ex5_1v327]; exact t619
        obtain ⟨z621, t622, f623⟩ := t_add tx6 lit_1
        first | replace f623 := f623 (by omega) | clear f623
        intro x6_2v328 ex6_2v328
        have tx6_2v328 : Ti x6_2v328 z621 := by rw [ex6_2v328]; exact t622
        exact ih _ _ _ _ _ _ _ _ _ _ _ _ _ tx1 tx2 tx3 tx4 tx5_1v327 tx6_2v328 hIw_5v326 (by omega) (by omega) (by omega) (by omega)
      · replace c617 := c_eq tr_4v325 tx4 c617
        unfold pX11_luckOf_38
        obtain ⟨z624, t625, f626⟩ := t_add tx5 lit_1
        first | replace f626 := f626 (by omega) | clear f626
        intro x5_1v329 ex5_1v329
        have tx5_1v329 : Ti x5_1v329 z624 := by rw [ex5_1v329]; exact t625
        obtain ⟨z627, t628, f629⟩ := t_add tx6 lit_1
        first | replace f629 := f629 (by omega) | clear f629
        intro x6_2v330 ex6_2v330
        have tx6_2v330 : Ti x6_2v330 z627 := by rw [ex6_2v330]; exact t628
        exact ih _ _ _ _ _ _ _ _ _ _ _ _ _ tx1 tx2 tx3 tx4 tx5_1v329 tx6_2v330 hIw_5v326 (by omega) (by omega) (by omega) (by omega)
set_option maxHeartbeats 4000000 in
set_option maxRecDepth 100000 in
theorem sX11_luckOf {T W H P S M : Int} {post : Int32 → Wd → Prop} {x1 : Int32} {zx1 : Int} {x2 : Int32} {zx2 : Int} {x3 : Int32} {zx3 : Int} {x4 : Int32} {zx4 : Int} {w : Wd}  (tx1 : Ti x1 zx1) (tx2 : Ti x2 zx2) (tx3 : Ti x3 zx3) (tx4 : Ti x4 zx4) (hI : IM T W H P S M w) (h0 : 0 ≤ zx1 ∧ zx1 < S) (h1 : 0 ≤ zx2 ∧ zx2 < H) (hp : ∀ (r : Int32) (zr : Int) (w9 : Wd), Ti r zr → IM T W H P S M w9 → post r w9) : pX11_luckOf   post  x1 x2 x3 x4 w := by
  unfold pX11_luckOf
  have hk := im_k hI
  exact ⟨70000, sX11_luckOf_6    (hp := hp) 70000 _ _ _ _ _ _ _ _ _ _ _ _ _ tx1 tx2 tx3 tx4 lit_0 lit_0 hI (by omega) (by omega) (by omega) (by omega)⟩
set_option maxHeartbeats 4000000 in
set_option maxRecDepth 100000 in
theorem sX11_luck {T W H P S M : Int} {post : Int32 → Wd → Prop} {x1 : Int32} {zx1 : Int} {x2 : Int32} {zx2 : Int} {x3 : Int32} {zx3 : Int} {x4 : Int32} {zx4 : Int} {w : Wd}  (tx1 : Ti x1 zx1) (tx2 : Ti x2 zx2) (tx3 : Ti x3 zx3) (tx4 : Ti x4 zx4) (hI : IM T W H P S M w)  (hp : ∀ (r : Int32) (zr : Int) (w9 : Wd), Ti r zr → IM T W H P S M w9 → post r w9) : pX11_luck   post  x1 x2 x3 x4 w := by
  unfold pX11_luck
  have hk := im_k hI
  refine sX11_canCast   (hI := hI) (tx1 := tx1) (tx2 := tx2) (tx3 := tx3)  (hp := fun r_1v331 zr_1v331 tr_1v331 p630 => ?_)
  refine ⟨fun c631 => ?_, fun c631 => ?_⟩
  · replace c631 := c_eq tr_1v331 lit_0 c631
    exact hp _ _ _  lit_m1 hI 
  · replace c631 := c_neq tr_1v331 lit_0 c631
    refine sX11_isRow   (hI := hI) (tx1 := tx4)  (hp := fun r_4v337 zr_4v337 tr_4v337 p632 => ?_)
    refine ⟨fun c633 => ?_, fun c633 => ?_⟩
    · replace c633 := c_eq tr_4v337 lit_0 c633
      exact hp _ _ _  lit_m1 hI 
    · replace c633 := c_neq tr_4v337 lit_0 c633
      refine sX11_luckOf   (hI := hI) (tx1 := tx1) (tx2 := tx2) (tx3 := tx3) (tx4 := tx4) (h0 := (by omega)) (h1 := (by omega)) (hp := fun r_7v341 zr_7v341 w_8v342  tr_7v341 hIw_8v342  => ?_)
      exact hp _ _ _  tr_7v341 hIw_8v342 
set_option maxHeartbeats 4000000 in
set_option maxRecDepth 100000 in
theorem sX11_likely_80 {T W H P S M : Int} {k67 : Int32 → Int32 → Int32 → Int32 → Wd → Prop} {M67 : Int} {post : Int32 → Wd → Prop}  (hk67 : ∀ (x4 : Int32) (x5 : Int32) (x6 : Int32) (x7 : Int32) (zx4 : Int) (zx5 : Int) (zx6 : Int) (zx7 : Int) (w : Wd), Ti x4 zx4 → Ti x5 zx5 → Ti x6 zx6 → Ti x7 zx7 → IM T W H P S M w → (0 ≤ zx7 ∧ zx7 ≤ 100) → (101 - zx7) < M67 → k67 x4 x5 x6 x7 w) (hp : ∀ (r : Int32) (zr : Int) (w9 : Wd), Ti r zr → IM T W H P S M w9 → post r w9) : ∀ (n : Nat) (x4 : Int32) (x5 : Int32) (x6 : Int32) (x7 : Int32) (x8 : Int32) (x9 : Int32) (zx4 : Int) (zx5 : Int) (zx6 : Int) (zx7 : Int) (zx8 : Int) (zx9 : Int) (w : Wd), Ti x4 zx4 → Ti x5 zx5 → Ti x6 zx6 → Ti x7 zx7 → Ti x8 zx8 → Ti x9 zx9 → IM T W H P S M w → (0 ≤ zx9 ∧ zx9 ≤ 100) → (0 ≤ zx7 ∧ zx7 ≤ 99) → (0 ≤ zx7 ∧ zx7 ≤ 100) → ((101 - zx7) ≤ M67) → (101 - zx9) < (n : Int) → pX11_likely_80 k67  post  n x4 x5 x6 x7 x8 x9 w := by
  intro n
  induction n with
  | zero =>
    intro x4 x5 x6 x7 x8 x9 zx4 zx5 zx6 zx7 zx8 zx9 w tx4 tx5 tx6 tx7 tx8 tx9 hI h0 h1 h2 h3 hm
    exact absurd hm (by omega)
  | succ n ih =>
    intro x4 x5 x6 x7 x8 x9 zx4 zx5 zx6 zx7 zx8 zx9 w tx4 tx5 tx6 tx7 tx8 tx9 hI h0 h1 h2 h3 hm
    unfold pX11_likely_80
    have hk := im_k hI
    refine ⟨fun c634 => ?_, fun c634 => ?_⟩
    · replace c634 := c_le lit_100 tx9 c634
      refine ⟨fun c635 => ?_, fun c635 => ?_⟩
      · replace c635 := c_lt tx8 tx6 c635
        unfold pX11_likely_162
        obtain ⟨z636, t637, f638⟩ := t_add tx7 lit_1
        first | replace f638 := f638 (by omega) | clear f638
        intro x7_1v343 ex7_1v343
        have tx7_1v343 : Ti x7_1v343 z636 := by rw [ex7_1v343]; exact t637
        exact hk67 _ _ _ _ _ _ _ _ _ tx4 tx5 tx6 tx7_1v343 hI (by omega) (by omega)
      · replace c635 := c_nlt tx8 tx6 c635
        refine ⟨fun c639 => ?_, fun c639 => ?_⟩
        · replace c639 := c_neq tx8 tx6 c639
          unfold pX11_likely_149
          refine ⟨vp_of tx7 (by omega) (by omega), ?_⟩
          obtain ⟨z640, t641⟩ := t_any (w.2.1 345 x7.toNatClampNeg)
          intro x5_1v344 ex5_1v344
          have tx5_1v344 : Ti x5_1v344 z640 := by rw [ex5_1v344]; exact t641
          unfold pX11_likely_162
          obtain ⟨z643, t644, f645⟩ := t_add tx7 lit_1
          first | replace f645 := f645 (by omega) | clear f645
          intro x7_1v345 ex7_1v345
          have tx7_1v345 : Ti x7_1v345 z643 := by rw [ex7_1v345]; exact t644
          exact hk67 _ _ _ _ _ _ _ _ _ tx4 tx5_1v344 tx8 tx7_1v345 hI (by omega) (by omega)
        · replace c639 := c_eq tx8 tx6 c639
          refine ⟨vp_of tx7 (by omega) (by omega), ?_⟩
          obtain ⟨z646, t647⟩ := t_any (w.2.1 345 x7.toNatClampNeg)
          refine ⟨fun c649 => ?_, fun c649 => ?_⟩
          · replace c649 := c_lt t647 tx5 c649
            unfold pX11_likely_149
            refine ⟨vp_of tx7 (by omega) (by omega), ?_⟩
            intro x5_1v346 ex5_1v346
            have tx5_1v346 : Ti x5_1v346 z646 := by rw [ex5_1v346]; exact t647
            unfold pX11_likely_162
            obtain ⟨z650, t651, f652⟩ := t_add tx7 lit_1
            first | replace f652 := f652 (by omega) | clear f652
            intro x7_1v347 ex7_1v347
            have tx7_1v347 : Ti x7_1v347 z650 := by rw [ex7_1v347]; exact t651
            exact hk67 _ _ _ _ _ _ _ _ _ tx4 tx5_1v346 tx8 tx7_1v347 hI (by omega) (by omega)
          · replace c649 := c_nlt t647 tx5 c649
            unfold pX11_likely_162
            obtain ⟨z653, t654, f655⟩ := t_add tx7 lit_1
            first | replace f655 := f655 (by omega) | clear f655
            intro x7_1v348 ex7_1v348
            have tx7_1v348 : Ti x7_1v348 z653 := by rw [ex7_1v348]; exact t654
            exact hk67 _ _ _ _ _ _ _ _ _ tx4 tx5 tx6 tx7_1v348 hI (by omega) (by omega)
    · replace c634 := c_nle lit_100 tx9 c634
      refine ⟨vp_of tx9 (by omega) (by omega), ?_⟩
      refine ⟨vp_of tx7 (by omega) (by omega), ?_⟩
      obtain ⟨z656, t657⟩ := t_any (w.2.1 345 x9.toNatClampNeg)
      obtain ⟨z659, t660⟩ := t_any (w.2.1 345 x7.toNatClampNeg)
      refine ⟨fun c662 => ?_, fun c662 => ?_⟩
      · replace c662 := c_neq t657 t660 c662
        unfold pX11_likely_111
        obtain ⟨z663, t664, f665⟩ := t_add tx8 lit_0
        first | replace f665 := f665 (by omega) | clear f665
        intro x8_1v349 ex8_1v349
        have tx8_1v349 : Ti x8_1v349 z663 := by rw [ex8_1v349]; exact t664
        obtain ⟨z666, t667, f668⟩ := t_add tx9 lit_1
        first | replace f668 := f668 (by omega) | clear f668
        intro x9_2v350 ex9_2v350
        have tx9_2v350 : Ti x9_2v350 z666 := by rw [ex9_2v350]; exact t667
        exact ih _ _ _ _ _ _ _ _ _ _ _ _ _ tx4 tx5 tx6 tx7 tx8_1v349 tx9_2v350 hI (by omega) (by omega) (by omega) (by omega) (by omega)
      · replace c662 := c_eq t657 t660 c662
        unfold pX11_likely_111
        obtain ⟨z669, t670, f671⟩ := t_add tx8 lit_1
        first | replace f671 := f671 (by omega) | clear f671
        intro x8_1v351 ex8_1v351
        have tx8_1v351 : Ti x8_1v351 z669 := by rw [ex8_1v351]; exact t670
        obtain ⟨z672, t673, f674⟩ := t_add tx9 lit_1
        first | replace f674 := f674 (by omega) | clear f674
        intro x9_2v352 ex9_2v352
        have tx9_2v352 : Ti x9_2v352 z672 := by rw [ex9_2v352]; exact t673
        exact ih _ _ _ _ _ _ _ _ _ _ _ _ _ tx4 tx5 tx6 tx7 tx8_1v351 tx9_2v352 hI (by omega) (by omega) (by omega) (by omega) (by omega)
set_option maxHeartbeats 4000000 in
set_option maxRecDepth 100000 in
theorem sX11_likely_67 {T W H P S M : Int} {post : Int32 → Wd → Prop}   (hp : ∀ (r : Int32) (zr : Int) (w9 : Wd), Ti r zr → IM T W H P S M w9 → post r w9) : ∀ (n : Nat) (x4 : Int32) (x5 : Int32) (x6 : Int32) (x7 : Int32) (zx4 : Int) (zx5 : Int) (zx6 : Int) (zx7 : Int) (w : Wd), Ti x4 zx4 → Ti x5 zx5 → Ti x6 zx6 → Ti x7 zx7 → IM T W H P S M w → (0 ≤ zx7 ∧ zx7 ≤ 100) → (101 - zx7) < (n : Int) → pX11_likely_67   post  n x4 x5 x6 x7 w := by
  intro n
  induction n with
  | zero =>
    intro x4 x5 x6 x7 zx4 zx5 zx6 zx7 w tx4 tx5 tx6 tx7 hI h0 hm
    exact absurd hm (by omega)
  | succ n ih =>
    intro x4 x5 x6 x7 zx4 zx5 zx6 zx7 w tx4 tx5 tx6 tx7 hI h0 hm
    unfold pX11_likely_67
    have hk := im_k hI
    refine ⟨fun c675 => ?_, fun c675 => ?_⟩
    · replace c675 := c_le lit_100 tx7 c675
      refine ⟨fun c676 => ?_, fun c676 => ?_⟩
      · replace c676 := c_neq tx4 lit_0 c676
        exact hp _ _ _  tx6 hI 
      · replace c676 := c_eq tx4 lit_0 c676
        exact hp _ _ _  tx5 hI 
    · replace c675 := c_nle lit_100 tx7 c675
      exact ⟨70000, sX11_likely_80  (M67 := (n : Int)) (hk67 := ih)  (hp := hp) 70000 _ _ _ _ _ _ _ _ _ _ _ _ _ tx4 tx5 tx6 tx7 lit_0 lit_0 hI (by omega) (by omega) (by omega) (by omega) (by omega)⟩
set_option maxHeartbeats 4000000 in
set_option maxRecDepth 100000 in
theorem sX11_likely_25 {T W H P S M : Int} {post : Int32 → Wd → Prop}   (hp : ∀ (r : Int32) (zr : Int) (w9 : Wd), Ti r zr → IM T W H P S M w9 → post r w9) : ∀ (n : Nat) (x1 : Int32) (x2 : Int32) (x3 : Int32) (x4 : Int32) (x5 : Int32) (zx1 : Int) (zx2 : Int) (zx3 : Int) (zx4 : Int) (zx5 : Int) (w : Wd), Ti x1 zx1 → Ti x2 zx2 → Ti x3 zx3 → Ti x4 zx4 → Ti x5 zx5 → IM T W H P S M w → (0 ≤ zx5 ∧ zx5 ≤ 100) → (0 ≤ zx1 ∧ zx1 < S) → (0 ≤ zx2 ∧ zx2 < H) → (101 - zx5) < (n : Int) → pX11_likely_25   post  n x1 x2 x3 x4 x5 w := by
  intro n
  induction n with
  | zero =>
    intro x1 x2 x3 x4 x5 zx1 zx2 zx3 zx4 zx5 w tx1 tx2 tx3 tx4 tx5 hI h0 h1 h2 hm
    exact absurd hm (by omega)
  | succ n ih =>
    intro x1 x2 x3 x4 x5 zx1 zx2 zx3 zx4 zx5 w tx1 tx2 tx3 tx4 tx5 hI h0 h1 h2 hm
    unfold pX11_likely_25
    have hk := im_k hI
    refine ⟨fun c677 => ?_, fun c677 => ?_⟩
    · replace c677 := c_le lit_100 tx5 c677
      exact ⟨70000, sX11_likely_67    (hp := hp) 70000 _ _ _ _ _ _ _ _ _ tx4 lit_m1 lit_0 lit_0 hI (by omega) (by omega)⟩
    · replace c677 := c_nle lit_100 tx5 c677
      refine sX11_rowOf   (hI := hI) (tx1 := tx1) (h0 := (by omega)) (hp := fun r_2v353 zr_2v353 tr_2v353 p678 => ?_)
      refine sX11_castOf   (hI := hI) (tx1 := tr_2v353) (tx2 := tx2) (tx3 := tx3) (tx4 := tx5) (h0 := (by omega)) (hp := fun r_4v359 zr_4v359 w_5v360  tr_4v359 hIw_5v360 p679 => ?_)
      refine ⟨vp_of tx5 (by omega) (by omega), ?_⟩
      intro w_6v361 ew_6v361
      have hIw_6v361 := ims_A hIw_5v360 ew_6v361 (by decide)
      obtain ⟨z680, t681, f682⟩ := t_add tx5 lit_1
      first | replace f682 := f682 (by omega) | clear f682
      intro x5_7v362 ex5_7v362
      have tx5_7v362 : Ti x5_7v362 z680 := by rw [ex5_7v362]; exact t681
      exact ih _ _ _ _ _ _ _ _ _ _ _ tx1 tx2 tx3 tx4 tx5_7v362 hIw_6v361 (by omega) (by omega) (by omega) (by omega)
set_option maxHeartbeats 4000000 in
set_option maxRecDepth 100000 in
theorem sX11_likely {T W H P S M : Int} {post : Int32 → Wd → Prop} {x1 : Int32} {zx1 : Int} {x2 : Int32} {zx2 : Int} {x3 : Int32} {zx3 : Int} {x4 : Int32} {zx4 : Int} {w : Wd}  (tx1 : Ti x1 zx1) (tx2 : Ti x2 zx2) (tx3 : Ti x3 zx3) (tx4 : Ti x4 zx4) (hI : IM T W H P S M w)  (hp : ∀ (r : Int32) (zr : Int) (w9 : Wd), Ti r zr → IM T W H P S M w9 → post r w9) : pX11_likely   post  x1 x2 x3 x4 w := by
  unfold pX11_likely
  have hk := im_k hI
  refine sX11_canCast   (hI := hI) (tx1 := tx1) (tx2 := tx2) (tx3 := tx3)  (hp := fun r_1v363 zr_1v363 tr_1v363 p683 => ?_)
  refine ⟨fun c684 => ?_, fun c684 => ?_⟩
  · replace c684 := c_eq tr_1v363 lit_0 c684
    exact hp _ _ _  lit_m1 hI 
  · replace c684 := c_neq tr_1v363 lit_0 c684
    refine sX11_isIn   (hI := hI) (tx0 := tx4) (tx1 := lit_0) (tx2 := lit_1)  (hp := fun r_4v367 zr_4v367 tr_4v367 p685 p686 => ?_)
    refine ⟨fun c687 => ?_, fun c687 => ?_⟩
    · replace c687 := c_neq tr_4v367 lit_0 c687
      exact ⟨70000, sX11_likely_25    (hp := hp) 70000 _ _ _ _ _ _ _ _ _ _ _ tx1 tx2 tx3 tx4 lit_0 hI (by omega) (by omega) (by omega) (by omega)⟩
    · replace c687 := c_eq tr_4v367 lit_0 c687
      exact hp _ _ _  lit_m1 hI 
set_option maxHeartbeats 4000000 in
set_option maxRecDepth 100000 in
theorem sX11_fades_22 {T W H P S M : Int} {post : Int32 → Wd → Prop}   (hp : ∀ (r : Int32) (zr : Int) (w9 : Wd), Ti r zr → IM T W H P S M w9 → post r w9) : ∀ (n : Nat) (x2 : Int32) (x3 : Int32) (x4 : Int32) (x5 : Int32) (zx2 : Int) (zx3 : Int) (zx4 : Int) (zx5 : Int) (w : Wd), Ti x2 zx2 → Ti x3 zx3 → Ti x4 zx4 → Ti x5 zx5 → IM T W H P S M w → (0 ≤ zx5 ∧ zx5 ≤ 4097) → (0 ≤ zx2 ∧ zx2 < H) → (4098 - zx5) < (n : Int) → pX11_fades_22   post  n x2 x3 x4 x5 w := by
  intro n
  induction n with
  | zero =>
    intro x2 x3 x4 x5 zx2 zx3 zx4 zx5 w tx2 tx3 tx4 tx5 hI h0 h1 hm
    exact absurd hm (by omega)
  | succ n ih =>
    intro x2 x3 x4 x5 zx2 zx3 zx4 zx5 w tx2 tx3 tx4 tx5 hI h0 h1 hm
    unfold pX11_fades_22
    have hk := im_k hI
    refine ⟨fun c688 => ?_, fun c688 => ?_⟩
    · replace c688 := c_lt lit_4096 tx5 c688
      exact hp _ _ _  lit_m1 hI 
    · replace c688 := c_nlt lit_4096 tx5 c688
      refine ⟨fun c689 => ?_, fun c689 => ?_⟩
      · replace c689 := c_neq tx4 lit_0 c689
        refine sX11_castOf   (hI := hI) (tx1 := tx4) (tx2 := tx2) (tx3 := tx3) (tx4 := lit_0) (h0 := (by omega)) (hp := fun r_3v369 zr_3v369 w_4v370  tr_3v369 hIw_4v370 p690 => ?_)
        obtain ⟨z691, t692, f693⟩ := t_add tx5 lit_1
        first | replace f693 := f693 (by omega) | clear f693
        intro x5_5v371 ex5_5v371
        have tx5_5v371 : Ti x5_5v371 z691 := by rw [ex5_5v371]; exact t692
        exact ih _ _ _ _ _ _ _ _ _ tx2 tx3 tr_3v369 tx5_5v371 hIw_4v370 (by omega) (by omega) (by omega)
      · replace c689 := c_eq tx4 lit_0 c689
        exact hp _ _ _  tx5 hI 
set_option maxHeartbeats 4000000 in
set_option maxRecDepth 100000 in
theorem sX11_fades {T W H P S M : Int} {post : Int32 → Wd → Prop} {x1 : Int32} {zx1 : Int} {x2 : Int32} {zx2 : Int} {x3 : Int32} {zx3 : Int} {w : Wd}  (tx1 : Ti x1 zx1) (tx2 : Ti x2 zx2) (tx3 : Ti x3 zx3) (hI : IM T W H P S M w)  (hp : ∀ (r : Int32) (zr : Int) (w9 : Wd), Ti r zr → IM T W H P S M w9 → post r w9) : pX11_fades   post  x1 x2 x3 w := by
  unfold pX11_fades
  have hk := im_k hI
  refine sX11_canCast   (hI := hI) (tx1 := tx1) (tx2 := tx2) (tx3 := tx3)  (hp := fun r_1v372 zr_1v372 tr_1v372 p694 => ?_)
  refine ⟨fun c695 => ?_, fun c695 => ?_⟩
  · replace c695 := c_neq tr_1v372 lit_0 c695
    refine sX11_rowOf   (hI := hI) (tx1 := tx1) (h0 := (by omega)) (hp := fun r_4v376 zr_4v376 tr_4v376 p696 => ?_)
    exact ⟨70000, sX11_fades_22    (hp := hp) 70000 _ _ _ _ _ _ _ _ _ tx2 tx3 tr_4v376 lit_0 hI (by omega) (by omega) (by omega)⟩
  · replace c695 := c_eq tr_1v372 lit_0 c695
    exact hp _ _ _  lit_m1 hI 
set_option maxHeartbeats 4000000 in
set_option maxRecDepth 100000 in
theorem sX11_kinOf_5 {T W H P S M : Int} {post : Int32 → Wd → Prop} {w : Wd}  (hp : ∀ (r : Int32) (zr : Int), Ti r zr → (0 ≤ zr ∧ zr < S) → post r w) : ∀ (n : Nat) (x3 : Int32) (x4 : Int32) (zx3 : Int) (zx4 : Int), Ti x3 zx3 → Ti x4 zx4 → IM T W H P S M w → (0 ≤ zx3 ∧ zx3 < S) → (0 ≤ zx4 ∧ zx4 < S) → (zx3 + zx4 + 1) < (n : Int) → pX11_kinOf_5   post  n x3 x4 w := by
  intro n
  induction n with
  | zero =>
    intro x3 x4 zx3 zx4  tx3 tx4 hI h0 h1 hm
    exact absurd hm (by omega)
  | succ n ih =>
    intro x3 x4 zx3 zx4  tx3 tx4 hI h0 h1 hm
    unfold pX11_kinOf_5
    have hk := im_k hI
    refine ⟨fun c697 => ?_, fun c697 => ?_⟩
    · replace c697 := c_eq tx3 tx4 c697
      exact hp _ _ tx3 (by omega)
    · replace c697 := c_neq tx3 tx4 c697
      refine ⟨fun c698 => ?_, fun c698 => ?_⟩
      · replace c698 := c_le tx3 tx4 c698
        obtain ⟨z699, t700, f701⟩ := t_mul lit_4 tx4
        first | replace f701 := f701 (by omega) | clear f701
        obtain ⟨z702, t703, f704⟩ := t_add t700 lit_1
        first | replace f704 := f704 (by omega) | clear f704
        refine ⟨vp_of t703 (by omega) (by omega), ?_⟩
        obtain ⟨z705, t706⟩ := t_any (w.2.1 341 (((4 : Int32) * x4) + (1 : Int32)).toNatClampNeg)
        have f707 := img_par (x := zx4) hI t703 t706
        first | replace f707 := f707 (by omega) | clear f707
        intro x4_3v378 ex4_3v378
        have tx4_3v378 : Ti x4_3v378 z705 := by rw [ex4_3v378]; exact t706
        exact ih _ _ _ _  tx3 tx4_3v378 hI (by omega) (by omega) (by omega)
      · replace c698 := c_nle tx3 tx4 c698
        obtain ⟨z708, t709, f710⟩ := t_mul lit_4 tx3
        first | replace f710 := f710 (by omega) | clear f710
        obtain ⟨z711, t712, f713⟩ := t_add t709 lit_1
        first | replace f713 := f713 (by omega) | clear f713
        refine ⟨vp_of t712 (by omega) (by omega), ?_⟩
        obtain ⟨z714, t715⟩ := t_any (w.2.1 341 (((4 : Int32) * x3) + (1 : Int32)).toNatClampNeg)
        have f716 := img_par (x := zx3) hI t712 t715
        first | replace f716 := f716 (by omega) | clear f716
        intro x3_4v379 ex3_4v379
        have tx3_4v379 : Ti x3_4v379 z714 := by rw [ex3_4v379]; exact t715
        exact ih _ _ _ _  tx3_4v379 tx4 hI (by omega) (by omega) (by omega)
set_option maxHeartbeats 4000000 in
set_option maxRecDepth 100000 in
theorem sX11_kinOf {T W H P S M : Int} {post : Int32 → Wd → Prop} {x1 : Int32} {zx1 : Int} {x2 : Int32} {zx2 : Int} {w : Wd}  (tx1 : Ti x1 zx1) (tx2 : Ti x2 zx2) (hI : IM T W H P S M w) (h0 : 0 ≤ zx1 ∧ zx1 < S) (h1 : 0 ≤ zx2 ∧ zx2 < S) (hp : ∀ (r : Int32) (zr : Int), Ti r zr → (0 ≤ zr ∧ zr < S) → post r w) : pX11_kinOf   post  x1 x2 w := by
  unfold pX11_kinOf
  have hk := im_k hI
  exact ⟨70000, sX11_kinOf_5    (hp := hp) 70000 _ _ _ _  tx1 tx2 hI (by omega) (by omega) (by omega)⟩
set_option maxHeartbeats 4000000 in
set_option maxRecDepth 100000 in
theorem sX11_kin {T W H P S M : Int} {post : Int32 → Wd → Prop} {x1 : Int32} {zx1 : Int} {x2 : Int32} {zx2 : Int} {x3 : Int32} {zx3 : Int} {w : Wd}  (tx1 : Ti x1 zx1) (tx2 : Ti x2 zx2) (tx3 : Ti x3 zx3) (hI : IM T W H P S M w)  (hp : ∀ (r : Int32) (zr : Int), Ti r zr → post r w) : pX11_kin   post  x1 x2 x3 w := by
  unfold pX11_kin
  have hk := im_k hI
  refine sX11_isSeal   (hI := hI) (tx1 := tx1)  (hp := fun r_1v380 zr_1v380 tr_1v380 p717 => ?_)
  refine ⟨fun c718 => ?_, fun c718 => ?_⟩
  · replace c718 := c_eq tr_1v380 lit_0 c718
    exact hp _ _ lit_m1 
  · replace c718 := c_neq tr_1v380 lit_0 c718
    refine sX11_isSeal   (hI := hI) (tx1 := tx2)  (hp := fun r_4v394 zr_4v394 tr_4v394 p719 => ?_)
    refine ⟨fun c720 => ?_, fun c720 => ?_⟩
    · replace c720 := c_eq tr_4v394 lit_0 c720
      exact hp _ _ lit_m1 
    · replace c720 := c_neq tr_4v394 lit_0 c720
      refine sX11_isIn   (hI := hI) (tx0 := tx3) (tx1 := lit_0) (tx2 := lit_1)  (hp := fun r_7v406 zr_7v406 tr_7v406 p721 p722 => ?_)
      refine ⟨fun c723 => ?_, fun c723 => ?_⟩
      · replace c723 := c_neq tr_7v406 lit_0 c723
        refine sX11_kinOf   (hI := hI) (tx1 := tx1) (tx2 := tx2) (h0 := (by omega)) (h1 := (by omega)) (hp := fun r_10v416 zr_10v416 tr_10v416 p724 => ?_)
        refine ⟨fun c725 => ?_, fun c725 => ?_⟩
        · replace c725 := c_neq tx3 lit_0 c725
          refine sX11_deep   (hI := hI) (tx1 := tx1) (h0 := (by omega)) (hp := fun r_13v424 zr_13v424 tr_13v424 => ?_)
          refine sX11_deep   (hI := hI) (tx1 := tx2) (h0 := (by omega)) (hp := fun r_15v430 zr_15v430 tr_15v430 => ?_)
          refine sX11_deep   (hI := hI) (tx1 := tr_10v416) (h0 := (by omega)) (hp := fun r_17v434 zr_17v434 tr_17v434 => ?_)
          obtain ⟨z726, t727, f728⟩ := t_add tr_13v424 tr_15v430
          first | replace f728 := f728 (by omega) | clear f728
          obtain ⟨z729, t730, f731⟩ := t_mul lit_2 tr_17v434
          first | replace f731 := f731 (by omega) | clear f731
          obtain ⟨z732, t733, f734⟩ := t_sub t727 t730
          first | replace f734 := f734 (by omega) | clear f734
          exact hp _ _ t733 
        · replace c725 := c_eq tx3 lit_0 c725
          exact hp _ _ tr_10v416 
      · replace c723 := c_eq tr_7v406 lit_0 c723
        exact hp _ _ lit_m1 
set_option maxHeartbeats 4000000 in
set_option maxRecDepth 100000 in
theorem sX11_thumb_42 {T W H P S M : Int} {post : Int32 → Wd → Prop} {w : Wd}  (hp : ∀ (r : Int32) (zr : Int), Ti r zr → post r w) : ∀ (n : Nat) (x3 : Int32) (x4 : Int32) (zx3 : Int) (zx4 : Int), Ti x3 zx3 → Ti x4 zx4 → IM T W H P S M w → (0 ≤ zx3 ∧ zx3 < S) → (zx3 + 1) < (n : Int) → pX11_thumb_42   post  n x3 x4 w := by
  intro n
  induction n with
  | zero =>
    intro x3 x4 zx3 zx4  tx3 tx4 hI h0 hm
    exact absurd hm (by omega)
  | succ n ih =>
    intro x3 x4 zx3 zx4  tx3 tx4 hI h0 hm
    unfold pX11_thumb_42
    have hk := im_k hI
    refine ⟨fun c735 => ?_, fun c735 => ?_⟩
    · replace c735 := c_le tx3 lit_0 c735
      exact hp _ _ lit_m1 
    · replace c735 := c_nle tx3 lit_0 c735
      obtain ⟨z736, t737, f738⟩ := t_mul lit_4 tx3
      first | replace f738 := f738 (by omega) | clear f738
      obtain ⟨z739, t740, f741⟩ := t_add t737 lit_1
      first | replace f741 := f741 (by omega) | clear f741
      refine ⟨vp_of t740 (by omega) (by omega), ?_⟩
      obtain ⟨z742, t743⟩ := t_any (w.2.1 341 (((4 : Int32) * x3) + (1 : Int32)).toNatClampNeg)
      have f744 := img_par (x := zx3) hI t740 t743
      first | replace f744 := f744 (by omega) | clear f744
      intro x5_2v436 ex5_2v436
      have tx5_2v436 : Ti x5_2v436 z742 := by rw [ex5_2v436]; exact t743
      refine sX11_width   (hI := hI)   (hp := fun r_3v437 zr_3v437 tr_3v437 p745 => ?_)
      obtain ⟨z746, t747, f748⟩ := t_sub tr_3v437 lit_1
      first | replace f748 := f748 (by omega) | clear f748
      obtain ⟨z749, t750, f751⟩ := t_sub t747 tx4
      first | replace f751 := f751 (by omega) | clear f751
      intro x4_5v442 ex4_5v442
      have tx4_5v442 : Ti x4_5v442 z749 := by rw [ex4_5v442]; exact t750
      refine sX11_rowOf   (hI := hI) (tx1 := tx5_2v436) (h0 := (by omega)) (hp := fun r_6v443 zr_6v443 tr_6v443 p752 => ?_)
      obtain ⟨z753, t754, f755⟩ := t_and (x := (r_6v443 >>> (x4_5v442 &&& 31))) lit_1 (by decide)
      refine ⟨fun c756 => ?_, fun c756 => ?_⟩
      · replace c756 := c_neq t754 lit_0 c756
        exact ih _ _ _ _  tx5_2v436 tx4_5v442 hI (by omega) (by omega)
      · replace c756 := c_eq t754 lit_0 c756
        obtain ⟨z757, t758, f759⟩ := t_add t737 lit_2
        first | replace f759 := f759 (by omega) | clear f759
        refine ⟨vp_of t758 (by omega) (by omega), ?_⟩
        obtain ⟨z760, t761⟩ := t_any (w.2.1 341 (((4 : Int32) * x3) + (2 : Int32)).toNatClampNeg)
        exact hp _ _ t761 
set_option maxHeartbeats 4000000 in
set_option maxRecDepth 100000 in
theorem sX11_thumb {T W H P S M : Int} {post : Int32 → Wd → Prop} {x1 : Int32} {zx1 : Int} {x2 : Int32} {zx2 : Int} {w : Wd}  (tx1 : Ti x1 zx1) (tx2 : Ti x2 zx2) (hI : IM T W H P S M w)  (hp : ∀ (r : Int32) (zr : Int), Ti r zr → post r w) : pX11_thumb   post  x1 x2 w := by
  unfold pX11_thumb
  have hk := im_k hI
  refine sX11_isSeal   (hI := hI) (tx1 := tx1)  (hp := fun r_1v445 zr_1v445 tr_1v445 p763 => ?_)
  refine ⟨fun c764 => ?_, fun c764 => ?_⟩
  · replace c764 := c_eq tr_1v445 lit_0 c764
    exact hp _ _ lit_m2 
  · replace c764 := c_neq tr_1v445 lit_0 c764
    refine sX11_width   (hI := hI)   (hp := fun r_4v453 zr_4v453 tr_4v453 p765 => ?_)
    obtain ⟨z766, t767, f768⟩ := t_sub tr_4v453 lit_1
    first | replace f768 := f768 (by omega) | clear f768
    refine sX11_isIn   (hI := hI) (tx0 := tx2) (tx1 := lit_0) (tx2 := t767)  (hp := fun r_6v459 zr_6v459 tr_6v459 p769 p770 => ?_)
    refine ⟨fun c771 => ?_, fun c771 => ?_⟩
    · replace c771 := c_eq tr_6v459 lit_0 c771
      exact hp _ _ lit_m2 
    · replace c771 := c_neq tr_6v459 lit_0 c771
      refine sX11_rowOf   (hI := hI) (tx1 := tx1) (h0 := (by omega)) (hp := fun r_9v463 zr_9v463 tr_9v463 p772 => ?_)
      obtain ⟨z773, t774, f775⟩ := t_and (x := (r_9v463 >>> (x2 &&& 31))) lit_1 (by decide)
      refine ⟨fun c776 => ?_, fun c776 => ?_⟩
      · replace c776 := c_neq t774 lit_0 c776
        exact ⟨70000, sX11_thumb_42    (hp := hp) 70000 _ _ _ _  tx1 tx2 hI (by omega) (by omega)⟩
      · replace c776 := c_eq t774 lit_0 c776
        exact hp _ _ lit_m2 
set_option maxHeartbeats 4000000 in
set_option maxRecDepth 100000 in
theorem sX11_layShares_142 {T W H P S M : Int} {k131 : Int32 → Int32 → Wd → Prop} {M131 : Int} {post : Wd → Prop}  (hk131 : ∀ (x2 : Int32) (x4 : Int32) (zx2 : Int) (zx4 : Int) (w : Wd), Ti x2 zx2 → Ti x4 zx4 → IM T W H P S M w → (-2147483648 ≤ zx4 ∧ zx4 ≤ 2147483647) → (1 ≤ zx2 ∧ zx2 ≤ 4) → (zx4 + 2147483649) < M131 → k131 x2 x4 w) (hp : ∀ (w9 : Wd), IM T W H P S M w9 → post w9) : ∀ (n : Nat) (x2 : Int32) (x4 : Int32) (x5 : Int32) (x6 : Int32) (zx2 : Int) (zx4 : Int) (zx5 : Int) (zx6 : Int) (w : Wd), Ti x2 zx2 → Ti x4 zx4 → Ti x5 zx5 → Ti x6 zx6 → IM T W H P S M w → (0 ≤ zx6 ∧ zx6 ≤ 4) → (0 ≤ zx5 ∧ zx5 ≤ 3) → (0 < zx4) → (-2147483648 ≤ zx4 ∧ zx4 ≤ 2147483647) → (1 ≤ zx2 ∧ zx2 ≤ 4) → ((zx4 + 2147483649) ≤ M131) → (5 - zx6) < (n : Int) → pX11_layShares_142 k131  post  n x2 x4 x5 x6 w := by
  intro n
  induction n with
  | zero =>
    intro x2 x4 x5 x6 zx2 zx4 zx5 zx6 w tx2 tx4 tx5 tx6 hI h0 h1 h2 h3 h4 h5 hm
    exact absurd hm (by omega)
  | succ n ih =>
    intro x2 x4 x5 x6 zx2 zx4 zx5 zx6 w tx2 tx4 tx5 tx6 hI h0 h1 h2 h3 h4 h5 hm
    unfold pX11_layShares_142
    have hk := im_k hI
    refine ⟨fun c777 => ?_, fun c777 => ?_⟩
    · replace c777 := c_le tx2 tx6 c777
      refine ⟨vp_of tx5 (by omega) (by omega), ?_⟩
      refine ⟨vp_of tx5 (by omega) (by omega), ?_⟩
      intro w_2v465 ew_2v465
      have hIw_2v465 := ims_A hI ew_2v465 (by decide)
      refine ⟨vp_of tx5 (by omega) (by omega), ?_⟩
      intro w_3v466 ew_3v466
      have hIw_3v466 := ims_A hIw_2v465 ew_3v466 (by decide)
      obtain ⟨z778, t779, f780⟩ := t_add tx4 lit_m1
      first | replace f780 := f780 (by omega) | clear f780
      intro x4_4v467 ex4_4v467
      have tx4_4v467 : Ti x4_4v467 z778 := by rw [ex4_4v467]; exact t779
      have f781 := t_rng tx4_4v467
      exact hk131 _ _ _ _ _ tx2 tx4_4v467 hIw_3v466 (by omega) (by omega) (by omega)
    · replace c777 := c_nle tx2 tx6 c777
      refine ⟨vp_of tx6 (by omega) (by omega), ?_⟩
      refine ⟨vp_of tx5 (by omega) (by omega), ?_⟩
      obtain ⟨z782, t783⟩ := t_any (w.2.1 347 x6.toNatClampNeg)
      obtain ⟨z785, t786⟩ := t_any (w.2.1 347 x5.toNatClampNeg)
      refine ⟨fun c788 => ?_, fun c788 => ?_⟩
      · replace c788 := c_le t783 t786 c788
        unfold pX11_layShares_169
        obtain ⟨z789, t790, f791⟩ := t_add tx6 lit_1
        first | replace f791 := f791 (by omega) | clear f791
        intro x6_1v468 ex6_1v468
        have tx6_1v468 : Ti x6_1v468 z789 := by rw [ex6_1v468]; exact t790
        exact ih _ _ _ _ _ _ _ _ _ tx2 tx4 tx5 tx6_1v468 hI (by omega) (by omega) (by omega) (by omega) (by omega) (by omega) (by omega)
      · replace c788 := c_nle t783 t786 c788
        unfold pX11_layShares_169
        obtain ⟨z792, t793, f794⟩ := t_add tx6 lit_1
        first | replace f794 := f794 (by omega) | clear f794
        intro x6_1v469 ex6_1v469
        have tx6_1v469 : Ti x6_1v469 z792 := by rw [ex6_1v469]; exact t793
        exact ih _ _ _ _ _ _ _ _ _ tx2 tx4 tx6 tx6_1v469 hI (by omega) (by omega) (by omega) (by omega) (by omega) (by omega) (by omega)
set_option maxHeartbeats 4000000 in
set_option maxRecDepth 100000 in
theorem sX11_layShares_131 {T W H P S M : Int} {post : Wd → Prop}   (hp : ∀ (w9 : Wd), IM T W H P S M w9 → post w9) : ∀ (n : Nat) (x2 : Int32) (x4 : Int32) (zx2 : Int) (zx4 : Int) (w : Wd), Ti x2 zx2 → Ti x4 zx4 → IM T W H P S M w → (-2147483648 ≤ zx4 ∧ zx4 ≤ 2147483647) → (1 ≤ zx2 ∧ zx2 ≤ 4) → (zx4 + 2147483649) < (n : Int) → pX11_layShares_131   post  n x2 x4 w := by
  intro n
  induction n with
  | zero =>
    intro x2 x4 zx2 zx4 w tx2 tx4 hI h0 h1 hm
    exact absurd hm (by omega)
  | succ n ih =>
    intro x2 x4 zx2 zx4 w tx2 tx4 hI h0 h1 hm
    unfold pX11_layShares_131
    have hk := im_k hI
    refine ⟨fun c795 => ?_, fun c795 => ?_⟩
    · replace c795 := c_le tx4 lit_0 c795
      exact hp  _   hI 
    · replace c795 := c_nle tx4 lit_0 c795
      exact ⟨70000, sX11_layShares_142  (M131 := (n : Int)) (hk131 := ih)  (hp := hp) 70000 _ _ _ _ _ _ _ _ _ tx2 tx4 lit_0 lit_1 hI (by omega) (by omega) (by omega) (by omega) (by omega) (by omega) (by omega)⟩
set_option maxHeartbeats 4000000 in
set_option maxRecDepth 100000 in
theorem sX11_layShares_24 {T W H P S M : Int} {k12 : Int32 → Int32 → Int32 → Int32 → Int32 → Wd → Prop} {M12 : Int} {post : Wd → Prop}  (hk12 : ∀ (x1 : Int32) (x2 : Int32) (x3 : Int32) (x4 : Int32) (x5 : Int32) (zx1 : Int) (zx2 : Int) (zx3 : Int) (zx4 : Int) (zx5 : Int) (w : Wd), Ti x1 zx1 → Ti x2 zx2 → Ti x3 zx3 → Ti x4 zx4 → Ti x5 zx5 → IM T W H P S M w → (0 ≤ zx5 ∧ zx5 ≤ 4) → (1 ≤ zx2 ∧ zx2 ≤ 4) → (5 - zx5) < M12 → k12 x1 x2 x3 x4 x5 w) (hp : ∀ (w9 : Wd), IM T W H P S M w9 → post w9) : ∀ (n : Nat) (x1 : Int32) (x2 : Int32) (x3 : Int32) (x4 : Int32) (x5 : Int32) (x6 : Int32) (x7 : Int32) (zx1 : Int) (zx2 : Int) (zx3 : Int) (zx4 : Int) (zx5 : Int) (zx6 : Int) (zx7 : Int) (w : Wd), Ti x1 zx1 → Ti x2 zx2 → Ti x3 zx3 → Ti x4 zx4 → Ti x5 zx5 → Ti x6 zx6 → Ti x7 zx7 → IM T W H P S M w → (0 ≤ zx7 ∧ zx7 ≤ 12) → (zx5 ≤ 3) → (0 ≤ zx5 ∧ zx5 ≤ 4) → (1 ≤ zx2 ∧ zx2 ≤ 4) → ((5 - zx5) ≤ M12) → (13 - zx7) < (n : Int) → pX11_layShares_24 k12  post  n x1 x2 x3 x4 x5 x6 x7 w := by
  intro n
  induction n with
  | zero =>
    intro x1 x2 x3 x4 x5 x6 x7 zx1 zx2 zx3 zx4 zx5 zx6 zx7 w tx1 tx2 tx3 tx4 tx5 tx6 tx7 hI h0 h1 h2 h3 h4 hm
    exact absurd hm (by omega)
  | succ n ih =>
    intro x1 x2 x3 x4 x5 x6 x7 zx1 zx2 zx3 zx4 zx5 zx6 zx7 w tx1 tx2 tx3 tx4 tx5 tx6 tx7 hI h0 h1 h2 h3 h4 hm
    unfold pX11_layShares_24
    have hk := im_k hI
    refine sX11_width   (hI := hI)   (hp := fun r_1v470 zr_1v470 tr_1v470 p796 => ?_)
    refine ⟨fun c797 => ?_, fun c797 => ?_⟩
    · replace c797 := c_le tr_1v470 tx7 c797
      refine ⟨fun c798 => ?_, fun c798 => ?_⟩
      · replace c798 := c_neq tx3 lit_0 c798
        refine ⟨nz_of tx3 (by omega), ?_⟩
        unfold pX11_layShares_85
        refine ⟨vp_of tx5 (by omega) (by omega), ?_⟩
        intro w_1v478 ew_1v478
        have hIw_1v478 := ims_A hI ew_1v478 (by decide)
        refine ⟨fun c799 => ?_, fun c799 => ?_⟩
        · replace c799 := c_neq tx3 lit_0 c799
          refine ⟨nz_of tx3 (by omega), ?_⟩
          unfold pX11_layShares_107
          refine ⟨vp_of tx5 (by omega) (by omega), ?_⟩
          intro w_1v479 ew_1v479
          have hIw_1v479 := ims_A hIw_1v478 ew_1v479 (by decide)
          refine ⟨vp_of tx5 (by omega) (by omega), ?_⟩
          obtain ⟨z800, t801, f802⟩ := t_mul lit_100 tx6
          first | replace f802 := f802 (by omega) | clear f802
          obtain ⟨z803, t804, f805⟩ := t_divv t801 tx3
          first | replace f805 := f805 (by omega) | clear f805
          have t806 : Ti (w_1v478.2.1 346 x5.toNatClampNeg) z803 := by rw [ew_1v478, sA_at]; exact t804
          have t807 : Ti (w_1v479.2.1 346 x5.toNatClampNeg) z803 := by rw [ew_1v479, sA_ne (by decide)]; exact t806
          obtain ⟨z808, t809, f810⟩ := t_sub tx4 t807
          first | replace f810 := f810 (by omega) | clear f810
          intro x4_2v480 ex4_2v480
          have tx4_2v480 : Ti x4_2v480 z808 := by rw [ex4_2v480]; exact t809
          obtain ⟨z811, t812, f813⟩ := t_add tx5 lit_1
          first | replace f813 := f813 (by omega) | clear f813
          intro x5_3v481 ex5_3v481
          have tx5_3v481 : Ti x5_3v481 z811 := by rw [ex5_3v481]; exact t812
          exact hk12 _ _ _ _ _ _ _ _ _ _ _ tx1 tx2 tx3 tx4_2v480 tx5_3v481 hIw_1v479 (by omega) (by omega) (by omega)
        · replace c799 := c_eq tx3 lit_0 c799
          unfold pX11_layShares_107
          refine ⟨vp_of tx5 (by omega) (by omega), ?_⟩
          intro w_1v482 ew_1v482
          have hIw_1v482 := ims_A hIw_1v478 ew_1v482 (by decide)
          refine ⟨vp_of tx5 (by omega) (by omega), ?_⟩
          obtain ⟨z814, t815, f816⟩ := t_mul lit_100 tx6
          first | replace f816 := f816 (by omega) | clear f816
          obtain ⟨z817, t818, f819⟩ := t_divv t815 tx3
          first | replace f819 := f819 (by omega) | clear f819
          have t820 : Ti (w_1v478.2.1 346 x5.toNatClampNeg) z817 := by rw [ew_1v478, sA_at]; exact t818
          have t821 : Ti (w_1v482.2.1 346 x5.toNatClampNeg) z817 := by rw [ew_1v482, sA_ne (by decide)]; exact t820
          obtain ⟨z822, t823, f824⟩ := t_sub tx4 t821
          first | replace f824 := f824 (by omega) | clear f824
          intro x4_2v483 ex4_2v483
          have tx4_2v483 : Ti x4_2v483 z822 := by rw [ex4_2v483]; exact t823
          obtain ⟨z825, t826, f827⟩ := t_add tx5 lit_1
          first | replace f827 := f827 (by omega) | clear f827
          intro x5_3v484 ex5_3v484
          have tx5_3v484 : Ti x5_3v484 z825 := by rw [ex5_3v484]; exact t826
          exact hk12 _ _ _ _ _ _ _ _ _ _ _ tx1 tx2 tx3 tx4_2v483 tx5_3v484 hIw_1v482 (by omega) (by omega) (by omega)
      · replace c798 := c_eq tx3 lit_0 c798
        unfold pX11_layShares_85
        refine ⟨vp_of tx5 (by omega) (by omega), ?_⟩
        intro w_1v485 ew_1v485
        have hIw_1v485 := ims_A hI ew_1v485 (by decide)
        refine ⟨fun c828 => ?_, fun c828 => ?_⟩
        · replace c828 := c_neq tx3 lit_0 c828
          refine ⟨nz_of tx3 (by omega), ?_⟩
          unfold pX11_layShares_107
          refine ⟨vp_of tx5 (by omega) (by omega), ?_⟩
          intro w_1v486 ew_1v486
          have hIw_1v486 := ims_A hIw_1v485 ew_1v486 (by decide)
          refine ⟨vp_of tx5 (by omega) (by omega), ?_⟩
          have t829 : Ti (w_1v485.2.1 346 x5.toNatClampNeg) 0 := by rw [ew_1v485, sA_at]; exact lit_0
          have t830 : Ti (w_1v486.2.1 346 x5.toNatClampNeg) 0 := by rw [ew_1v486, sA_ne (by decide)]; exact t829
          obtain ⟨z831, t832, f833⟩ := t_sub tx4 t830
          first | replace f833 := f833 (by omega) | clear f833
          intro x4_2v487 ex4_2v487
          have tx4_2v487 : Ti x4_2v487 z831 := by rw [ex4_2v487]; exact t832
          obtain ⟨z834, t835, f836⟩ := t_add tx5 lit_1
          first | replace f836 := f836 (by omega) | clear f836
          intro x5_3v488 ex5_3v488
          have tx5_3v488 : Ti x5_3v488 z834 := by rw [ex5_3v488]; exact t835
          exact hk12 _ _ _ _ _ _ _ _ _ _ _ tx1 tx2 tx3 tx4_2v487 tx5_3v488 hIw_1v486 (by omega) (by omega) (by omega)
        · replace c828 := c_eq tx3 lit_0 c828
          unfold pX11_layShares_107
          refine ⟨vp_of tx5 (by omega) (by omega), ?_⟩
          intro w_1v489 ew_1v489
          have hIw_1v489 := ims_A hIw_1v485 ew_1v489 (by decide)
          refine ⟨vp_of tx5 (by omega) (by omega), ?_⟩
          have t837 : Ti (w_1v485.2.1 346 x5.toNatClampNeg) 0 := by rw [ew_1v485, sA_at]; exact lit_0
          have t838 : Ti (w_1v489.2.1 346 x5.toNatClampNeg) 0 := by rw [ew_1v489, sA_ne (by decide)]; exact t837
          obtain ⟨z839, t840, f841⟩ := t_sub tx4 t838
          first | replace f841 := f841 (by omega) | clear f841
          intro x4_2v490 ex4_2v490
          have tx4_2v490 : Ti x4_2v490 z839 := by rw [ex4_2v490]; exact t840
          obtain ⟨z842, t843, f844⟩ := t_add tx5 lit_1
          first | replace f844 := f844 (by omega) | clear f844
          intro x5_3v491 ex5_3v491
          have tx5_3v491 : Ti x5_3v491 z842 := by rw [ex5_3v491]; exact t843
          exact hk12 _ _ _ _ _ _ _ _ _ _ _ tx1 tx2 tx3 tx4_2v490 tx5_3v491 hIw_1v489 (by omega) (by omega) (by omega)
    · replace c797 := c_nle tr_1v470 tx7 c797
      refine sX11_width   (hI := hI)   (hp := fun r_5v475 zr_5v475 tr_5v475 p845 => ?_)
      refine ⟨nz_of tr_5v475 (by omega), ?_⟩
      obtain ⟨z846, t847, f848⟩ := t_mulv tx7 tx2
      first | replace f848 := f848 (by omega) | clear f848
      obtain ⟨z849, t850, f851⟩ := t_divv t847 tr_5v475
      first | replace f851 := f851 (by omega) | clear f851
      refine ⟨fun c852 => ?_, fun c852 => ?_⟩
      · replace c852 := c_neq t850 tx5 c852
        unfold pX11_layShares_58
        obtain ⟨z853, t854, f855⟩ := t_add tx7 lit_1
        first | replace f855 := f855 (by omega) | clear f855
        intro x7_1v493 ex7_1v493
        have tx7_1v493 : Ti x7_1v493 z853 := by rw [ex7_1v493]; exact t854
        exact ih _ _ _ _ _ _ _ _ _ _ _ _ _ _ _ tx1 tx2 tx3 tx4 tx5 tx6 tx7_1v493 hI (by omega) (by omega) (by omega) (by omega) (by omega) (by omega)
      · replace c852 := c_eq t850 tx5 c852
        obtain ⟨z856, t857, f858⟩ := t_and (x := (x1 >>> (x7 &&& 31))) lit_1 (by decide)
        obtain ⟨z859, t860, f861⟩ := t_add tx6 t857
        first | replace f861 := f861 (by omega) | clear f861
        intro x6_8v492 ex6_8v492
        have tx6_8v492 : Ti x6_8v492 z859 := by rw [ex6_8v492]; exact t860
        unfold pX11_layShares_58
        obtain ⟨z862, t863, f864⟩ := t_add tx7 lit_1
        first | replace f864 := f864 (by omega) | clear f864
        intro x7_1v494 ex7_1v494
        have tx7_1v494 : Ti x7_1v494 z862 := by rw [ex7_1v494]; exact t863
        exact ih _ _ _ _ _ _ _ _ _ _ _ _ _ _ _ tx1 tx2 tx3 tx4 tx5 tx6_8v492 tx7_1v494 hI (by omega) (by omega) (by omega) (by omega) (by omega) (by omega)
set_option maxHeartbeats 4000000 in
set_option maxRecDepth 100000 in
theorem sX11_layShares_12 {T W H P S M : Int} {post : Wd → Prop}   (hp : ∀ (w9 : Wd), IM T W H P S M w9 → post w9) : ∀ (n : Nat) (x1 : Int32) (x2 : Int32) (x3 : Int32) (x4 : Int32) (x5 : Int32) (zx1 : Int) (zx2 : Int) (zx3 : Int) (zx4 : Int) (zx5 : Int) (w : Wd), Ti x1 zx1 → Ti x2 zx2 → Ti x3 zx3 → Ti x4 zx4 → Ti x5 zx5 → IM T W H P S M w → (0 ≤ zx5 ∧ zx5 ≤ 4) → (1 ≤ zx2 ∧ zx2 ≤ 4) → (5 - zx5) < (n : Int) → pX11_layShares_12   post  n x1 x2 x3 x4 x5 w := by
  intro n
  induction n with
  | zero =>
    intro x1 x2 x3 x4 x5 zx1 zx2 zx3 zx4 zx5 w tx1 tx2 tx3 tx4 tx5 hI h0 h1 hm
    exact absurd hm (by omega)
  | succ n ih =>
    intro x1 x2 x3 x4 x5 zx1 zx2 zx3 zx4 zx5 w tx1 tx2 tx3 tx4 tx5 hI h0 h1 hm
    unfold pX11_layShares_12
    have hk := im_k hI
    refine ⟨fun c865 => ?_, fun c865 => ?_⟩
    · replace c865 := c_le tx2 tx5 c865
      refine ⟨fun c866 => ?_, fun c866 => ?_⟩
      · replace c866 := c_neq tx3 lit_0 c866
        have f867 := t_rng tx4
        exact ⟨4294967298, sX11_layShares_131    (hp := hp) 4294967298 _ _ _ _ _ tx2 tx4 hI (by omega) (by omega) (by omega)⟩
      · replace c866 := c_eq tx3 lit_0 c866
        exact hp  _   hI 
    · replace c865 := c_nle tx2 tx5 c865
      exact ⟨70000, sX11_layShares_24  (M12 := (n : Int)) (hk12 := ih)  (hp := hp) 70000 _ _ _ _ _ _ _ _ _ _ _ _ _ _ _ tx1 tx2 tx3 tx4 tx5 lit_0 lit_0 hI (by omega) (by omega) (by omega) (by omega) (by omega) (by omega)⟩
set_option maxHeartbeats 4000000 in
set_option maxRecDepth 100000 in
theorem sX11_layShares {T W H P S M : Int} {post : Wd → Prop} {x1 : Int32} {zx1 : Int} {x2 : Int32} {zx2 : Int} {w : Wd}  (tx1 : Ti x1 zx1) (tx2 : Ti x2 zx2) (hI : IM T W H P S M w) (h0 : 1 ≤ zx2 ∧ zx2 ≤ 4) (hp : ∀ (w9 : Wd), IM T W H P S M w9 → post w9) : pX11_layShares   post  x1 x2 w := by
  unfold pX11_layShares
  have hk := im_k hI
  refine sX11_bitsOf   (hI := hI) (tx0 := tx1)  (hp := fun r_1v495 zr_1v495 tr_1v495 => ?_)
  exact ⟨70000, sX11_layShares_12    (hp := hp) 70000 _ _ _ _ _ _ _ _ _ _ _ tx1 tx2 tr_1v495 lit_100 lit_0 hI (by omega) (by omega) (by omega)⟩
set_option maxHeartbeats 4000000 in
set_option maxRecDepth 100000 in
theorem sX11_share {T W H P S M : Int} {post : Int32 → Wd → Prop} {x1 : Int32} {zx1 : Int} {x2 : Int32} {zx2 : Int} {x3 : Int32} {zx3 : Int} {w : Wd}  (tx1 : Ti x1 zx1) (tx2 : Ti x2 zx2) (tx3 : Ti x3 zx3) (hI : IM T W H P S M w)  (hp : ∀ (r : Int32) (zr : Int) (w9 : Wd), Ti r zr → IM T W H P S M w9 → post r w9) : pX11_share   post  x1 x2 x3 w := by
  unfold pX11_share
  have hk := im_k hI
  refine sX11_isRow   (hI := hI) (tx1 := tx1)  (hp := fun r_1v497 zr_1v497 tr_1v497 p868 => ?_)
  refine ⟨fun c869 => ?_, fun c869 => ?_⟩
  · replace c869 := c_eq tr_1v497 lit_0 c869
    exact hp _ _ _  lit_m1 hI 
  · replace c869 := c_neq tr_1v497 lit_0 c869
    refine sX11_isIn   (hI := hI) (tx0 := tx2) (tx1 := lit_1) (tx2 := lit_4)  (hp := fun r_4v504 zr_4v504 tr_4v504 p870 p871 => ?_)
    refine ⟨fun c872 => ?_, fun c872 => ?_⟩
    · replace c872 := c_eq tr_4v504 lit_0 c872
      exact hp _ _ _  lit_m1 hI 
    · replace c872 := c_neq tr_4v504 lit_0 c872
      obtain ⟨z873, t874, f875⟩ := t_sub tx2 lit_1
      first | replace f875 := f875 (by omega) | clear f875
      refine sX11_isIn   (hI := hI) (tx0 := tx3) (tx1 := lit_0) (tx2 := t874)  (hp := fun r_7v509 zr_7v509 tr_7v509 p876 p877 => ?_)
      refine ⟨fun c878 => ?_, fun c878 => ?_⟩
      · replace c878 := c_neq tr_7v509 lit_0 c878
        refine sX11_layShares   (hI := hI) (tx1 := tx1) (tx2 := tx2) (h0 := (by omega)) (hp := fun  w_10v512   hIw_10v512  => ?_)
        refine ⟨vp_of tx3 (by omega) (by omega), ?_⟩
        obtain ⟨z879, t880⟩ := t_any (w_10v512.2.1 346 x3.toNatClampNeg)
        exact hp _ _ _  t880 hIw_10v512 
      · replace c878 := c_eq tr_7v509 lit_0 c878
        exact hp _ _ _  lit_m1 hI 
set_option maxHeartbeats 4000000 in
set_option maxRecDepth 100000 in
theorem sX11_forge_40 {T W H P S M : Int} {post : Int32 → Wd → Prop}   (hp : ∀ (r : Int32) (zr : Int) (w9 : Wd), Ti r zr → IM T W H P S M w9 → post r w9) : ∀ (n : Nat) (x1 : Int32) (x2 : Int32) (x3 : Int32) (x4 : Int32) (x5 : Int32) (x6 : Int32) (x7 : Int32) (x8 : Int32) (zx1 : Int) (zx2 : Int) (zx3 : Int) (zx4 : Int) (zx5 : Int) (zx6 : Int) (zx7 : Int) (zx8 : Int) (w : Wd), Ti x1 zx1 → Ti x2 zx2 → Ti x3 zx3 → Ti x4 zx4 → Ti x5 zx5 → Ti x6 zx6 → Ti x7 zx7 → Ti x8 zx8 → IM T W H P S M w → (0 ≤ zx8 ∧ zx8 ≤ 4096) → (0 ≤ zx1 ∧ zx1 < S) → (0 ≤ zx2 ∧ zx2 < H) → (4097 - zx8) < (n : Int) → pX11_forge_40   post  n x1 x2 x3 x4 x5 x6 x7 x8 w := by
  intro n
  induction n with
  | zero =>
    intro x1 x2 x3 x4 x5 x6 x7 x8 zx1 zx2 zx3 zx4 zx5 zx6 zx7 zx8 w tx1 tx2 tx3 tx4 tx5 tx6 tx7 tx8 hI h0 h1 h2 hm
    exact absurd hm (by omega)
  | succ n ih =>
    intro x1 x2 x3 x4 x5 x6 x7 x8 zx1 zx2 zx3 zx4 zx5 zx6 zx7 zx8 w tx1 tx2 tx3 tx4 tx5 tx6 tx7 tx8 hI h0 h1 h2 hm
    unfold pX11_forge_40
    have hk := im_k hI
    refine sX11_width   (hI := hI)   (hp := fun r_1v513 zr_1v513 tr_1v513 p882 => ?_)
    obtain ⟨z883, t884, f885⟩ := t_shlW hI tr_1v513
    first | replace f885 := f885 (by omega) | clear f885
    refine ⟨fun c886 => ?_, fun c886 => ?_⟩
    · replace c886 := c_le t884 tx8 c886
      refine ⟨fun c887 => ?_, fun c887 => ?_⟩
      · replace c887 := c_le lit_0 tx6 c887
        refine ⟨fun c888 => ?_, fun c888 => ?_⟩
        · replace c888 := c_neq tx5 lit_0 c888
          exact hp _ _ _  tx6 hI 
        · replace c888 := c_eq tx5 lit_0 c888
          exact hp _ _ _  tx7 hI 
      · replace c887 := c_nle lit_0 tx6 c887
        exact hp _ _ _  lit_m1 hI 
    · replace c886 := c_nle t884 tx8 c886
      refine sX11_rowOf   (hI := hI) (tx1 := tx1) (h0 := (by omega)) (hp := fun r_6v519 zr_6v519 tr_6v519 p889 => ?_)
      obtain ⟨z890, t891⟩ := t_any (x8 ^^^ r_6v519)
      refine sX11_bitsOf   (hI := hI) (tx0 := t891)  (hp := fun r_8v523 zr_8v523 tr_8v523 => ?_)
      refine ⟨fun c892 => ?_, fun c892 => ?_⟩
      · replace c892 := c_lt tx6 lit_0 c892
        unfold pX11_forge_76
        refine sX11_castOf   (hI := hI) (tx1 := tx8) (tx2 := tx2) (tx3 := tx3) (tx4 := lit_0) (h0 := (by omega)) (hp := fun r_1v525 zr_1v525 w_2v526  tr_1v525 hIw_2v526 p893 => ?_)
        refine ⟨fun c894 => ?_, fun c894 => ?_⟩
        · replace c894 := c_eq tr_1v525 tx4 c894
          unfold pX11_forge_101
          obtain ⟨z895, t896, f897⟩ := t_add tx8 lit_1
          first | replace f897 := f897 (by omega) | clear f897
          intro x8_1v527 ex8_1v527
          have tx8_1v527 : Ti x8_1v527 z895 := by rw [ex8_1v527]; exact t896
          exact ih _ _ _ _ _ _ _ _ _ _ _ _ _ _ _ _ _ tx1 tx2 tx3 tx4 tx5 tx8 tr_8v523 tx8_1v527 hIw_2v526 (by omega) (by omega) (by omega) (by omega)
        · replace c894 := c_neq tr_1v525 tx4 c894
          unfold pX11_forge_101
          obtain ⟨z898, t899, f900⟩ := t_add tx8 lit_1
          first | replace f900 := f900 (by omega) | clear f900
          intro x8_1v528 ex8_1v528
          have tx8_1v528 : Ti x8_1v528 z898 := by rw [ex8_1v528]; exact t899
          exact ih _ _ _ _ _ _ _ _ _ _ _ _ _ _ _ _ _ tx1 tx2 tx3 tx4 tx5 tx6 tx7 tx8_1v528 hIw_2v526 (by omega) (by omega) (by omega) (by omega)
      · replace c892 := c_nlt tx6 lit_0 c892
        refine ⟨fun c901 => ?_, fun c901 => ?_⟩
        · replace c901 := c_le tx7 tr_8v523 c901
          unfold pX11_forge_101
          obtain ⟨z902, t903, f904⟩ := t_add tx8 lit_1
          first | replace f904 := f904 (by omega) | clear f904
          intro x8_1v529 ex8_1v529
          have tx8_1v529 : Ti x8_1v529 z902 := by rw [ex8_1v529]; exact t903
          exact ih _ _ _ _ _ _ _ _ _ _ _ _ _ _ _ _ _ tx1 tx2 tx3 tx4 tx5 tx6 tx7 tx8_1v529 hI (by omega) (by omega) (by omega) (by omega)
        · replace c901 := c_nle tx7 tr_8v523 c901
          unfold pX11_forge_76
          refine sX11_castOf   (hI := hI) (tx1 := tx8) (tx2 := tx2) (tx3 := tx3) (tx4 := lit_0) (h0 := (by omega)) (hp := fun r_1v530 zr_1v530 w_2v531  tr_1v530 hIw_2v531 p905 => ?_)
          refine ⟨fun c906 => ?_, fun c906 => ?_⟩
          · replace c906 := c_eq tr_1v530 tx4 c906
            unfold pX11_forge_101
            obtain ⟨z907, t908, f909⟩ := t_add tx8 lit_1
            first | replace f909 := f909 (by omega) | clear f909
            intro x8_1v532 ex8_1v532
            have tx8_1v532 : Ti x8_1v532 z907 := by rw [ex8_1v532]; exact t908
            exact ih _ _ _ _ _ _ _ _ _ _ _ _ _ _ _ _ _ tx1 tx2 tx3 tx4 tx5 tx8 tr_8v523 tx8_1v532 hIw_2v531 (by omega) (by omega) (by omega) (by omega)
          · replace c906 := c_neq tr_1v530 tx4 c906
            unfold pX11_forge_101
            obtain ⟨z910, t911, f912⟩ := t_add tx8 lit_1
            first | replace f912 := f912 (by omega) | clear f912
            intro x8_1v533 ex8_1v533
            have tx8_1v533 : Ti x8_1v533 z910 := by rw [ex8_1v533]; exact t911
            exact ih _ _ _ _ _ _ _ _ _ _ _ _ _ _ _ _ _ tx1 tx2 tx3 tx4 tx5 tx6 tx7 tx8_1v533 hIw_2v531 (by omega) (by omega) (by omega) (by omega)
set_option maxHeartbeats 4000000 in
set_option maxRecDepth 100000 in
theorem sX11_forge {T W H P S M : Int} {post : Int32 → Wd → Prop} {x1 : Int32} {zx1 : Int} {x2 : Int32} {zx2 : Int} {x3 : Int32} {zx3 : Int} {x4 : Int32} {zx4 : Int} {x5 : Int32} {zx5 : Int} {w : Wd}  (tx1 : Ti x1 zx1) (tx2 : Ti x2 zx2) (tx3 : Ti x3 zx3) (tx4 : Ti x4 zx4) (tx5 : Ti x5 zx5) (hI : IM T W H P S M w)  (hp : ∀ (r : Int32) (zr : Int) (w9 : Wd), Ti r zr → IM T W H P S M w9 → post r w9) : pX11_forge   post  x1 x2 x3 x4 x5 w := by
  unfold pX11_forge
  have hk := im_k hI
  refine sX11_canCast   (hI := hI) (tx1 := tx1) (tx2 := tx2) (tx3 := tx3)  (hp := fun r_1v534 zr_1v534 tr_1v534 p913 => ?_)
  refine ⟨fun c914 => ?_, fun c914 => ?_⟩
  · replace c914 := c_eq tr_1v534 lit_0 c914
    exact hp _ _ _  lit_m1 hI 
  · replace c914 := c_neq tr_1v534 lit_0 c914
    refine sX11_isRow   (hI := hI) (tx1 := tx4)  (hp := fun r_4v540 zr_4v540 tr_4v540 p915 => ?_)
    refine ⟨fun c916 => ?_, fun c916 => ?_⟩
    · replace c916 := c_eq tr_4v540 lit_0 c916
      exact hp _ _ _  lit_m1 hI 
    · replace c916 := c_neq tr_4v540 lit_0 c916
      refine sX11_isIn   (hI := hI) (tx0 := tx5) (tx1 := lit_0) (tx2 := lit_1)  (hp := fun r_7v544 zr_7v544 tr_7v544 p917 p918 => ?_)
      refine ⟨fun c919 => ?_, fun c919 => ?_⟩
      · replace c919 := c_neq tr_7v544 lit_0 c919
        exact ⟨70000, sX11_forge_40    (hp := hp) 70000 _ _ _ _ _ _ _ _ _ _ _ _ _ _ _ _ _ tx1 tx2 tx3 tx4 tx5 lit_m1 lit_0 lit_0 hI (by omega) (by omega) (by omega) (by omega)⟩
      · replace c919 := c_eq tr_7v544 lit_0 c919
        exact hp _ _ _  lit_m1 hI 
