set_option maxHeartbeats 4000000 in
set_option maxRecDepth 100000 in
theorem sX11_would {T W H P S M : Int} {post : Int32 → Wd → Prop} {x1 : Int32} {zx1 : Int} {x2 : Int32} {zx2 : Int} {x3 : Int32} {zx3 : Int} {x4 : Int32} {zx4 : Int} {w : Wd}  (tx1 : Ti x1 zx1) (tx2 : Ti x2 zx2) (tx3 : Ti x3 zx3) (tx4 : Ti x4 zx4) (hI : IM T W H P S M w)  (hp : ∀ (r : Int32) (zr : Int) (w9 : Wd), Ti r zr → IM T W H P S M w9 → post r w9) : pX11_would   post  x1 x2 x3 x4 w := by
  unfold pX11_would
  have hk := im_k hI
  refine sX11_isRow   (hI := hI) (tx1 := tx1)  (hp := fun r_1v150 zr_1v150 tr_1v150 p608 => ?_)
  refine ⟨fun c609 => ?_, fun c609 => ?_⟩
  · replace c609 := c_eq tr_1v150 lit_0 c609
    exact hp _ _ _  lit_m1 hI 
  · replace c609 := c_neq tr_1v150 lit_0 c609
    refine sX11_isHand   (hI := hI) (tx1 := tx2)  (hp := fun r_4v160 zr_4v160 tr_4v160 p610 => ?_)
    refine ⟨fun c611 => ?_, fun c611 => ?_⟩
    · replace c611 := c_eq tr_4v160 lit_0 c611
      exact hp _ _ _  lit_m1 hI 
    · replace c611 := c_neq tr_4v160 lit_0 c611
      refine sX11_isHeat   (hI := hI) (tx0 := tx3)  (hp := fun r_7v168 zr_7v168 tr_7v168 p612 => ?_)
      refine ⟨fun c613 => ?_, fun c613 => ?_⟩
      · replace c613 := c_eq tr_7v168 lit_0 c613
        exact hp _ _ _  lit_m1 hI 
      · replace c613 := c_neq tr_7v168 lit_0 c613
        refine sX11_isIn   (hI := hI) (tx0 := tx4) (tx1 := lit_0) (tx2 := lit_99)  (hp := fun r_10v174 zr_10v174 tr_10v174 p614 p615 => ?_)
        refine ⟨fun c616 => ?_, fun c616 => ?_⟩
        · replace c616 := c_eq tr_10v174 lit_0 c616
          exact hp _ _ _  lit_m1 hI 
        · replace c616 := c_neq tr_10v174 lit_0 c616
          refine sX11_castOf   (hI := hI) (tx1 := tx1) (tx2 := tx2) (tx3 := tx3) (tx4 := tx4) (h0 := (by omega)) (hp := fun r_13v178 zr_13v178 w_14v179  tr_13v178 hIw_14v179 p617 => ?_)
          exact hp _ _ _  tr_13v178 hIw_14v179 
set_option maxHeartbeats 4000000 in
set_option maxRecDepth 100000 in
theorem sX11_rowOf {T W H P S M : Int} {post : Int32 → Wd → Prop} {x1 : Int32} {zx1 : Int} {w : Wd}  (tx1 : Ti x1 zx1) (hI : IM T W H P S M w) (h0 : 0 ≤ zx1 ∧ zx1 < S) (hp : ∀ (r : Int32) (zr : Int), Ti r zr → (0 ≤ zr ∧ zr ≤ P - 1) → post r w) : pX11_rowOf   post  x1 w := by
  unfold pX11_rowOf
  have hk := im_k hI
  obtain ⟨z618, t619, f620⟩ := t_mul lit_4 tx1
  first | replace f620 := f620 (by omega) | clear f620
  refine ⟨vp_of t619 (by omega) (by omega), ?_⟩
  obtain ⟨z621, t622⟩ := t_any (w.2.1 341 ((4 : Int32) * x1).toNatClampNeg)
  have f623 := img_row (x := zx1) hI t619 t622
  first | replace f623 := f623 (by omega) | clear f623
  exact hp _ _ t622 (by omega)
set_option maxHeartbeats 4000000 in
set_option maxRecDepth 100000 in
theorem sX11_whose_31 {T W H P S M : Int} {post : Int32 → Wd → Prop}   (hp : ∀ (r : Int32) (zr : Int) (w9 : Wd), Ti r zr → IM T W H P S M w9 → post r w9) : ∀ (n : Nat) (x1 : Int32) (x2 : Int32) (x3 : Int32) (x4 : Int32) (x5 : Int32) (zx1 : Int) (zx2 : Int) (zx3 : Int) (zx4 : Int) (zx5 : Int) (w : Wd), Ti x1 zx1 → Ti x2 zx2 → Ti x3 zx3 → Ti x4 zx4 → Ti x5 zx5 → IM T W H P S M w → (0 ≤ zx5 ∧ zx5 ≤ 4) → (0 ≤ zx1 ∧ zx1 < S) → (5 - zx5) < (n : Int) → pX11_whose_31   post  n x1 x2 x3 x4 x5 w := by
  intro n
  induction n with
  | zero =>
    intro x1 x2 x3 x4 x5 zx1 zx2 zx3 zx4 zx5 w tx1 tx2 tx3 tx4 tx5 hI h0 h1 hm
    exact absurd hm (by omega)
  | succ n ih =>
    intro x1 x2 x3 x4 x5 zx1 zx2 zx3 zx4 zx5 w tx1 tx2 tx3 tx4 tx5 hI h0 h1 hm
    unfold pX11_whose_31
    have hk := im_k hI
    obtain ⟨z624, t625⟩ := t_any (w.1 300 29)
    have f626 := img_29 hI t625
    refine ⟨vp_of t625 (by omega) (by omega), ?_⟩
    obtain ⟨z627, t628⟩ := t_any (w.2.1 314 (w.1 300 29).toNatClampNeg)
    have f629 := img_314 hI t628
    refine ⟨fun c630 => ?_, fun c630 => ?_⟩
    · replace c630 := c_le t628 tx5 c630
      exact hp _ _ _  tx4 hI 
    · replace c630 := c_nle t628 tx5 c630
      refine sX11_rowOf   (hI := hI) (tx1 := tx1) (h0 := (by omega)) (hp := fun r_2v180 zr_2v180 tr_2v180 p631 => ?_)
      refine sX11_castOf   (hI := hI) (tx1 := tr_2v180) (tx2 := tx5) (tx3 := tx2) (tx4 := lit_0) (h0 := (by omega)) (hp := fun r_4v185 zr_4v185 w_5v186  tr_4v185 hIw_5v186 p632 => ?_)
      refine ⟨fun c633 => ?_, fun c633 => ?_⟩
      · replace c633 := c_neq tr_4v185 tx3 c633
        unfold pX11_whose_71
        obtain ⟨z634, t635, f636⟩ := t_add tx5 lit_1
        first | replace f636 := f636 (by omega) | clear f636
        intro x5_1v188 ex5_1v188
        have tx5_1v188 : Ti x5_1v188 z634 := by rw [ex5_1v188]; exact t635
        exact ih _ _ _ _ _ _ _ _ _ _ _ tx1 tx2 tx3 tx4 tx5_1v188 hIw_5v186 (by omega) (by omega) (by omega)
      · replace c633 := c_eq tr_4v185 tx3 c633
        obtain ⟨z637, t638, f639⟩ := t_shlW hIw_5v186 tx5
        first | replace f639 := f639 (by omega) | clear f639
        obtain ⟨z640, t641, f642⟩ := t_orW hIw_5v186 tx4 t638
        first | replace f642 := f642 (by omega) | clear f642
        intro x4_7v187 ex4_7v187
        have tx4_7v187 : Ti x4_7v187 z640 := by rw [ex4_7v187]; exact t641
        unfold pX11_whose_71
        obtain ⟨z643, t644, f645⟩ := t_add tx5 lit_1
        first | replace f645 := f645 (by omega) | clear f645
        intro x5_1v189 ex5_1v189
        have tx5_1v189 : Ti x5_1v189 z643 := by rw [ex5_1v189]; exact t644
        exact ih _ _ _ _ _ _ _ _ _ _ _ tx1 tx2 tx3 tx4_7v187 tx5_1v189 hIw_5v186 (by omega) (by omega) (by omega)
set_option maxHeartbeats 4000000 in
set_option maxRecDepth 100000 in
theorem sX11_whose {T W H P S M : Int} {post : Int32 → Wd → Prop} {x1 : Int32} {zx1 : Int} {x2 : Int32} {zx2 : Int} {x3 : Int32} {zx3 : Int} {w : Wd}  (tx1 : Ti x1 zx1) (tx2 : Ti x2 zx2) (tx3 : Ti x3 zx3) (hI : IM T W H P S M w)  (hp : ∀ (r : Int32) (zr : Int) (w9 : Wd), Ti r zr → IM T W H P S M w9 → post r w9) : pX11_whose   post  x1 x2 x3 w := by
  unfold pX11_whose
  have hk := im_k hI
  refine sX11_isSeal   (hI := hI) (tx1 := tx1)  (hp := fun r_1v190 zr_1v190 tr_1v190 p646 => ?_)
  refine ⟨fun c647 => ?_, fun c647 => ?_⟩
  · replace c647 := c_eq tr_1v190 lit_0 c647
    exact hp _ _ _  lit_m1 hI 
  · replace c647 := c_neq tr_1v190 lit_0 c647
    refine sX11_isHeat   (hI := hI) (tx0 := tx2)  (hp := fun r_4v196 zr_4v196 tr_4v196 p648 => ?_)
    refine ⟨fun c649 => ?_, fun c649 => ?_⟩
    · replace c649 := c_eq tr_4v196 lit_0 c649
      exact hp _ _ _  lit_m1 hI 
    · replace c649 := c_neq tr_4v196 lit_0 c649
      refine sX11_isRow   (hI := hI) (tx1 := tx3)  (hp := fun r_7v200 zr_7v200 tr_7v200 p650 => ?_)
      refine ⟨fun c651 => ?_, fun c651 => ?_⟩
      · replace c651 := c_neq tr_7v200 lit_0 c651
        exact ⟨70000, sX11_whose_31    (hp := hp) 70000 _ _ _ _ _ _ _ _ _ _ _ tx1 tx2 tx3 lit_0 lit_0 hI (by omega) (by omega) (by omega)⟩
      · replace c651 := c_eq tr_7v200 lit_0 c651
        exact hp _ _ _  lit_m1 hI 
set_option maxHeartbeats 4000000 in
set_option maxRecDepth 100000 in
theorem sX11_made_25 {T W H P S M : Int} {post : Int32 → Wd → Prop} {w : Wd}  (hp : ∀ (r : Int32) (zr : Int), Ti r zr → post r w) : ∀ (n : Nat) (x1 : Int32) (x2 : Int32) (x3 : Int32) (x4 : Int32) (zx1 : Int) (zx2 : Int) (zx3 : Int) (zx4 : Int), Ti x1 zx1 → Ti x2 zx2 → Ti x3 zx3 → Ti x4 zx4 → IM T W H P S M w → (0 ≤ zx4 ∧ zx4 ≤ 24) → (25 - zx4) < (n : Int) → pX11_made_25   post  n x1 x2 x3 x4 w := by
  intro n
  induction n with
  | zero =>
    intro x1 x2 x3 x4 zx1 zx2 zx3 zx4  tx1 tx2 tx3 tx4 hI h0 hm
    exact absurd hm (by omega)
  | succ n ih =>
    intro x1 x2 x3 x4 zx1 zx2 zx3 zx4  tx1 tx2 tx3 tx4 hI h0 hm
    unfold pX11_made_25
    have hk := im_k hI
    obtain ⟨z652, t653⟩ := t_any (w.2.1 341 (216 : Int32).toNatClampNeg)
    have f654 := img_216 hI t653
    refine ⟨fun c655 => ?_, fun c655 => ?_⟩
    · replace c655 := c_le t653 tx4 c655
      exact hp _ _ tx3 
    · replace c655 := c_nle t653 tx4 c655
      refine sX11_rowOf   (hI := hI) (tx1 := tx4) (h0 := (by omega)) (hp := fun r_2v202 zr_2v202 tr_2v202 p656 => ?_)
      refine sX11_turnedRow   (hI := hI) (tx1 := tr_2v202)  (hp := fun r_4v209 zr_4v209 tr_4v209 => ?_)
      obtain ⟨z657, t658⟩ := t_any (x1 &&& r_4v209)
      refine ⟨fun c659 => ?_, fun c659 => ?_⟩
      · replace c659 := c_neq t658 tx1 c659
        unfold pX11_made_76
        obtain ⟨z660, t661, f662⟩ := t_add tx4 lit_1
        first | replace f662 := f662 (by omega) | clear f662
        intro x4_1v217 ex4_1v217
        have tx4_1v217 : Ti x4_1v217 z660 := by rw [ex4_1v217]; exact t661
        exact ih _ _ _ _ _ _ _ _  tx1 tx2 tx3 tx4_1v217 hI (by omega) (by omega)
      · replace c659 := c_eq t658 tx1 c659
        obtain ⟨z663, t664, f665⟩ := t_sub tr_4v209 tx1
        first | replace f665 := f665 (by omega) | clear f665
        refine sX11_bitsOf   (hI := hI) (tx0 := t664)  (hp := fun r_7v214 zr_7v214 tr_7v214 => ?_)
        refine ⟨fun c666 => ?_, fun c666 => ?_⟩
        · replace c666 := c_lt tx2 tr_7v214 c666
          unfold pX11_made_76
          obtain ⟨z667, t668, f669⟩ := t_add tx4 lit_1
          first | replace f669 := f669 (by omega) | clear f669
          intro x4_1v219 ex4_1v219
          have tx4_1v219 : Ti x4_1v219 z667 := by rw [ex4_1v219]; exact t668
          exact ih _ _ _ _ _ _ _ _  tx1 tx2 tx3 tx4_1v219 hI (by omega) (by omega)
        · replace c666 := c_nlt tx2 tr_7v214 c666
          obtain ⟨z670, t671, f672⟩ := t_shlW hI tx4
          first | replace f672 := f672 (by omega) | clear f672
          obtain ⟨z673, t674, f675⟩ := t_orW hI tx3 t671
          first | replace f675 := f675 (by omega) | clear f675
          intro x3_10v218 ex3_10v218
          have tx3_10v218 : Ti x3_10v218 z673 := by rw [ex3_10v218]; exact t674
          unfold pX11_made_76
          obtain ⟨z676, t677, f678⟩ := t_add tx4 lit_1
          first | replace f678 := f678 (by omega) | clear f678
          intro x4_1v220 ex4_1v220
          have tx4_1v220 : Ti x4_1v220 z676 := by rw [ex4_1v220]; exact t677
          exact ih _ _ _ _ _ _ _ _  tx1 tx2 tx3_10v218 tx4_1v220 hI (by omega) (by omega)
set_option maxHeartbeats 4000000 in
set_option maxRecDepth 100000 in
theorem sX11_made {T W H P S M : Int} {post : Int32 → Wd → Prop} {x1 : Int32} {zx1 : Int} {x2 : Int32} {zx2 : Int} {w : Wd}  (tx1 : Ti x1 zx1) (tx2 : Ti x2 zx2) (hI : IM T W H P S M w)  (hp : ∀ (r : Int32) (zr : Int), Ti r zr → post r w) : pX11_made   post  x1 x2 w := by
  unfold pX11_made
  have hk := im_k hI
  refine sX11_isRow   (hI := hI) (tx1 := tx1)  (hp := fun r_1v221 zr_1v221 tr_1v221 p679 => ?_)
  refine ⟨fun c680 => ?_, fun c680 => ?_⟩
  · replace c680 := c_eq tr_1v221 lit_0 c680
    exact hp _ _ lit_m1 
  · replace c680 := c_neq tr_1v221 lit_0 c680
    refine sX11_isIn   (hI := hI) (tx0 := tx2) (tx1 := lit_0) (tx2 := lit_12)  (hp := fun r_4v225 zr_4v225 tr_4v225 p681 p682 => ?_)
    refine ⟨fun c683 => ?_, fun c683 => ?_⟩
    · replace c683 := c_neq tr_4v225 lit_0 c683
      exact ⟨70000, sX11_made_25    (hp := hp) 70000 _ _ _ _ _ _ _ _  tx1 tx2 lit_0 lit_0 hI (by omega) (by omega)⟩
    · replace c683 := c_eq tr_4v225 lit_0 c683
      exact hp _ _ lit_m1 
set_option maxHeartbeats 4000000 in
set_option maxRecDepth 100000 in
theorem sX11_apart {T W H P S M : Int} {post : Int32 → Wd → Prop} {x1 : Int32} {zx1 : Int} {x2 : Int32} {zx2 : Int} {x3 : Int32} {zx3 : Int} {w : Wd}  (tx1 : Ti x1 zx1) (tx2 : Ti x2 zx2) (tx3 : Ti x3 zx3) (hI : IM T W H P S M w)  (hp : ∀ (r : Int32) (zr : Int), Ti r zr → post r w) : pX11_apart   post  x1 x2 x3 w := by
  unfold pX11_apart
  have hk := im_k hI
  refine sX11_isSeal   (hI := hI) (tx1 := tx1)  (hp := fun r_1v227 zr_1v227 tr_1v227 p684 => ?_)
  refine ⟨fun c685 => ?_, fun c685 => ?_⟩
  · replace c685 := c_eq tr_1v227 lit_0 c685
    exact hp _ _ lit_m1 
  · replace c685 := c_neq tr_1v227 lit_0 c685
    refine sX11_isSeal   (hI := hI) (tx1 := tx2)  (hp := fun r_4v243 zr_4v243 tr_4v243 p686 => ?_)
    refine ⟨fun c687 => ?_, fun c687 => ?_⟩
    · replace c687 := c_eq tr_4v243 lit_0 c687
      exact hp _ _ lit_m1 
    · replace c687 := c_neq tr_4v243 lit_0 c687
      refine sX11_rowOf   (hI := hI) (tx1 := tx1) (h0 := (by omega)) (hp := fun r_7v257 zr_7v257 tr_7v257 p688 => ?_)
      refine ⟨fun c689 => ?_, fun c689 => ?_⟩
      · replace c689 := c_eq tx3 lit_0 c689
        refine sX11_rowOf   (hI := hI) (tx1 := tx2) (h0 := (by omega)) (hp := fun r_10v269 zr_10v269 tr_10v269 p690 => ?_)
        obtain ⟨z691, t692⟩ := t_any (r_7v257 ^^^ r_10v269)
        refine sX11_bitsOf   (hI := hI) (tx0 := t692)  (hp := fun r_12v279 zr_12v279 tr_12v279 => ?_)
        exact hp _ _ tr_12v279 
      · replace c689 := c_neq tx3 lit_0 c689
        refine sX11_rowOf   (hI := hI) (tx1 := tx2) (h0 := (by omega)) (hp := fun r_14v273 zr_14v273 tr_14v273 p693 => ?_)
        refine sX11_turnedRow   (hI := hI) (tx1 := tr_14v273)  (hp := fun r_16v281 zr_16v281 tr_16v281 => ?_)
        obtain ⟨z694, t695⟩ := t_any (r_7v257 ^^^ r_16v281)
        refine sX11_bitsOf   (hI := hI) (tx0 := t695)  (hp := fun r_18v285 zr_18v285 tr_18v285 => ?_)
        exact hp _ _ tr_18v285 
set_option maxHeartbeats 4000000 in
set_option maxRecDepth 100000 in
theorem sX11_heats_32 {T W H P S M : Int} {post : Int32 → Wd → Prop}   (hp : ∀ (r : Int32) (zr : Int) (w9 : Wd), Ti r zr → IM T W H P S M w9 → post r w9) : ∀ (n : Nat) (x1 : Int32) (x2 : Int32) (x3 : Int32) (x4 : Int32) (x5 : Int32) (zx1 : Int) (zx2 : Int) (zx3 : Int) (zx4 : Int) (zx5 : Int) (w : Wd), Ti x1 zx1 → Ti x2 zx2 → Ti x3 zx3 → Ti x4 zx4 → Ti x5 zx5 → IM T W H P S M w → (0 ≤ zx5 ∧ zx5 ≤ 10) → (0 ≤ zx1 ∧ zx1 < S) → (0 ≤ zx2 ∧ zx2 < H) → (11 - zx5) < (n : Int) → pX11_heats_32   post  n x1 x2 x3 x4 x5 w := by
  intro n
  induction n with
  | zero =>
    intro x1 x2 x3 x4 x5 zx1 zx2 zx3 zx4 zx5 w tx1 tx2 tx3 tx4 tx5 hI h0 h1 h2 hm
    exact absurd hm (by omega)
  | succ n ih =>
    intro x1 x2 x3 x4 x5 zx1 zx2 zx3 zx4 zx5 w tx1 tx2 tx3 tx4 tx5 hI h0 h1 h2 hm
    unfold pX11_heats_32
    have hk := im_k hI
    refine ⟨fun c696 => ?_, fun c696 => ?_⟩
    · replace c696 := c_lt lit_9 tx5 c696
      exact hp _ _ _  tx4 hI 
    · replace c696 := c_nlt lit_9 tx5 c696
      refine sX11_rowOf   (hI := hI) (tx1 := tx1) (h0 := (by omega)) (hp := fun r_2v287 zr_2v287 tr_2v287 p697 => ?_)
      refine sX11_castOf   (hI := hI) (tx1 := tr_2v287) (tx2 := tx2) (tx3 := tx5) (tx4 := lit_0) (h0 := (by omega)) (hp := fun r_4v292 zr_4v292 w_5v293  tr_4v292 hIw_5v293 p698 => ?_)
      refine ⟨fun c699 => ?_, fun c699 => ?_⟩
      · replace c699 := c_neq tr_4v292 tx3 c699
        unfold pX11_heats_65
        obtain ⟨z700, t701, f702⟩ := t_add tx5 lit_1
        first | replace f702 := f702 (by omega) | clear f702
        intro x5_1v295 ex5_1v295
        have tx5_1v295 : Ti x5_1v295 z700 := by rw [ex5_1v295]; exact t701
        exact ih _ _ _ _ _ _ _ _ _ _ _ tx1 tx2 tx3 tx4 tx5_1v295 hIw_5v293 (by omega) (by omega) (by omega) (by omega)
      · replace c699 := c_eq tr_4v292 tx3 c699
        obtain ⟨z703, t704, f705⟩ := t_shlW hIw_5v293 tx5
        first | replace f705 := f705 (by omega) | clear f705
        obtain ⟨z706, t707, f708⟩ := t_orW hIw_5v293 tx4 t704
        first | replace f708 := f708 (by omega) | clear f708
        intro x4_7v294 ex4_7v294
        have tx4_7v294 : Ti x4_7v294 z706 := by rw [ex4_7v294]; exact t707
        unfold pX11_heats_65
        obtain ⟨z709, t710, f711⟩ := t_add tx5 lit_1
        first | replace f711 := f711 (by omega) | clear f711
        intro x5_1v296 ex5_1v296
        have tx5_1v296 : Ti x5_1v296 z709 := by rw [ex5_1v296]; exact t710
        exact ih _ _ _ _ _ _ _ _ _ _ _ tx1 tx2 tx3 tx4_7v294 tx5_1v296 hIw_5v293 (by omega) (by omega) (by omega) (by omega)
set_option maxHeartbeats 4000000 in
set_option maxRecDepth 100000 in
theorem sX11_heats {T W H P S M : Int} {post : Int32 → Wd → Prop} {x1 : Int32} {zx1 : Int} {x2 : Int32} {zx2 : Int} {x3 : Int32} {zx3 : Int} {w : Wd}  (tx1 : Ti x1 zx1) (tx2 : Ti x2 zx2) (tx3 : Ti x3 zx3) (hI : IM T W H P S M w)  (hp : ∀ (r : Int32) (zr : Int) (w9 : Wd), Ti r zr → IM T W H P S M w9 → post r w9) : pX11_heats   post  x1 x2 x3 w := by
  unfold pX11_heats
  have hk := im_k hI
  refine sX11_isSeal   (hI := hI) (tx1 := tx1)  (hp := fun r_1v297 zr_1v297 tr_1v297 p712 => ?_)
  refine ⟨fun c713 => ?_, fun c713 => ?_⟩
  · replace c713 := c_eq tr_1v297 lit_0 c713
    exact hp _ _ _  lit_m1 hI 
  · replace c713 := c_neq tr_1v297 lit_0 c713
    refine sX11_isHand   (hI := hI) (tx1 := tx2)  (hp := fun r_4v303 zr_4v303 tr_4v303 p714 => ?_)
    refine ⟨fun c715 => ?_, fun c715 => ?_⟩
    · replace c715 := c_eq tr_4v303 lit_0 c715
      exact hp _ _ _  lit_m1 hI 
    · replace c715 := c_neq tr_4v303 lit_0 c715
      refine sX11_isRow   (hI := hI) (tx1 := tx3)  (hp := fun r_7v307 zr_7v307 tr_7v307 p716 => ?_)
      refine ⟨fun c717 => ?_, fun c717 => ?_⟩
      · replace c717 := c_neq tr_7v307 lit_0 c717
        exact ⟨70000, sX11_heats_32    (hp := hp) 70000 _ _ _ _ _ _ _ _ _ _ _ tx1 tx2 tx3 lit_0 lit_0 hI (by omega) (by omega) (by omega) (by omega)⟩
      · replace c717 := c_eq tr_7v307 lit_0 c717
        exact hp _ _ _  lit_m1 hI 
set_option maxHeartbeats 4000000 in
set_option maxRecDepth 100000 in
theorem sX11_canCast {T W H P S M : Int} {post : Int32 → Wd → Prop} {x1 : Int32} {zx1 : Int} {x2 : Int32} {zx2 : Int} {x3 : Int32} {zx3 : Int} {w : Wd}  (tx1 : Ti x1 zx1) (tx2 : Ti x2 zx2) (tx3 : Ti x3 zx3) (hI : IM T W H P S M w)  (hp : ∀ (r : Int32) (zr : Int), Ti r zr → ((zr = 0 ∨ (0 ≤ zx1 ∧ zx1 < S ∧ 0 ≤ zx2 ∧ zx2 < H ∧ 0 ≤ zx3 ∧ zx3 ≤ 9))) → post r w) : pX11_canCast   post  x1 x2 x3 w := by
  unfold pX11_canCast
  have hk := im_k hI
  refine sX11_isSeal   (hI := hI) (tx1 := tx1)  (hp := fun r_1v309 zr_1v309 tr_1v309 p718 => ?_)
  refine ⟨fun c719 => ?_, fun c719 => ?_⟩
  · replace c719 := c_eq tr_1v309 lit_0 c719
    exact hp _ _ lit_0 (by omega)
  · replace c719 := c_neq tr_1v309 lit_0 c719
    refine sX11_isHand   (hI := hI) (tx1 := tx2)  (hp := fun r_4v315 zr_4v315 tr_4v315 p720 => ?_)
    refine ⟨fun c721 => ?_, fun c721 => ?_⟩
    · replace c721 := c_eq tr_4v315 lit_0 c721
      exact hp _ _ lit_0 (by omega)
    · replace c721 := c_neq tr_4v315 lit_0 c721
      refine sX11_isHeat   (hI := hI) (tx0 := tx3)  (hp := fun r_7v319 zr_7v319 tr_7v319 p722 => ?_)
      refine ⟨fun c723 => ?_, fun c723 => ?_⟩
      · replace c723 := c_eq tr_7v319 lit_0 c723
        exact hp _ _ lit_0 (by omega)
      · replace c723 := c_neq tr_7v319 lit_0 c723
        exact hp _ _ lit_1 (by omega)
set_option maxHeartbeats 4000000 in
set_option maxRecDepth 100000 in
theorem sX11_luckOf_6 {T W H P S M : Int} {post : Int32 → Wd → Prop}   (hp : ∀ (r : Int32) (zr : Int) (w9 : Wd), Ti r zr → IM T W H P S M w9 → post r w9) : ∀ (n : Nat) (x1 : Int32) (x2 : Int32) (x3 : Int32) (x4 : Int32) (x5 : Int32) (x6 : Int32) (zx1 : Int) (zx2 : Int) (zx3 : Int) (zx4 : Int) (zx5 : Int) (zx6 : Int) (w : Wd), Ti x1 zx1 → Ti x2 zx2 → Ti x3 zx3 → Ti x4 zx4 → Ti x5 zx5 → Ti x6 zx6 → IM T W H P S M w → (0 ≤ zx6 ∧ zx6 ≤ 100) → (0 ≤ zx1 ∧ zx1 < S) → (0 ≤ zx2 ∧ zx2 < H) → (101 - zx6) < (n : Int) → pX11_luckOf_6   post  n x1 x2 x3 x4 x5 x6 w := by
  intro n
  induction n with
  | zero =>
    intro x1 x2 x3 x4 x5 x6 zx1 zx2 zx3 zx4 zx5 zx6 w tx1 tx2 tx3 tx4 tx5 tx6 hI h0 h1 h2 hm
    exact absurd hm (by omega)
  | succ n ih =>
    intro x1 x2 x3 x4 x5 x6 zx1 zx2 zx3 zx4 zx5 zx6 w tx1 tx2 tx3 tx4 tx5 tx6 hI h0 h1 h2 hm
    unfold pX11_luckOf_6
    have hk := im_k hI
    refine ⟨fun c724 => ?_, fun c724 => ?_⟩
    · replace c724 := c_le lit_100 tx6 c724
      exact hp _ _ _  tx5 hI 
    · replace c724 := c_nle lit_100 tx6 c724
      refine sX11_rowOf   (hI := hI) (tx1 := tx1) (h0 := (by omega)) (hp := fun r_2v321 zr_2v321 tr_2v321 p725 => ?_)
      refine sX11_castOf   (hI := hI) (tx1 := tr_2v321) (tx2 := tx2) (tx3 := tx3) (tx4 := tx6) (h0 := (by omega)) (hp := fun r_4v325 zr_4v325 w_5v326  tr_4v325 hIw_5v326 p726 => ?_)
      refine ⟨fun c727 => ?_, fun c727 => ?_⟩
      · replace c727 := c_neq tr_4v325 tx4 c727
        unfold pX11_luckOf_38
        obtain ⟨z728, t729, f730⟩ := t_add tx5 lit_0
        first | replace f730 := f730 (by omega) | clear f730
        intro x5_1v327 ex5_1v327
        have tx5_1v327 : Ti x5_1v327 z728 := by rw [ex5_1v327]; exact t729
        obtain ⟨z731, t732, f733⟩ := t_add tx6 lit_1
        first | replace f733 := f733 (by omega) | clear f733
        intro x6_2v328 ex6_2v328
        have tx6_2v328 : Ti x6_2v328 z731 := by rw [ex6_2v328]; exact t732
        exact ih _ _ _ _ _ _ _ _ _ _ _ _ _ tx1 tx2 tx3 tx4 tx5_1v327 tx6_2v328 hIw_5v326 (by omega) (by omega) (by omega) (by omega)
      · replace c727 := c_eq tr_4v325 tx4 c727
        unfold pX11_luckOf_38
        obtain ⟨z734, t735, f736⟩ := t_add tx5 lit_1
        first | replace f736 := f736 (by omega) | clear f736
        intro x5_1v329 ex5_1v329
        have tx5_1v329 : Ti x5_1v329 z734 := by rw [ex5_1v329]; exact t735
        obtain ⟨z737, t738, f739⟩ := t_add tx6 lit_1
        first | replace f739 := f739 (by omega) | clear f739
        intro x6_2v330 ex6_2v330
        have tx6_2v330 : Ti x6_2v330 z737 := by rw [ex6_2v330]; exact t738
        exact ih _ _ _ _ _ _ _ _ _ _ _ _ _ tx1 tx2 tx3 tx4 tx5_1v329 tx6_2v330 hIw_5v326 (by omega) (by omega) (by omega) (by omega)
set_option maxHeartbeats 4000000 in
set_option maxRecDepth 100000 in
theorem sX11_luckOf {T W H P S M : Int} {post : Int32 → Wd → Prop} {x1 : Int32} {zx1 : Int} {x2 : Int32} {zx2 : Int} {x3 : Int32} {zx3 : Int} {x4 : Int32} {zx4 : Int} {w : Wd}  (tx1 : Ti x1 zx1) (tx2 : Ti x2 zx2) (tx3 : Ti x3 zx3) (tx4 : Ti x4 zx4) (hI : IM T W H P S M w) (h0 : 0 ≤ zx1 ∧ zx1 < S) (h1 : 0 ≤ zx2 ∧ zx2 < H) (hp : ∀ (r : Int32) (zr : Int) (w9 : Wd), Ti r zr → IM T W H P S M w9 → post r w9) : pX11_luckOf   post  x1 x2 x3 x4 w := by
  unfold pX11_luckOf
  have hk := im_k hI
  exact ⟨70000, sX11_luckOf_6    (hp := hp) 70000 _ _ _ _ _ _ _ _ _ _ _ _ _ tx1 tx2 tx3 tx4 lit_0 lit_0 hI (by omega) (by omega) (by omega) (by omega)⟩
set_option maxHeartbeats 4000000 in
set_option maxRecDepth 100000 in
theorem sX11_luck {T W H P S M : Int} {post : Int32 → Wd → Prop} {x1 : Int32} {zx1 : Int} {x2 : Int32} {zx2 : Int} {x3 : Int32} {zx3 : Int} {x4 : Int32} {zx4 : Int} {w : Wd}  (tx1 : Ti x1 zx1) (tx2 : Ti x2 zx2) (tx3 : Ti x3 zx3) (tx4 : Ti x4 zx4) (hI : IM T W H P S M w)  (hp : ∀ (r : Int32) (zr : Int) (w9 : Wd), Ti r zr → IM T W H P S M w9 → post r w9) : pX11_luck   post  x1 x2 x3 x4 w := by
  unfold pX11_luck
  have hk := im_k hI
  refine sX11_canCast   (hI := hI) (tx1 := tx1) (tx2 := tx2) (tx3 := tx3)  (hp := fun r_1v331 zr_1v331 tr_1v331 p740 => ?_)
  refine ⟨fun c741 => ?_, fun c741 => ?_⟩
  · replace c741 := c_eq tr_1v331 lit_0 c741
    exact hp _ _ _  lit_m1 hI 
  · replace c741 := c_neq tr_1v331 lit_0 c741
    refine sX11_isRow   (hI := hI) (tx1 := tx4)  (hp := fun r_4v337 zr_4v337 tr_4v337 p742 => ?_)
    refine ⟨fun c743 => ?_, fun c743 => ?_⟩
    · replace c743 := c_eq tr_4v337 lit_0 c743
      exact hp _ _ _  lit_m1 hI 
    · replace c743 := c_neq tr_4v337 lit_0 c743
      refine sX11_luckOf   (hI := hI) (tx1 := tx1) (tx2 := tx2) (tx3 := tx3) (tx4 := tx4) (h0 := (by omega)) (h1 := (by omega)) (hp := fun r_7v341 zr_7v341 w_8v342  tr_7v341 hIw_8v342  => ?_)
      exact hp _ _ _  tr_7v341 hIw_8v342 
set_option maxHeartbeats 4000000 in
set_option maxRecDepth 100000 in
theorem sX11_likely_80 {T W H P S M : Int} {k67 : Int32 → Int32 → Int32 → Int32 → Wd → Prop} {M67 : Int} {post : Int32 → Wd → Prop}  (hk67 : ∀ (x4 : Int32) (x5 : Int32) (x6 : Int32) (x7 : Int32) (zx4 : Int) (zx5 : Int) (zx6 : Int) (zx7 : Int) (w : Wd), Ti x4 zx4 → Ti x5 zx5 → Ti x6 zx6 → Ti x7 zx7 → IM T W H P S M w → (0 ≤ zx7 ∧ zx7 ≤ 100) → (101 - zx7) < M67 → k67 x4 x5 x6 x7 w) (hp : ∀ (r : Int32) (zr : Int) (w9 : Wd), Ti r zr → IM T W H P S M w9 → post r w9) : ∀ (n : Nat) (x4 : Int32) (x5 : Int32) (x6 : Int32) (x7 : Int32) (x8 : Int32) (x9 : Int32) (zx4 : Int) (zx5 : Int) (zx6 : Int) (zx7 : Int) (zx8 : Int) (zx9 : Int) (w : Wd), Ti x4 zx4 → Ti x5 zx5 → Ti x6 zx6 → Ti x7 zx7 → Ti x8 zx8 → Ti x9 zx9 → IM T W H P S M w → (0 ≤ zx9 ∧ zx9 ≤ 100) → (0 ≤ zx7 ∧ zx7 ≤ 99) → (0 ≤ zx7 ∧ zx7 ≤ 100) → ((101 - zx7) ≤ M67) → (101 - zx9) < (n : Int) → pX11_likely_80 k67  post  n x4 x5 x6 x7 x8 x9 w := by
  intro n
  induction n with
  | zero =>
    intro x4 x5 x6 x7 x8 x9 zx4 zx5 zx6 zx7 zx8 zx9 w tx4 tx5 tx6 tx7 tx8 tx9 hI h0 h1 h2 h3 hm
    exact absurd hm (by omega)
  | succ n ih =>
    intro x4 x5 x6 x7 x8 x9 zx4 zx5 zx6 zx7 zx8 zx9 w tx4 tx5 tx6 tx7 tx8 tx9 hI h0 h1 h2 h3 hm
    unfold pX11_likely_80
    have hk := im_k hI
    refine ⟨fun c744 => ?_, fun c744 => ?_⟩
    · replace c744 := c_le lit_100 tx9 c744
      refine ⟨fun c745 => ?_, fun c745 => ?_⟩
      · replace c745 := c_lt tx8 tx6 c745
        unfold pX11_likely_162
        obtain ⟨z746, t747, f748⟩ := t_add tx7 lit_1
        first | replace f748 := f748 (by omega) | clear f748
        intro x7_1v343 ex7_1v343
        have tx7_1v343 : Ti x7_1v343 z746 := by rw [ex7_1v343]; exact t747
        exact hk67 _ _ _ _ _ _ _ _ _ tx4 tx5 tx6 tx7_1v343 hI (by omega) (by omega)
      · replace c745 := c_nlt tx8 tx6 c745
        refine ⟨fun c749 => ?_, fun c749 => ?_⟩
        · replace c749 := c_neq tx8 tx6 c749
          unfold pX11_likely_149
          refine ⟨vp_of tx7 (by omega) (by omega), ?_⟩
          obtain ⟨z750, t751⟩ := t_any (w.2.1 345 x7.toNatClampNeg)
          intro x5_1v344 ex5_1v344
          have tx5_1v344 : Ti x5_1v344 z750 := by rw [ex5_1v344]; exact t751
          unfold pX11_likely_162
          obtain ⟨z753, t754, f755⟩ := t_add tx7 lit_1
          first | replace f755 := f755 (by omega) | clear f755
          intro x7_1v345 ex7_1v345
          have tx7_1v345 : Ti x7_1v345 z753 := by rw [ex7_1v345]; exact t754
          exact hk67 _ _ _ _ _ _ _ _ _ tx4 tx5_1v344 tx8 tx7_1v345 hI (by omega) (by omega)
        · replace c749 := c_eq tx8 tx6 c749
          refine ⟨vp_of tx7 (by omega) (by omega), ?_⟩
          obtain ⟨z756, t757⟩ := t_any (w.2.1 345 x7.toNatClampNeg)
          refine ⟨fun c759 => ?_, fun c759 => ?_⟩
          · replace c759 := c_lt t757 tx5 c759
            unfold pX11_likely_149
            refine ⟨vp_of tx7 (by omega) (by omega), ?_⟩
            intro x5_1v346 ex5_1v346
            have tx5_1v346 : Ti x5_1v346 z756 := by rw [ex5_1v346]; exact t757
            unfold pX11_likely_162
            obtain ⟨z760, t761, f762⟩ := t_add tx7 lit_1
            first | replace f762 := f762 (by omega) | clear f762
            intro x7_1v347 ex7_1v347
            have tx7_1v347 : Ti x7_1v347 z760 := by rw [ex7_1v347]; exact t761
            exact hk67 _ _ _ _ _ _ _ _ _ tx4 tx5_1v346 tx8 tx7_1v347 hI (by omega) (by omega)
          · replace c759 := c_nlt t757 tx5 c759
            unfold pX11_likely_162
            obtain ⟨z763, t764, f765⟩ := t_add tx7 lit_1
            first | replace f765 := f765 (by omega) | clear f765
            intro x7_1v348 ex7_1v348
            have tx7_1v348 : Ti x7_1v348 z763 := by rw [ex7_1v348]; exact t764
            exact hk67 _ _ _ _ _ _ _ _ _ tx4 tx5 tx6 tx7_1v348 hI (by omega) (by omega)
    · replace c744 := c_nle lit_100 tx9 c744
      refine ⟨vp_of tx9 (by omega) (by omega), ?_⟩
      refine ⟨vp_of tx7 (by omega) (by omega), ?_⟩
      obtain ⟨z766, t767⟩ := t_any (w.2.1 345 x9.toNatClampNeg)
      obtain ⟨z769, t770⟩ := t_any (w.2.1 345 x7.toNatClampNeg)
      refine ⟨fun c772 => ?_, fun c772 => ?_⟩
      · replace c772 := c_neq t767 t770 c772
        unfold pX11_likely_111
        obtain ⟨z773, t774, f775⟩ := t_add tx8 lit_0
        first | replace f775 := f775 (by omega) | clear f775
        intro x8_1v349 ex8_1v349
        have tx8_1v349 : Ti x8_1v349 z773 := by rw [ex8_1v349]; exact t774
        obtain ⟨z776, t777, f778⟩ := t_add tx9 lit_1
        first | replace f778 := f778 (by omega) | clear f778
        intro x9_2v350 ex9_2v350
        have tx9_2v350 : Ti x9_2v350 z776 := by rw [ex9_2v350]; exact t777
        exact ih _ _ _ _ _ _ _ _ _ _ _ _ _ tx4 tx5 tx6 tx7 tx8_1v349 tx9_2v350 hI (by omega) (by omega) (by omega) (by omega) (by omega)
      · replace c772 := c_eq t767 t770 c772
        unfold pX11_likely_111
        obtain ⟨z779, t780, f781⟩ := t_add tx8 lit_1
        first | replace f781 := f781 (by omega) | clear f781
        intro x8_1v351 ex8_1v351
        have tx8_1v351 : Ti x8_1v351 z779 := by rw [ex8_1v351]; exact t780
        obtain ⟨z782, t783, f784⟩ := t_add tx9 lit_1
        first | replace f784 := f784 (by omega) | clear f784
        intro x9_2v352 ex9_2v352
        have tx9_2v352 : Ti x9_2v352 z782 := by rw [ex9_2v352]; exact t783
        exact ih _ _ _ _ _ _ _ _ _ _ _ _ _ tx4 tx5 tx6 tx7 tx8_1v351 tx9_2v352 hI (by omega) (by omega) (by omega) (by omega) (by omega)
set_option maxHeartbeats 4000000 in
set_option maxRecDepth 100000 in
theorem sX11_likely_67 {T W H P S M : Int} {post : Int32 → Wd → Prop}   (hp : ∀ (r : Int32) (zr : Int) (w9 : Wd), Ti r zr → IM T W H P S M w9 → post r w9) : ∀ (n : Nat) (x4 : Int32) (x5 : Int32) (x6 : Int32) (x7 : Int32) (zx4 : Int) (zx5 : Int) (zx6 : Int) (zx7 : Int) (w : Wd), Ti x4 zx4 → Ti x5 zx5 → Ti x6 zx6 → Ti x7 zx7 → IM T W H P S M w → (0 ≤ zx7 ∧ zx7 ≤ 100) → (101 - zx7) < (n : Int) → pX11_likely_67   post  n x4 x5 x6 x7 w := by
  intro n
  induction n with
  | zero =>
    intro x4 x5 x6 x7 zx4 zx5 zx6 zx7 w tx4 tx5 tx6 tx7 hI h0 hm
    exact absurd hm (by omega)
  | succ n ih =>
    intro x4 x5 x6 x7 zx4 zx5 zx6 zx7 w tx4 tx5 tx6 tx7 hI h0 hm
    unfold pX11_likely_67
    have hk := im_k hI
    refine ⟨fun c785 => ?_, fun c785 => ?_⟩
    · replace c785 := c_le lit_100 tx7 c785
      refine ⟨fun c786 => ?_, fun c786 => ?_⟩
      · replace c786 := c_neq tx4 lit_0 c786
        exact hp _ _ _  tx6 hI 
      · replace c786 := c_eq tx4 lit_0 c786
        exact hp _ _ _  tx5 hI 
    · replace c785 := c_nle lit_100 tx7 c785
      exact ⟨70000, sX11_likely_80  (M67 := (n : Int)) (hk67 := ih)  (hp := hp) 70000 _ _ _ _ _ _ _ _ _ _ _ _ _ tx4 tx5 tx6 tx7 lit_0 lit_0 hI (by omega) (by omega) (by omega) (by omega) (by omega)⟩
set_option maxHeartbeats 4000000 in
set_option maxRecDepth 100000 in
theorem sX11_likely_25 {T W H P S M : Int} {post : Int32 → Wd → Prop}   (hp : ∀ (r : Int32) (zr : Int) (w9 : Wd), Ti r zr → IM T W H P S M w9 → post r w9) : ∀ (n : Nat) (x1 : Int32) (x2 : Int32) (x3 : Int32) (x4 : Int32) (x5 : Int32) (zx1 : Int) (zx2 : Int) (zx3 : Int) (zx4 : Int) (zx5 : Int) (w : Wd), Ti x1 zx1 → Ti x2 zx2 → Ti x3 zx3 → Ti x4 zx4 → Ti x5 zx5 → IM T W H P S M w → (0 ≤ zx5 ∧ zx5 ≤ 100) → (0 ≤ zx1 ∧ zx1 < S) → (0 ≤ zx2 ∧ zx2 < H) → (101 - zx5) < (n : Int) → pX11_likely_25   post  n x1 x2 x3 x4 x5 w := by
  intro n
  induction n with
  | zero =>
    intro x1 x2 x3 x4 x5 zx1 zx2 zx3 zx4 zx5 w tx1 tx2 tx3 tx4 tx5 hI h0 h1 h2 hm
    exact absurd hm (by omega)
  | succ n ih =>
    intro x1 x2 x3 x4 x5 zx1 zx2 zx3 zx4 zx5 w tx1 tx2 tx3 tx4 tx5 hI h0 h1 h2 hm
    unfold pX11_likely_25
    have hk := im_k hI
    refine ⟨fun c787 => ?_, fun c787 => ?_⟩
    · replace c787 := c_le lit_100 tx5 c787
      exact ⟨70000, sX11_likely_67    (hp := hp) 70000 _ _ _ _ _ _ _ _ _ tx4 lit_m1 lit_0 lit_0 hI (by omega) (by omega)⟩
    · replace c787 := c_nle lit_100 tx5 c787
      refine sX11_rowOf   (hI := hI) (tx1 := tx1) (h0 := (by omega)) (hp := fun r_2v353 zr_2v353 tr_2v353 p788 => ?_)
      refine sX11_castOf   (hI := hI) (tx1 := tr_2v353) (tx2 := tx2) (tx3 := tx3) (tx4 := tx5) (h0 := (by omega)) (hp := fun r_4v359 zr_4v359 w_5v360  tr_4v359 hIw_5v360 p789 => ?_)
      refine ⟨vp_of tx5 (by omega) (by omega), ?_⟩
      intro w_6v361 ew_6v361
      have hIw_6v361 := ims_A hIw_5v360 ew_6v361 (by decide)
      obtain ⟨z790, t791, f792⟩ := t_add tx5 lit_1
      first | replace f792 := f792 (by omega) | clear f792
      intro x5_7v362 ex5_7v362
      have tx5_7v362 : Ti x5_7v362 z790 := by rw [ex5_7v362]; exact t791
      exact ih _ _ _ _ _ _ _ _ _ _ _ tx1 tx2 tx3 tx4 tx5_7v362 hIw_6v361 (by omega) (by omega) (by omega) (by omega)
set_option maxHeartbeats 4000000 in
set_option maxRecDepth 100000 in
theorem sX11_likely {T W H P S M : Int} {post : Int32 → Wd → Prop} {x1 : Int32} {zx1 : Int} {x2 : Int32} {zx2 : Int} {x3 : Int32} {zx3 : Int} {x4 : Int32} {zx4 : Int} {w : Wd}  (tx1 : Ti x1 zx1) (tx2 : Ti x2 zx2) (tx3 : Ti x3 zx3) (tx4 : Ti x4 zx4) (hI : IM T W H P S M w)  (hp : ∀ (r : Int32) (zr : Int) (w9 : Wd), Ti r zr → IM T W H P S M w9 → post r w9) : pX11_likely   post  x1 x2 x3 x4 w := by
  unfold pX11_likely
  have hk := im_k hI
  refine sX11_canCast   (hI := hI) (tx1 := tx1) (tx2 := tx2) (tx3 := tx3)  (hp := fun r_1v363 zr_1v363 tr_1v363 p793 => ?_)
  refine ⟨fun c794 => ?_, fun c794 => ?_⟩
  · replace c794 := c_eq tr_1v363 lit_0 c794
    exact hp _ _ _  lit_m1 hI 
  · replace c794 := c_neq tr_1v363 lit_0 c794
    refine sX11_isIn   (hI := hI) (tx0 := tx4) (tx1 := lit_0) (tx2 := lit_1)  (hp := fun r_4v367 zr_4v367 tr_4v367 p795 p796 => ?_)
    refine ⟨fun c797 => ?_, fun c797 => ?_⟩
    · replace c797 := c_neq tr_4v367 lit_0 c797
      exact ⟨70000, sX11_likely_25    (hp := hp) 70000 _ _ _ _ _ _ _ _ _ _ _ tx1 tx2 tx3 tx4 lit_0 hI (by omega) (by omega) (by omega) (by omega)⟩
    · replace c797 := c_eq tr_4v367 lit_0 c797
      exact hp _ _ _  lit_m1 hI 
set_option maxHeartbeats 4000000 in
set_option maxRecDepth 100000 in
theorem sX11_fades_22 {T W H P S M : Int} {post : Int32 → Wd → Prop}   (hp : ∀ (r : Int32) (zr : Int) (w9 : Wd), Ti r zr → IM T W H P S M w9 → post r w9) : ∀ (n : Nat) (x2 : Int32) (x3 : Int32) (x4 : Int32) (x5 : Int32) (zx2 : Int) (zx3 : Int) (zx4 : Int) (zx5 : Int) (w : Wd), Ti x2 zx2 → Ti x3 zx3 → Ti x4 zx4 → Ti x5 zx5 → IM T W H P S M w → (0 ≤ zx5 ∧ zx5 ≤ 4097) → (0 ≤ zx2 ∧ zx2 < H) → (4098 - zx5) < (n : Int) → pX11_fades_22   post  n x2 x3 x4 x5 w := by
  intro n
  induction n with
  | zero =>
    intro x2 x3 x4 x5 zx2 zx3 zx4 zx5 w tx2 tx3 tx4 tx5 hI h0 h1 hm
    exact absurd hm (by omega)
  | succ n ih =>
    intro x2 x3 x4 x5 zx2 zx3 zx4 zx5 w tx2 tx3 tx4 tx5 hI h0 h1 hm
    unfold pX11_fades_22
    have hk := im_k hI
    refine ⟨fun c798 => ?_, fun c798 => ?_⟩
    · replace c798 := c_lt lit_4096 tx5 c798
      exact hp _ _ _  lit_m1 hI 
    · replace c798 := c_nlt lit_4096 tx5 c798
      refine ⟨fun c799 => ?_, fun c799 => ?_⟩
      · replace c799 := c_neq tx4 lit_0 c799
        refine sX11_castOf   (hI := hI) (tx1 := tx4) (tx2 := tx2) (tx3 := tx3) (tx4 := lit_0) (h0 := (by omega)) (hp := fun r_3v369 zr_3v369 w_4v370  tr_3v369 hIw_4v370 p800 => ?_)
        obtain ⟨z801, t802, f803⟩ := t_add tx5 lit_1
        first | replace f803 := f803 (by omega) | clear f803
        intro x5_5v371 ex5_5v371
        have tx5_5v371 : Ti x5_5v371 z801 := by rw [ex5_5v371]; exact t802
        exact ih _ _ _ _ _ _ _ _ _ tx2 tx3 tr_3v369 tx5_5v371 hIw_4v370 (by omega) (by omega) (by omega)
      · replace c799 := c_eq tx4 lit_0 c799
        exact hp _ _ _  tx5 hI 
set_option maxHeartbeats 4000000 in
set_option maxRecDepth 100000 in
theorem sX11_fades {T W H P S M : Int} {post : Int32 → Wd → Prop} {x1 : Int32} {zx1 : Int} {x2 : Int32} {zx2 : Int} {x3 : Int32} {zx3 : Int} {w : Wd}  (tx1 : Ti x1 zx1) (tx2 : Ti x2 zx2) (tx3 : Ti x3 zx3) (hI : IM T W H P S M w)  (hp : ∀ (r : Int32) (zr : Int) (w9 : Wd), Ti r zr → IM T W H P S M w9 → post r w9) : pX11_fades   post  x1 x2 x3 w := by
  unfold pX11_fades
  have hk := im_k hI
  refine sX11_canCast   (hI := hI) (tx1 := tx1) (tx2 := tx2) (tx3 := tx3)  (hp := fun r_1v372 zr_1v372 tr_1v372 p804 => ?_)
  refine ⟨fun c805 => ?_, fun c805 => ?_⟩
  · replace c805 := c_neq tr_1v372 lit_0 c805
    refine sX11_rowOf   (hI := hI) (tx1 := tx1) (h0 := (by omega)) (hp := fun r_4v376 zr_4v376 tr_4v376 p806 => ?_)
    exact ⟨70000, sX11_fades_22    (hp := hp) 70000 _ _ _ _ _ _ _ _ _ tx2 tx3 tr_4v376 lit_0 hI (by omega) (by omega) (by omega)⟩
  · replace c805 := c_eq tr_1v372 lit_0 c805
    exact hp _ _ _  lit_m1 hI 
set_option maxHeartbeats 4000000 in
set_option maxRecDepth 100000 in
theorem sX11_kinOf_5 {T W H P S M : Int} {post : Int32 → Wd → Prop} {w : Wd}  (hp : ∀ (r : Int32) (zr : Int), Ti r zr → (0 ≤ zr ∧ zr < S) → post r w) : ∀ (n : Nat) (x3 : Int32) (x4 : Int32) (zx3 : Int) (zx4 : Int), Ti x3 zx3 → Ti x4 zx4 → IM T W H P S M w → (0 ≤ zx3 ∧ zx3 < S) → (0 ≤ zx4 ∧ zx4 < S) → (zx3 + zx4 + 1) < (n : Int) → pX11_kinOf_5   post  n x3 x4 w := by
  intro n
  induction n with
  | zero =>
    intro x3 x4 zx3 zx4  tx3 tx4 hI h0 h1 hm
    exact absurd hm (by omega)
  | succ n ih =>
    intro x3 x4 zx3 zx4  tx3 tx4 hI h0 h1 hm
    unfold pX11_kinOf_5
    have hk := im_k hI
    refine ⟨fun c807 => ?_, fun c807 => ?_⟩
    · replace c807 := c_eq tx3 tx4 c807
      exact hp _ _ tx3 (by omega)
    · replace c807 := c_neq tx3 tx4 c807
      refine ⟨fun c808 => ?_, fun c808 => ?_⟩
      · replace c808 := c_le tx3 tx4 c808
        obtain ⟨z809, t810, f811⟩ := t_mul lit_4 tx4
        first | replace f811 := f811 (by omega) | clear f811
        obtain ⟨z812, t813, f814⟩ := t_add t810 lit_1
        first | replace f814 := f814 (by omega) | clear f814
        refine ⟨vp_of t813 (by omega) (by omega), ?_⟩
        obtain ⟨z815, t816⟩ := t_any (w.2.1 341 (((4 : Int32) * x4) + (1 : Int32)).toNatClampNeg)
        have f817 := img_par (x := zx4) hI t813 t816
        first | replace f817 := f817 (by omega) | clear f817
        intro x4_3v378 ex4_3v378
        have tx4_3v378 : Ti x4_3v378 z815 := by rw [ex4_3v378]; exact t816
        exact ih _ _ _ _  tx3 tx4_3v378 hI (by omega) (by omega) (by omega)
      · replace c808 := c_nle tx3 tx4 c808
        obtain ⟨z818, t819, f820⟩ := t_mul lit_4 tx3
        first | replace f820 := f820 (by omega) | clear f820
        obtain ⟨z821, t822, f823⟩ := t_add t819 lit_1
        first | replace f823 := f823 (by omega) | clear f823
        refine ⟨vp_of t822 (by omega) (by omega), ?_⟩
        obtain ⟨z824, t825⟩ := t_any (w.2.1 341 (((4 : Int32) * x3) + (1 : Int32)).toNatClampNeg)
        have f826 := img_par (x := zx3) hI t822 t825
        first | replace f826 := f826 (by omega) | clear f826
        intro x3_4v379 ex3_4v379
        have tx3_4v379 : Ti x3_4v379 z824 := by rw [ex3_4v379]; exact t825
        exact ih _ _ _ _  tx3_4v379 tx4 hI (by omega) (by omega) (by omega)
set_option maxHeartbeats 4000000 in
set_option maxRecDepth 100000 in
theorem sX11_kinOf {T W H P S M : Int} {post : Int32 → Wd → Prop} {x1 : Int32} {zx1 : Int} {x2 : Int32} {zx2 : Int} {w : Wd}  (tx1 : Ti x1 zx1) (tx2 : Ti x2 zx2) (hI : IM T W H P S M w) (h0 : 0 ≤ zx1 ∧ zx1 < S) (h1 : 0 ≤ zx2 ∧ zx2 < S) (hp : ∀ (r : Int32) (zr : Int), Ti r zr → (0 ≤ zr ∧ zr < S) → post r w) : pX11_kinOf   post  x1 x2 w := by
  unfold pX11_kinOf
  have hk := im_k hI
  exact ⟨70000, sX11_kinOf_5    (hp := hp) 70000 _ _ _ _  tx1 tx2 hI (by omega) (by omega) (by omega)⟩
set_option maxHeartbeats 4000000 in
set_option maxRecDepth 100000 in
theorem sX11_kin {T W H P S M : Int} {post : Int32 → Wd → Prop} {x1 : Int32} {zx1 : Int} {x2 : Int32} {zx2 : Int} {x3 : Int32} {zx3 : Int} {w : Wd}  (tx1 : Ti x1 zx1) (tx2 : Ti x2 zx2) (tx3 : Ti x3 zx3) (hI : IM T W H P S M w)  (hp : ∀ (r : Int32) (zr : Int), Ti r zr → post r w) : pX11_kin   post  x1 x2 x3 w := by
  unfold pX11_kin
  have hk := im_k hI
  refine sX11_isSeal   (hI := hI) (tx1 := tx1)  (hp := fun r_1v380 zr_1v380 tr_1v380 p827 => ?_)
  refine ⟨fun c828 => ?_, fun c828 => ?_⟩
  · replace c828 := c_eq tr_1v380 lit_0 c828
    exact hp _ _ lit_m1 
  · replace c828 := c_neq tr_1v380 lit_0 c828
    refine sX11_isSeal   (hI := hI) (tx1 := tx2)  (hp := fun r_4v394 zr_4v394 tr_4v394 p829 => ?_)
    refine ⟨fun c830 => ?_, fun c830 => ?_⟩
    · replace c830 := c_eq tr_4v394 lit_0 c830
      exact hp _ _ lit_m1 
    · replace c830 := c_neq tr_4v394 lit_0 c830
      refine sX11_isIn   (hI := hI) (tx0 := tx3) (tx1 := lit_0) (tx2 := lit_1)  (hp := fun r_7v406 zr_7v406 tr_7v406 p831 p832 => ?_)
      refine ⟨fun c833 => ?_, fun c833 => ?_⟩
      · replace c833 := c_neq tr_7v406 lit_0 c833
        refine sX11_kinOf   (hI := hI) (tx1 := tx1) (tx2 := tx2) (h0 := (by omega)) (h1 := (by omega)) (hp := fun r_10v416 zr_10v416 tr_10v416 p834 => ?_)
        refine ⟨fun c835 => ?_, fun c835 => ?_⟩
        · replace c835 := c_neq tx3 lit_0 c835
          refine sX11_deep   (hI := hI) (tx1 := tx1) (h0 := (by omega)) (hp := fun r_13v424 zr_13v424 tr_13v424 => ?_)
          refine sX11_deep   (hI := hI) (tx1 := tx2) (h0 := (by omega)) (hp := fun r_15v430 zr_15v430 tr_15v430 => ?_)
          refine sX11_deep   (hI := hI) (tx1 := tr_10v416) (h0 := (by omega)) (hp := fun r_17v434 zr_17v434 tr_17v434 => ?_)
          obtain ⟨z836, t837, f838⟩ := t_add tr_13v424 tr_15v430
          first | replace f838 := f838 (by omega) | clear f838
          obtain ⟨z839, t840, f841⟩ := t_mul lit_2 tr_17v434
          first | replace f841 := f841 (by omega) | clear f841
          obtain ⟨z842, t843, f844⟩ := t_sub t837 t840
          first | replace f844 := f844 (by omega) | clear f844
          exact hp _ _ t843 
        · replace c835 := c_eq tx3 lit_0 c835
          exact hp _ _ tr_10v416 
      · replace c833 := c_eq tr_7v406 lit_0 c833
        exact hp _ _ lit_m1 
set_option maxHeartbeats 4000000 in
set_option maxRecDepth 100000 in
theorem sX11_thumb_42 {T W H P S M : Int} {post : Int32 → Wd → Prop} {w : Wd}  (hp : ∀ (r : Int32) (zr : Int), Ti r zr → post r w) : ∀ (n : Nat) (x3 : Int32) (x4 : Int32) (zx3 : Int) (zx4 : Int), Ti x3 zx3 → Ti x4 zx4 → IM T W H P S M w → (0 ≤ zx3 ∧ zx3 < S) → (zx3 + 1) < (n : Int) → pX11_thumb_42   post  n x3 x4 w := by
  intro n
  induction n with
  | zero =>
    intro x3 x4 zx3 zx4  tx3 tx4 hI h0 hm
    exact absurd hm (by omega)
  | succ n ih =>
    intro x3 x4 zx3 zx4  tx3 tx4 hI h0 hm
    unfold pX11_thumb_42
    have hk := im_k hI
    refine ⟨fun c845 => ?_, fun c845 => ?_⟩
    · replace c845 := c_le tx3 lit_0 c845
      exact hp _ _ lit_m1 
    · replace c845 := c_nle tx3 lit_0 c845
      obtain ⟨z846, t847, f848⟩ := t_mul lit_4 tx3
      first | replace f848 := f848 (by omega) | clear f848
      obtain ⟨z849, t850, f851⟩ := t_add t847 lit_1
      first | replace f851 := f851 (by omega) | clear f851
      refine ⟨vp_of t850 (by omega) (by omega), ?_⟩
      obtain ⟨z852, t853⟩ := t_any (w.2.1 341 (((4 : Int32) * x3) + (1 : Int32)).toNatClampNeg)
      have f854 := img_par (x := zx3) hI t850 t853
      first | replace f854 := f854 (by omega) | clear f854
      intro x5_2v436 ex5_2v436
      have tx5_2v436 : Ti x5_2v436 z852 := by rw [ex5_2v436]; exact t853
      refine sX11_width   (hI := hI)   (hp := fun r_3v437 zr_3v437 tr_3v437 p855 => ?_)
      obtain ⟨z856, t857, f858⟩ := t_sub tr_3v437 lit_1
      first | replace f858 := f858 (by omega) | clear f858
      obtain ⟨z859, t860, f861⟩ := t_sub t857 tx4
      first | replace f861 := f861 (by omega) | clear f861
      intro x4_5v442 ex4_5v442
      have tx4_5v442 : Ti x4_5v442 z859 := by rw [ex4_5v442]; exact t860
      refine sX11_rowOf   (hI := hI) (tx1 := tx5_2v436) (h0 := (by omega)) (hp := fun r_6v443 zr_6v443 tr_6v443 p862 => ?_)
      obtain ⟨z863, t864, f865⟩ := t_and (x := (r_6v443 >>> (x4_5v442 &&& 31))) lit_1 (by decide)
      refine ⟨fun c866 => ?_, fun c866 => ?_⟩
      · replace c866 := c_neq t864 lit_0 c866
        exact ih _ _ _ _  tx5_2v436 tx4_5v442 hI (by omega) (by omega)
      · replace c866 := c_eq t864 lit_0 c866
        obtain ⟨z867, t868, f869⟩ := t_add t847 lit_2
        first | replace f869 := f869 (by omega) | clear f869
        refine ⟨vp_of t868 (by omega) (by omega), ?_⟩
        obtain ⟨z870, t871⟩ := t_any (w.2.1 341 (((4 : Int32) * x3) + (2 : Int32)).toNatClampNeg)
        exact hp _ _ t871 
set_option maxHeartbeats 4000000 in
set_option maxRecDepth 100000 in
theorem sX11_thumb {T W H P S M : Int} {post : Int32 → Wd → Prop} {x1 : Int32} {zx1 : Int} {x2 : Int32} {zx2 : Int} {w : Wd}  (tx1 : Ti x1 zx1) (tx2 : Ti x2 zx2) (hI : IM T W H P S M w)  (hp : ∀ (r : Int32) (zr : Int), Ti r zr → post r w) : pX11_thumb   post  x1 x2 w := by
  unfold pX11_thumb
  have hk := im_k hI
  refine sX11_isSeal   (hI := hI) (tx1 := tx1)  (hp := fun r_1v445 zr_1v445 tr_1v445 p873 => ?_)
  refine ⟨fun c874 => ?_, fun c874 => ?_⟩
  · replace c874 := c_eq tr_1v445 lit_0 c874
    exact hp _ _ lit_m2 
  · replace c874 := c_neq tr_1v445 lit_0 c874
    refine sX11_width   (hI := hI)   (hp := fun r_4v453 zr_4v453 tr_4v453 p875 => ?_)
    obtain ⟨z876, t877, f878⟩ := t_sub tr_4v453 lit_1
    first | replace f878 := f878 (by omega) | clear f878
    refine sX11_isIn   (hI := hI) (tx0 := tx2) (tx1 := lit_0) (tx2 := t877)  (hp := fun r_6v459 zr_6v459 tr_6v459 p879 p880 => ?_)
    refine ⟨fun c881 => ?_, fun c881 => ?_⟩
    · replace c881 := c_eq tr_6v459 lit_0 c881
      exact hp _ _ lit_m2 
    · replace c881 := c_neq tr_6v459 lit_0 c881
      refine sX11_rowOf   (hI := hI) (tx1 := tx1) (h0 := (by omega)) (hp := fun r_9v463 zr_9v463 tr_9v463 p882 => ?_)
      obtain ⟨z883, t884, f885⟩ := t_and (x := (r_9v463 >>> (x2 &&& 31))) lit_1 (by decide)
      refine ⟨fun c886 => ?_, fun c886 => ?_⟩
      · replace c886 := c_neq t884 lit_0 c886
        exact ⟨70000, sX11_thumb_42    (hp := hp) 70000 _ _ _ _  tx1 tx2 hI (by omega) (by omega)⟩
      · replace c886 := c_eq t884 lit_0 c886
        exact hp _ _ lit_m2 
set_option maxHeartbeats 4000000 in
set_option maxRecDepth 100000 in
theorem sX11_layShares_142 {T W H P S M : Int} {k131 : Int32 → Int32 → Wd → Prop} {M131 : Int} {post : Wd → Prop}  (hk131 : ∀ (x2 : Int32) (x4 : Int32) (zx2 : Int) (zx4 : Int) (w : Wd), Ti x2 zx2 → Ti x4 zx4 → IM T W H P S M w → (-2147483648 ≤ zx4 ∧ zx4 ≤ 2147483647) → (1 ≤ zx2 ∧ zx2 ≤ 4) → (zx4 + 2147483649) < M131 → k131 x2 x4 w) (hp : ∀ (w9 : Wd), IM T W H P S M w9 → post w9) : ∀ (n : Nat) (x2 : Int32) (x4 : Int32) (x5 : Int32) (x6 : Int32) (zx2 : Int) (zx4 : Int) (zx5 : Int) (zx6 : Int) (w : Wd), Ti x2 zx2 → Ti x4 zx4 → Ti x5 zx5 → Ti x6 zx6 → IM T W H P S M w → (0 ≤ zx6 ∧ zx6 ≤ 4) → (0 ≤ zx5 ∧ zx5 ≤ 3) → (0 < zx4) → (-2147483648 ≤ zx4 ∧ zx4 ≤ 2147483647) → (1 ≤ zx2 ∧ zx2 ≤ 4) → ((zx4 + 2147483649) ≤ M131) → (5 - zx6) < (n : Int) → pX11_layShares_142 k131  post  n x2 x4 x5 x6 w := by
  intro n
  induction n with
  | zero =>
    intro x2 x4 x5 x6 zx2 zx4 zx5 zx6 w tx2 tx4 tx5 tx6 hI h0 h1 h2 h3 h4 h5 hm
    exact absurd hm (by omega)
  | succ n ih =>
    intro x2 x4 x5 x6 zx2 zx4 zx5 zx6 w tx2 tx4 tx5 tx6 hI h0 h1 h2 h3 h4 h5 hm
    unfold pX11_layShares_142
    have hk := im_k hI
    refine ⟨fun c887 => ?_, fun c887 => ?_⟩
    · replace c887 := c_le tx2 tx6 c887
      refine ⟨vp_of tx5 (by omega) (by omega), ?_⟩
      refine ⟨vp_of tx5 (by omega) (by omega), ?_⟩
      intro w_2v465 ew_2v465
      have hIw_2v465 := ims_A hI ew_2v465 (by decide)
      refine ⟨vp_of tx5 (by omega) (by omega), ?_⟩
      intro w_3v466 ew_3v466
      have hIw_3v466 := ims_A hIw_2v465 ew_3v466 (by decide)
      obtain ⟨z888, t889, f890⟩ := t_add tx4 lit_m1
      first | replace f890 := f890 (by omega) | clear f890
      intro x4_4v467 ex4_4v467
      have tx4_4v467 : Ti x4_4v467 z888 := by rw [ex4_4v467]; exact t889
      have f891 := t_rng tx4_4v467
      exact hk131 _ _ _ _ _ tx2 tx4_4v467 hIw_3v466 (by omega) (by omega) (by omega)
    · replace c887 := c_nle tx2 tx6 c887
      refine ⟨vp_of tx6 (by omega) (by omega), ?_⟩
      refine ⟨vp_of tx5 (by omega) (by omega), ?_⟩
      obtain ⟨z892, t893⟩ := t_any (w.2.1 347 x6.toNatClampNeg)
      obtain ⟨z895, t896⟩ := t_any (w.2.1 347 x5.toNatClampNeg)
      refine ⟨fun c898 => ?_, fun c898 => ?_⟩
      · replace c898 := c_le t893 t896 c898
        unfold pX11_layShares_169
        obtain ⟨z899, t900, f901⟩ := t_add tx6 lit_1
        first | replace f901 := f901 (by omega) | clear f901
        intro x6_1v468 ex6_1v468
        have tx6_1v468 : Ti x6_1v468 z899 := by rw [ex6_1v468]; exact t900
        exact ih _ _ _ _ _ _ _ _ _ tx2 tx4 tx5 tx6_1v468 hI (by omega) (by omega) (by omega) (by omega) (by omega) (by omega) (by omega)
      · replace c898 := c_nle t893 t896 c898
        unfold pX11_layShares_169
        obtain ⟨z902, t903, f904⟩ := t_add tx6 lit_1
        first | replace f904 := f904 (by omega) | clear f904
        intro x6_1v469 ex6_1v469
        have tx6_1v469 : Ti x6_1v469 z902 := by rw [ex6_1v469]; exact t903
        exact ih _ _ _ _ _ _ _ _ _ tx2 tx4 tx6 tx6_1v469 hI (by omega) (by omega) (by omega) (by omega) (by omega) (by omega) (by omega)
set_option maxHeartbeats 4000000 in
set_option maxRecDepth 100000 in
theorem sX11_layShares_131 {T W H P S M : Int} {post : Wd → Prop}   (hp : ∀ (w9 : Wd), IM T W H P S M w9 → post w9) : ∀ (n : Nat) (x2 : Int32) (x4 : Int32) (zx2 : Int) (zx4 : Int) (w : Wd), Ti x2 zx2 → Ti x4 zx4 → IM T W H P S M w → (-2147483648 ≤ zx4 ∧ zx4 ≤ 2147483647) → (1 ≤ zx2 ∧ zx2 ≤ 4) → (zx4 + 2147483649) < (n : Int) → pX11_layShares_131   post  n x2 x4 w := by
  intro n
  induction n with
  | zero =>
    intro x2 x4 zx2 zx4 w tx2 tx4 hI h0 h1 hm
    exact absurd hm (by omega)
  | succ n ih =>
    intro x2 x4 zx2 zx4 w tx2 tx4 hI h0 h1 hm
    unfold pX11_layShares_131
    have hk := im_k hI
    refine ⟨fun c905 => ?_, fun c905 => ?_⟩
    · replace c905 := c_le tx4 lit_0 c905
      exact hp  _   hI 
    · replace c905 := c_nle tx4 lit_0 c905
      exact ⟨70000, sX11_layShares_142  (M131 := (n : Int)) (hk131 := ih)  (hp := hp) 70000 _ _ _ _ _ _ _ _ _ tx2 tx4 lit_0 lit_1 hI (by omega) (by omega) (by omega) (by omega) (by omega) (by omega) (by omega)⟩
set_option maxHeartbeats 4000000 in
set_option maxRecDepth 100000 in
theorem sX11_layShares_24 {T W H P S M : Int} {k12 : Int32 → Int32 → Int32 → Int32 → Int32 → Wd → Prop} {M12 : Int} {post : Wd → Prop}  (hk12 : ∀ (x1 : Int32) (x2 : Int32) (x3 : Int32) (x4 : Int32) (x5 : Int32) (zx1 : Int) (zx2 : Int) (zx3 : Int) (zx4 : Int) (zx5 : Int) (w : Wd), Ti x1 zx1 → Ti x2 zx2 → Ti x3 zx3 → Ti x4 zx4 → Ti x5 zx5 → IM T W H P S M w → (0 ≤ zx5 ∧ zx5 ≤ 4) → (1 ≤ zx2 ∧ zx2 ≤ 4) → (5 - zx5) < M12 → k12 x1 x2 x3 x4 x5 w) (hp : ∀ (w9 : Wd), IM T W H P S M w9 → post w9) : ∀ (n : Nat) (x1 : Int32) (x2 : Int32) (x3 : Int32) (x4 : Int32) (x5 : Int32) (x6 : Int32) (x7 : Int32) (zx1 : Int) (zx2 : Int) (zx3 : Int) (zx4 : Int) (zx5 : Int) (zx6 : Int) (zx7 : Int) (w : Wd), Ti x1 zx1 → Ti x2 zx2 → Ti x3 zx3 → Ti x4 zx4 → Ti x5 zx5 → Ti x6 zx6 → Ti x7 zx7 → IM T W H P S M w → (0 ≤ zx7 ∧ zx7 ≤ 12) → (zx5 ≤ 3) → (0 ≤ zx5 ∧ zx5 ≤ 4) → (1 ≤ zx2 ∧ zx2 ≤ 4) → ((5 - zx5) ≤ M12) → (13 - zx7) < (n : Int) → pX11_layShares_24 k12  post  n x1 x2 x3 x4 x5 x6 x7 w := by
  intro n
  induction n with
  | zero =>
    intro x1 x2 x3 x4 x5 x6 x7 zx1 zx2 zx3 zx4 zx5 zx6 zx7 w tx1 tx2 tx3 tx4 tx5 tx6 tx7 hI h0 h1 h2 h3 h4 hm
    exact absurd hm (by omega)
  | succ n ih =>
    intro x1 x2 x3 x4 x5 x6 x7 zx1 zx2 zx3 zx4 zx5 zx6 zx7 w tx1 tx2 tx3 tx4 tx5 tx6 tx7 hI h0 h1 h2 h3 h4 hm
    unfold pX11_layShares_24
    have hk := im_k hI
    refine sX11_width   (hI := hI)   (hp := fun r_1v470 zr_1v470 tr_1v470 p906 => ?_)
    refine ⟨fun c907 => ?_, fun c907 => ?_⟩
    · replace c907 := c_le tr_1v470 tx7 c907
      refine ⟨fun c908 => ?_, fun c908 => ?_⟩
      · replace c908 := c_neq tx3 lit_0 c908
        refine ⟨nz_of tx3 (by omega), ?_⟩
        unfold pX11_layShares_85
        refine ⟨vp_of tx5 (by omega) (by omega), ?_⟩
        intro w_1v478 ew_1v478
        have hIw_1v478 := ims_A hI ew_1v478 (by decide)
        refine ⟨fun c909 => ?_, fun c909 => ?_⟩
        · replace c909 := c_neq tx3 lit_0 c909
          refine ⟨nz_of tx3 (by omega), ?_⟩
          unfold pX11_layShares_107
          refine ⟨vp_of tx5 (by omega) (by omega), ?_⟩
          intro w_1v479 ew_1v479
          have hIw_1v479 := ims_A hIw_1v478 ew_1v479 (by decide)
          refine ⟨vp_of tx5 (by omega) (by omega), ?_⟩
          obtain ⟨z910, t911, f912⟩ := t_mul lit_100 tx6
          first | replace f912 := f912 (by omega) | clear f912
          obtain ⟨z913, t914, f915⟩ := t_divv t911 tx3
          first | replace f915 := f915 (by omega) | clear f915
          have t916 : Ti (w_1v478.2.1 346 x5.toNatClampNeg) z913 := by rw [ew_1v478, sA_at]; exact t914
          have t917 : Ti (w_1v479.2.1 346 x5.toNatClampNeg) z913 := by rw [ew_1v479, sA_ne (by decide)]; exact t916
          obtain ⟨z918, t919, f920⟩ := t_sub tx4 t917
          first | replace f920 := f920 (by omega) | clear f920
          intro x4_2v480 ex4_2v480
          have tx4_2v480 : Ti x4_2v480 z918 := by rw [ex4_2v480]; exact t919
          obtain ⟨z921, t922, f923⟩ := t_add tx5 lit_1
          first | replace f923 := f923 (by omega) | clear f923
          intro x5_3v481 ex5_3v481
          have tx5_3v481 : Ti x5_3v481 z921 := by rw [ex5_3v481]; exact t922
          exact hk12 _ _ _ _ _ _ _ _ _ _ _ tx1 tx2 tx3 tx4_2v480 tx5_3v481 hIw_1v479 (by omega) (by omega) (by omega)
        · replace c909 := c_eq tx3 lit_0 c909
          unfold pX11_layShares_107
          refine ⟨vp_of tx5 (by omega) (by omega), ?_⟩
          intro w_1v482 ew_1v482
          have hIw_1v482 := ims_A hIw_1v478 ew_1v482 (by decide)
          refine ⟨vp_of tx5 (by omega) (by omega), ?_⟩
          obtain ⟨z924, t925, f926⟩ := t_mul lit_100 tx6
          first | replace f926 := f926 (by omega) | clear f926
          obtain ⟨z927, t928, f929⟩ := t_divv t925 tx3
          first | replace f929 := f929 (by omega) | clear f929
          have t930 : Ti (w_1v478.2.1 346 x5.toNatClampNeg) z927 := by rw [ew_1v478, sA_at]; exact t928
          have t931 : Ti (w_1v482.2.1 346 x5.toNatClampNeg) z927 := by rw [ew_1v482, sA_ne (by decide)]; exact t930
          obtain ⟨z932, t933, f934⟩ := t_sub tx4 t931
          first | replace f934 := f934 (by omega) | clear f934
          intro x4_2v483 ex4_2v483
          have tx4_2v483 : Ti x4_2v483 z932 := by rw [ex4_2v483]; exact t933
          obtain ⟨z935, t936, f937⟩ := t_add tx5 lit_1
          first | replace f937 := f937 (by omega) | clear f937
          intro x5_3v484 ex5_3v484
          have tx5_3v484 : Ti x5_3v484 z935 := by rw [ex5_3v484]; exact t936
          exact hk12 _ _ _ _ _ _ _ _ _ _ _ tx1 tx2 tx3 tx4_2v483 tx5_3v484 hIw_1v482 (by omega) (by omega) (by omega)
      · replace c908 := c_eq tx3 lit_0 c908
        unfold pX11_layShares_85
        refine ⟨vp_of tx5 (by omega) (by omega), ?_⟩
        intro w_1v485 ew_1v485
        have hIw_1v485 := ims_A hI ew_1v485 (by decide)
        refine ⟨fun c938 => ?_, fun c938 => ?_⟩
        · replace c938 := c_neq tx3 lit_0 c938
          refine ⟨nz_of tx3 (by omega), ?_⟩
          unfold pX11_layShares_107
          refine ⟨vp_of tx5 (by omega) (by omega), ?_⟩
          intro w_1v486 ew_1v486
          have hIw_1v486 := ims_A hIw_1v485 ew_1v486 (by decide)
          refine ⟨vp_of tx5 (by omega) (by omega), ?_⟩
          have t939 : Ti (w_1v485.2.1 346 x5.toNatClampNeg) 0 := by rw [ew_1v485, sA_at]; exact lit_0
          have t940 : Ti (w_1v486.2.1 346 x5.toNatClampNeg) 0 := by rw [ew_1v486, sA_ne (by decide)]; exact t939
          obtain ⟨z941, t942, f943⟩ := t_sub tx4 t940
          first | replace f943 := f943 (by omega) | clear f943
          intro x4_2v487 ex4_2v487
          have tx4_2v487 : Ti x4_2v487 z941 := by rw [ex4_2v487]; exact t942
          obtain ⟨z944, t945, f946⟩ := t_add tx5 lit_1
          first | replace f946 := f946 (by omega) | clear f946
          intro x5_3v488 ex5_3v488
          have tx5_3v488 : Ti x5_3v488 z944 := by rw [ex5_3v488]; exact t945
          exact hk12 _ _ _ _ _ _ _ _ _ _ _ tx1 tx2 tx3 tx4_2v487 tx5_3v488 hIw_1v486 (by omega) (by omega) (by omega)
        · replace c938 := c_eq tx3 lit_0 c938
          unfold pX11_layShares_107
          refine ⟨vp_of tx5 (by omega) (by omega), ?_⟩
          intro w_1v489 ew_1v489
          have hIw_1v489 := ims_A hIw_1v485 ew_1v489 (by decide)
          refine ⟨vp_of tx5 (by omega) (by omega), ?_⟩
          have t947 : Ti (w_1v485.2.1 346 x5.toNatClampNeg) 0 := by rw [ew_1v485, sA_at]; exact lit_0
          have t948 : Ti (w_1v489.2.1 346 x5.toNatClampNeg) 0 := by rw [ew_1v489, sA_ne (by decide)]; exact t947
          obtain ⟨z949, t950, f951⟩ := t_sub tx4 t948
          first | replace f951 := f951 (by omega) | clear f951
          intro x4_2v490 ex4_2v490
          have tx4_2v490 : Ti x4_2v490 z949 := by rw [ex4_2v490]; exact t950
          obtain ⟨z952, t953, f954⟩ := t_add tx5 lit_1
          first | replace f954 := f954 (by omega) | clear f954
          intro x5_3v491 ex5_3v491
          have tx5_3v491 : Ti x5_3v491 z952 := by rw [ex5_3v491]; exact t953
          exact hk12 _ _ _ _ _ _ _ _ _ _ _ tx1 tx2 tx3 tx4_2v490 tx5_3v491 hIw_1v489 (by omega) (by omega) (by omega)
    · replace c907 := c_nle tr_1v470 tx7 c907
      refine sX11_width   (hI := hI)   (hp := fun r_5v475 zr_5v475 tr_5v475 p955 => ?_)
      refine ⟨nz_of tr_5v475 (by omega), ?_⟩
      obtain ⟨z956, t957, f958⟩ := t_mulv tx7 tx2
      first | replace f958 := f958 (by omega) | clear f958
      obtain ⟨z959, t960, f961⟩ := t_divv t957 tr_5v475
      first | replace f961 := f961 (by omega) | clear f961
      refine ⟨fun c962 => ?_, fun c962 => ?_⟩
      · replace c962 := c_neq t960 tx5 c962
        unfold pX11_layShares_58
        obtain ⟨z963, t964, f965⟩ := t_add tx7 lit_1
        first | replace f965 := f965 (by omega) | clear f965
        intro x7_1v493 ex7_1v493
        have tx7_1v493 : Ti x7_1v493 z963 := by rw [ex7_1v493]; exact t964
        exact ih _ _ _ _ _ _ _ _ _ _ _ _ _ _ _ tx1 tx2 tx3 tx4 tx5 tx6 tx7_1v493 hI (by omega) (by omega) (by omega) (by omega) (by omega) (by omega)
      · replace c962 := c_eq t960 tx5 c962
        obtain ⟨z966, t967, f968⟩ := t_and (x := (x1 >>> (x7 &&& 31))) lit_1 (by decide)
        obtain ⟨z969, t970, f971⟩ := t_add tx6 t967
        first | replace f971 := f971 (by omega) | clear f971
        intro x6_8v492 ex6_8v492
        have tx6_8v492 : Ti x6_8v492 z969 := by rw [ex6_8v492]; exact t970
        unfold pX11_layShares_58
        obtain ⟨z972, t973, f974⟩ := t_add tx7 lit_1
        first | replace f974 := f974 (by omega) | clear f974
        intro x7_1v494 ex7_1v494
        have tx7_1v494 : Ti x7_1v494 z972 := by rw [ex7_1v494]; exact t973
        exact ih _ _ _ _ _ _ _ _ _ _ _ _ _ _ _ tx1 tx2 tx3 tx4 tx5 tx6_8v492 tx7_1v494 hI (by omega) (by omega) (by omega) (by omega) (by omega) (by omega)
set_option maxHeartbeats 4000000 in
set_option maxRecDepth 100000 in
theorem sX11_layShares_12 {T W H P S M : Int} {post : Wd → Prop}   (hp : ∀ (w9 : Wd), IM T W H P S M w9 → post w9) : ∀ (n : Nat) (x1 : Int32) (x2 : Int32) (x3 : Int32) (x4 : Int32) (x5 : Int32) (zx1 : Int) (zx2 : Int) (zx3 : Int) (zx4 : Int) (zx5 : Int) (w : Wd), Ti x1 zx1 → Ti x2 zx2 → Ti x3 zx3 → Ti x4 zx4 → Ti x5 zx5 → IM T W H P S M w → (0 ≤ zx5 ∧ zx5 ≤ 4) → (1 ≤ zx2 ∧ zx2 ≤ 4) → (5 - zx5) < (n : Int) → pX11_layShares_12   post  n x1 x2 x3 x4 x5 w := by
  intro n
  induction n with
  | zero =>
    intro x1 x2 x3 x4 x5 zx1 zx2 zx3 zx4 zx5 w tx1 tx2 tx3 tx4 tx5 hI h0 h1 hm
    exact absurd hm (by omega)
  | succ n ih =>
    intro x1 x2 x3 x4 x5 zx1 zx2 zx3 zx4 zx5 w tx1 tx2 tx3 tx4 tx5 hI h0 h1 hm
    unfold pX11_layShares_12
    have hk := im_k hI
    refine ⟨fun c975 => ?_, fun c975 => ?_⟩
    · replace c975 := c_le tx2 tx5 c975
      refine ⟨fun c976 => ?_, fun c976 => ?_⟩
      · replace c976 := c_neq tx3 lit_0 c976
        have f977 := t_rng tx4
        exact ⟨4294967298, sX11_layShares_131    (hp := hp) 4294967298 _ _ _ _ _ tx2 tx4 hI (by omega) (by omega) (by omega)⟩
      · replace c976 := c_eq tx3 lit_0 c976
        exact hp  _   hI 
    · replace c975 := c_nle tx2 tx5 c975
      exact ⟨70000, sX11_layShares_24  (M12 := (n : Int)) (hk12 := ih)  (hp := hp) 70000 _ _ _ _ _ _ _ _ _ _ _ _ _ _ _ tx1 tx2 tx3 tx4 tx5 lit_0 lit_0 hI (by omega) (by omega) (by omega) (by omega) (by omega) (by omega)⟩
set_option maxHeartbeats 4000000 in
set_option maxRecDepth 100000 in
theorem sX11_layShares {T W H P S M : Int} {post : Wd → Prop} {x1 : Int32} {zx1 : Int} {x2 : Int32} {zx2 : Int} {w : Wd}  (tx1 : Ti x1 zx1) (tx2 : Ti x2 zx2) (hI : IM T W H P S M w) (h0 : 1 ≤ zx2 ∧ zx2 ≤ 4) (hp : ∀ (w9 : Wd), IM T W H P S M w9 → post w9) : pX11_layShares   post  x1 x2 w := by
  unfold pX11_layShares
  have hk := im_k hI
  refine sX11_bitsOf   (hI := hI) (tx0 := tx1)  (hp := fun r_1v495 zr_1v495 tr_1v495 => ?_)
  exact ⟨70000, sX11_layShares_12    (hp := hp) 70000 _ _ _ _ _ _ _ _ _ _ _ tx1 tx2 tr_1v495 lit_100 lit_0 hI (by omega) (by omega) (by omega)⟩
set_option maxHeartbeats 4000000 in
set_option maxRecDepth 100000 in
theorem sX11_share {T W H P S M : Int} {post : Int32 → Wd → Prop} {x1 : Int32} {zx1 : Int} {x2 : Int32} {zx2 : Int} {x3 : Int32} {zx3 : Int} {w : Wd}  (tx1 : Ti x1 zx1) (tx2 : Ti x2 zx2) (tx3 : Ti x3 zx3) (hI : IM T W H P S M w)  (hp : ∀ (r : Int32) (zr : Int) (w9 : Wd), Ti r zr → IM T W H P S M w9 → post r w9) : pX11_share   post  x1 x2 x3 w := by
  unfold pX11_share
  have hk := im_k hI
  refine sX11_isRow   (hI := hI) (tx1 := tx1)  (hp := fun r_1v497 zr_1v497 tr_1v497 p978 => ?_)
  refine ⟨fun c979 => ?_, fun c979 => ?_⟩
  · replace c979 := c_eq tr_1v497 lit_0 c979
    exact hp _ _ _  lit_m1 hI 
  · replace c979 := c_neq tr_1v497 lit_0 c979
    refine sX11_isIn   (hI := hI) (tx0 := tx2) (tx1 := lit_1) (tx2 := lit_4)  (hp := fun r_4v504 zr_4v504 tr_4v504 p980 p981 => ?_)
    refine ⟨fun c982 => ?_, fun c982 => ?_⟩
    · replace c982 := c_eq tr_4v504 lit_0 c982
      exact hp _ _ _  lit_m1 hI 
    · replace c982 := c_neq tr_4v504 lit_0 c982
      obtain ⟨z983, t984, f985⟩ := t_sub tx2 lit_1
      first | replace f985 := f985 (by omega) | clear f985
      refine sX11_isIn   (hI := hI) (tx0 := tx3) (tx1 := lit_0) (tx2 := t984)  (hp := fun r_7v509 zr_7v509 tr_7v509 p986 p987 => ?_)
      refine ⟨fun c988 => ?_, fun c988 => ?_⟩
      · replace c988 := c_neq tr_7v509 lit_0 c988
        refine sX11_layShares   (hI := hI) (tx1 := tx1) (tx2 := tx2) (h0 := (by omega)) (hp := fun  w_10v512   hIw_10v512  => ?_)
        refine ⟨vp_of tx3 (by omega) (by omega), ?_⟩
        obtain ⟨z989, t990⟩ := t_any (w_10v512.2.1 346 x3.toNatClampNeg)
        exact hp _ _ _  t990 hIw_10v512 
      · replace c988 := c_eq tr_7v509 lit_0 c988
        exact hp _ _ _  lit_m1 hI 
