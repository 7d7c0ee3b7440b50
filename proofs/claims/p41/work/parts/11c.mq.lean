set_option maxHeartbeats 4000000 in
set_option maxRecDepth 100000 in
theorem sX11_feed_18 {T W H P S M : Int} {post : Int32 → Wd → Prop}   (hp : ∀ (r : Int32) (zr : Int) (w9 : Wd), Ti r zr → IM T W H P S M w9 → post r w9) : ∀ (n : Nat) (x1 : Int32) (x2 : Int32) (x3 : Int32) (x4 : Int32) (x5 : Int32) (x6 : Int32) (zx1 : Int) (zx2 : Int) (zx3 : Int) (zx4 : Int) (zx5 : Int) (zx6 : Int) (w : Wd), Ti x1 zx1 → Ti x2 zx2 → Ti x3 zx3 → Ti x4 zx4 → Ti x5 zx5 → Ti x6 zx6 → IM T W H P S M w → (0 ≤ zx6 ∧ zx6 ≤ 20) → (Rg (w.1 300 2) 0 1580) → (21 - zx6) < (n : Int) → pX11_feed_18   post  n x1 x2 x3 x4 x5 x6 w := by
  intro n
  induction n with
  | zero =>
    intro x1 x2 x3 x4 x5 x6 zx1 zx2 zx3 zx4 zx5 zx6 w tx1 tx2 tx3 tx4 tx5 tx6 hI h0 h1 hm
    exact absurd hm (by omega)
  | succ n ih =>
    intro x1 x2 x3 x4 x5 x6 zx1 zx2 zx3 zx4 zx5 zx6 w tx1 tx2 tx3 tx4 tx5 tx6 hI h0 h1 hm
    unfold pX11_feed_18
    have hk := im_k hI
    obtain ⟨z1, t2⟩ := t_any (w.1 300 2)
    have f3 := img_2 hI t2
    have f4 := Rg.g h1 t2
    refine ⟨fun c5 => ?_, fun c5 => ?_⟩
    · replace c5 := c_le lit_20 tx6 c5
      intro w_2v1 ew_2v1
      obtain ⟨z6, t7, f8⟩ := t_add t2 lit_20
      first | replace f8 := f8 (by omega) | clear f8
      have hIw_2v1 := ims_2 hI ew_2v1 t7 (by omega) (by omega)
      have t9 : Ti (w_2v1.1 300 2) z6 := by rw [ew_2v1, sI_at]; exact t7
      exact hp _ _ _  t9 hIw_2v1 
    · replace c5 := c_nle lit_20 tx6 c5
      refine ⟨fun c10 => ?_, fun c10 => ?_⟩
      · replace c10 := c_le lit_4 tx6 c10
        refine ⟨fun c11 => ?_, fun c11 => ?_⟩
        · replace c11 := c_le lit_8 tx6 c11
          refine ⟨fun c12 => ?_, fun c12 => ?_⟩
          · replace c12 := c_le lit_12 tx6 c12
            refine ⟨fun c13 => ?_, fun c13 => ?_⟩
            · replace c13 := c_le lit_16 tx6 c13
              unfold pX11_feed_71
              obtain ⟨z14, t15, f16⟩ := t_add t2 tx6
              first | replace f16 := f16 (by omega) | clear f16
              refine ⟨vp_of t15 (by omega) (by omega), ?_⟩
              intro w_1v2 ew_1v2
              have hIw_1v2 := ims_A hI ew_1v2 (by decide)
              obtain ⟨z17, t18, f19⟩ := t_add tx6 lit_1
              first | replace f19 := f19 (by omega) | clear f19
              intro x6_2v3 ex6_2v3
              have tx6_2v3 : Ti x6_2v3 z17 := by rw [ex6_2v3]; exact t18
              have t20 : Ti (w_1v2.1 300 2) z1 := by rw [e1_A ew_1v2]; exact t2
              exact ih _ _ _ _ _ _ _ _ _ _ _ _ _ tx1 tx2 tx3 tx4 tx5 tx6_2v3 hIw_1v2 (by omega) (Rg.m t20 (by omega) (by omega)) (by omega)
            · replace c13 := c_nle lit_16 tx6 c13
              unfold pX11_feed_71
              obtain ⟨z21, t22, f23⟩ := t_add t2 tx6
              first | replace f23 := f23 (by omega) | clear f23
              refine ⟨vp_of t22 (by omega) (by omega), ?_⟩
              intro w_1v4 ew_1v4
              have hIw_1v4 := ims_A hI ew_1v4 (by decide)
              obtain ⟨z24, t25, f26⟩ := t_add tx6 lit_1
              first | replace f26 := f26 (by omega) | clear f26
              intro x6_2v5 ex6_2v5
              have tx6_2v5 : Ti x6_2v5 z24 := by rw [ex6_2v5]; exact t25
              have t27 : Ti (w_1v4.1 300 2) z1 := by rw [e1_A ew_1v4]; exact t2
              exact ih _ _ _ _ _ _ _ _ _ _ _ _ _ tx1 tx2 tx3 tx4 tx5 tx6_2v5 hIw_1v4 (by omega) (Rg.m t27 (by omega) (by omega)) (by omega)
          · replace c12 := c_nle lit_12 tx6 c12
            unfold pX11_feed_71
            obtain ⟨z28, t29, f30⟩ := t_add t2 tx6
            first | replace f30 := f30 (by omega) | clear f30
            refine ⟨vp_of t29 (by omega) (by omega), ?_⟩
            intro w_1v6 ew_1v6
            have hIw_1v6 := ims_A hI ew_1v6 (by decide)
            obtain ⟨z31, t32, f33⟩ := t_add tx6 lit_1
            first | replace f33 := f33 (by omega) | clear f33
            intro x6_2v7 ex6_2v7
            have tx6_2v7 : Ti x6_2v7 z31 := by rw [ex6_2v7]; exact t32
            have t34 : Ti (w_1v6.1 300 2) z1 := by rw [e1_A ew_1v6]; exact t2
            exact ih _ _ _ _ _ _ _ _ _ _ _ _ _ tx1 tx2 tx3 tx4 tx5 tx6_2v7 hIw_1v6 (by omega) (Rg.m t34 (by omega) (by omega)) (by omega)
        · replace c11 := c_nle lit_8 tx6 c11
          unfold pX11_feed_71
          obtain ⟨z35, t36, f37⟩ := t_add t2 tx6
          first | replace f37 := f37 (by omega) | clear f37
          refine ⟨vp_of t36 (by omega) (by omega), ?_⟩
          intro w_1v8 ew_1v8
          have hIw_1v8 := ims_A hI ew_1v8 (by decide)
          obtain ⟨z38, t39, f40⟩ := t_add tx6 lit_1
          first | replace f40 := f40 (by omega) | clear f40
          intro x6_2v9 ex6_2v9
          have tx6_2v9 : Ti x6_2v9 z38 := by rw [ex6_2v9]; exact t39
          have t41 : Ti (w_1v8.1 300 2) z1 := by rw [e1_A ew_1v8]; exact t2
          exact ih _ _ _ _ _ _ _ _ _ _ _ _ _ tx1 tx2 tx3 tx4 tx5 tx6_2v9 hIw_1v8 (by omega) (Rg.m t41 (by omega) (by omega)) (by omega)
      · replace c10 := c_nle lit_4 tx6 c10
        unfold pX11_feed_71
        obtain ⟨z42, t43, f44⟩ := t_add t2 tx6
        first | replace f44 := f44 (by omega) | clear f44
        refine ⟨vp_of t43 (by omega) (by omega), ?_⟩
        intro w_1v10 ew_1v10
        have hIw_1v10 := ims_A hI ew_1v10 (by decide)
        obtain ⟨z45, t46, f47⟩ := t_add tx6 lit_1
        first | replace f47 := f47 (by omega) | clear f47
        intro x6_2v11 ex6_2v11
        have tx6_2v11 : Ti x6_2v11 z45 := by rw [ex6_2v11]; exact t46
        have t48 : Ti (w_1v10.1 300 2) z1 := by rw [e1_A ew_1v10]; exact t2
        exact ih _ _ _ _ _ _ _ _ _ _ _ _ _ tx1 tx2 tx3 tx4 tx5 tx6_2v11 hIw_1v10 (by omega) (Rg.m t48 (by omega) (by omega)) (by omega)
set_option maxHeartbeats 4000000 in
set_option maxRecDepth 100000 in
theorem sX11_feed {T W H P S M : Int} {post : Int32 → Wd → Prop} {x1 : Int32} {zx1 : Int} {x2 : Int32} {zx2 : Int} {x3 : Int32} {zx3 : Int} {x4 : Int32} {zx4 : Int} {x5 : Int32} {zx5 : Int} {w : Wd}  (tx1 : Ti x1 zx1) (tx2 : Ti x2 zx2) (tx3 : Ti x3 zx3) (tx4 : Ti x4 zx4) (tx5 : Ti x5 zx5) (hI : IM T W H P S M w)  (hp : ∀ (r : Int32) (zr : Int) (w9 : Wd), Ti r zr → IM T W H P S M w9 → post r w9) : pX11_feed   post  x1 x2 x3 x4 x5 w := by
  unfold pX11_feed
  have hk := im_k hI
  obtain ⟨z49, t50⟩ := t_any (w.1 300 2)
  have f51 := img_2 hI t50
  obtain ⟨z52, t53, f54⟩ := t_add t50 lit_20
  first | replace f54 := f54 (by omega) | clear f54
  refine ⟨fun c55 => ?_, fun c55 => ?_⟩
  · replace c55 := c_le t53 lit_1600 c55
    exact ⟨70000, sX11_feed_18    (hp := hp) 70000 _ _ _ _ _ _ _ _ _ _ _ _ _ tx1 tx2 tx3 tx4 tx5 lit_0 hI (by omega) (Rg.m t50 (by omega) (by omega)) (by omega)⟩
  · replace c55 := c_nle t53 lit_1600 c55
    exact hp _ _ _  lit_m1 hI 
set_option maxHeartbeats 4000000 in
set_option maxRecDepth 100000 in
theorem sX11_end {T W H P S M : Int} {post : Int32 → Wd → Prop} {x1 : Int32} {zx1 : Int} {w : Wd}  (tx1 : Ti x1 zx1) (hI : IM T W H P S M w)  (hp : ∀ (r : Int32) (zr : Int) (w9 : Wd), Ti r zr → IM T W H P S M w9 → post r w9) : pX11_end   post  x1 w := by
  unfold pX11_end
  have hk := im_k hI
  refine ⟨fun c56 => ?_, fun c56 => ?_⟩
  · replace c56 := c_lt tx1 lit_0 c56
    exact hp _ _ _  lit_m1 hI 
  · replace c56 := c_nlt tx1 lit_0 c56
    obtain ⟨z57, t58⟩ := t_any (w.1 300 2)
    have f59 := img_2 hI t58
    refine ⟨fun c60 => ?_, fun c60 => ?_⟩
    · replace c60 := c_le tx1 t58 c60
      intro w_3v12 ew_3v12
      have hIw_3v12 := ims_2 hI ew_3v12 tx1 (by omega) (by omega)
      exact hp _ _ _  tx1 hIw_3v12 
    · replace c60 := c_nle tx1 t58 c60
      exact hp _ _ _  lit_m1 hI 
set_option maxHeartbeats 4000000 in
set_option maxRecDepth 100000 in
theorem sX11_isDigit {T W H P S M : Int} {post : Int32 → Wd → Prop} {x0 : Int32} {zx0 : Int} {w : Wd}  (tx0 : Ti x0 zx0) (hI : IM T W H P S M w)  (hp : ∀ (r : Int32) (zr : Int), Ti r zr → (((zr = 0 ∧ (zx0 < 48 ∨ 57 < zx0)) ∨ (zr = 1 ∧ 48 ≤ zx0 ∧ zx0 ≤ 57))) → post r w) : pX11_isDigit   post  x0 w := by
  unfold pX11_isDigit
  have hk := im_k hI
  refine ⟨fun c61 => ?_, fun c61 => ?_⟩
  · replace c61 := c_lt tx0 lit_48 c61
    exact hp _ _ lit_0 (by omega)
  · replace c61 := c_nlt tx0 lit_48 c61
    refine ⟨fun c62 => ?_, fun c62 => ?_⟩
    · replace c62 := c_lt lit_57 tx0 c62
      exact hp _ _ lit_0 (by omega)
    · replace c62 := c_nlt lit_57 tx0 c62
      exact hp _ _ lit_1 (by omega)
set_option maxHeartbeats 4000000 in
set_option maxRecDepth 100000 in
theorem sX11_isLetter {T W H P S M : Int} {post : Int32 → Wd → Prop} {x0 : Int32} {zx0 : Int} {w : Wd}  (tx0 : Ti x0 zx0) (hI : IM T W H P S M w)  (hp : ∀ (r : Int32) (zr : Int), Ti r zr → (((zr = 0 ∧ (zx0 < 97 ∨ 122 < zx0)) ∨ (zr = 1 ∧ 97 ≤ zx0 ∧ zx0 ≤ 122))) → post r w) : pX11_isLetter   post  x0 w := by
  unfold pX11_isLetter
  have hk := im_k hI
  refine ⟨fun c63 => ?_, fun c63 => ?_⟩
  · replace c63 := c_lt tx0 lit_97 c63
    exact hp _ _ lit_0 (by omega)
  · replace c63 := c_nlt tx0 lit_97 c63
    refine ⟨fun c64 => ?_, fun c64 => ?_⟩
    · replace c64 := c_lt lit_122 tx0 c64
      exact hp _ _ lit_0 (by omega)
    · replace c64 := c_nlt lit_122 tx0 c64
      exact hp _ _ lit_1 (by omega)
set_option maxHeartbeats 4000000 in
set_option maxRecDepth 100000 in
theorem sX11_fault {T W H P S M : Int} {post : Int32 → Wd → Prop} {x1 : Int32} {zx1 : Int} {w : Wd}  (tx1 : Ti x1 zx1) (hI : IM T W H P S M w)  (hp : ∀ (r : Int32) (zr : Int), Ti r zr → post r w) : pX11_fault   post  x1 w := by
  unfold pX11_fault
  have hk := im_k hI
  refine ⟨fun c65 => ?_, fun c65 => ?_⟩
  · replace c65 := c_neq tx1 lit_0 c65
    refine ⟨fun c66 => ?_, fun c66 => ?_⟩
    · replace c66 := c_neq tx1 lit_1 c66
      exact hp _ _ lit_m1 
    · replace c66 := c_eq tx1 lit_1 c66
      obtain ⟨z67, t68⟩ := t_any (w.1 300 5)
      exact hp _ _ t68 
  · replace c65 := c_eq tx1 lit_0 c65
    obtain ⟨z69, t70⟩ := t_any (w.1 300 4)
    exact hp _ _ t70 
set_option maxHeartbeats 4000000 in
set_option maxRecDepth 100000 in
theorem sX11_deep_4 {T W H P S M : Int} {post : Int32 → Wd → Prop} {w : Wd}  (hp : ∀ (r : Int32) (zr : Int), Ti r zr → post r w) : ∀ (n : Nat) (x2 : Int32) (x3 : Int32) (zx2 : Int) (zx3 : Int), Ti x2 zx2 → Ti x3 zx3 → IM T W H P S M w → (-1 ≤ zx3 ∧ zx3 < S) → (zx3 + 2) < (n : Int) → pX11_deep_4   post  n x2 x3 w := by
  intro n
  induction n with
  | zero =>
    intro x2 x3 zx2 zx3  tx2 tx3 hI h0 hm
    exact absurd hm (by omega)
  | succ n ih =>
    intro x2 x3 zx2 zx3  tx2 tx3 hI h0 hm
    unfold pX11_deep_4
    have hk := im_k hI
    refine ⟨fun c71 => ?_, fun c71 => ?_⟩
    · replace c71 := c_le tx3 lit_0 c71
      exact hp _ _ tx2 
    · replace c71 := c_nle tx3 lit_0 c71
      obtain ⟨z72, t73, f74⟩ := t_add tx2 lit_1
      first | replace f74 := f74 (by omega) | clear f74
      intro x2_2v13 ex2_2v13
      have tx2_2v13 : Ti x2_2v13 z72 := by rw [ex2_2v13]; exact t73
      obtain ⟨z75, t76, f77⟩ := t_mul lit_4 tx3
      first | replace f77 := f77 (by omega) | clear f77
      obtain ⟨z78, t79, f80⟩ := t_add t76 lit_1
      first | replace f80 := f80 (by omega) | clear f80
      refine ⟨vp_of t79 (by omega) (by omega), ?_⟩
      obtain ⟨z81, t82⟩ := t_any (w.2.1 341 (((4 : Int32) * x3) + (1 : Int32)).toNatClampNeg)
      have f83 := img_par (x := zx3) hI t79 t82
      first | replace f83 := f83 (by omega) | clear f83
      intro x3_3v14 ex3_3v14
      have tx3_3v14 : Ti x3_3v14 z81 := by rw [ex3_3v14]; exact t82
      exact ih _ _ _ _  tx2_2v13 tx3_3v14 hI (by omega) (by omega)
set_option maxHeartbeats 4000000 in
set_option maxRecDepth 100000 in
theorem sX11_deep {T W H P S M : Int} {post : Int32 → Wd → Prop} {x1 : Int32} {zx1 : Int} {w : Wd}  (tx1 : Ti x1 zx1) (hI : IM T W H P S M w) (h0 : 0 ≤ zx1 ∧ zx1 < S) (hp : ∀ (r : Int32) (zr : Int), Ti r zr → post r w) : pX11_deep   post  x1 w := by
  unfold pX11_deep
  have hk := im_k hI
  exact ⟨70000, sX11_deep_4    (hp := hp) 70000 _ _ _ _  lit_0 tx1 hI (by omega) (by omega)⟩
set_option maxHeartbeats 4000000 in
set_option maxRecDepth 100000 in
theorem sX11_isIn {T W H P S M : Int} {post : Int32 → Wd → Prop} {x0 : Int32} {zx0 : Int} {x1 : Int32} {zx1 : Int} {x2 : Int32} {zx2 : Int} {w : Wd}  (tx0 : Ti x0 zx0) (tx1 : Ti x1 zx1) (tx2 : Ti x2 zx2) (hI : IM T W H P S M w)  (hp : ∀ (r : Int32) (zr : Int), Ti r zr → ((zr = 0 ∨ zr = 1)) → ((zr = 0 ∨ (zx1 ≤ zx0 ∧ zx0 ≤ zx2))) → post r w) : pX11_isIn   post  x0 x1 x2 w := by
  unfold pX11_isIn
  have hk := im_k hI
  refine ⟨fun c84 => ?_, fun c84 => ?_⟩
  · replace c84 := c_lt tx0 tx1 c84
    exact hp _ _ lit_0 (by omega) (by omega)
  · replace c84 := c_nlt tx0 tx1 c84
    refine ⟨fun c85 => ?_, fun c85 => ?_⟩
    · replace c85 := c_lt tx2 tx0 c85
      exact hp _ _ lit_0 (by omega) (by omega)
    · replace c85 := c_nlt tx2 tx0 c85
      exact hp _ _ lit_1 (by omega) (by omega)
set_option maxHeartbeats 4000000 in
set_option maxRecDepth 100000 in
theorem sX11_isSeal {T W H P S M : Int} {post : Int32 → Wd → Prop} {x1 : Int32} {zx1 : Int} {w : Wd}  (tx1 : Ti x1 zx1) (hI : IM T W H P S M w)  (hp : ∀ (r : Int32) (zr : Int), Ti r zr → ((zr = 0 ∨ (0 ≤ zx1 ∧ zx1 < S))) → post r w) : pX11_isSeal   post  x1 w := by
  unfold pX11_isSeal
  have hk := im_k hI
  obtain ⟨z86, t87⟩ := t_any (w.2.1 341 (216 : Int32).toNatClampNeg)
  have f88 := img_216 hI t87
  obtain ⟨z89, t90, f91⟩ := t_sub t87 lit_1
  first | replace f91 := f91 (by omega) | clear f91
  refine sX11_isIn   (hI := hI) (tx0 := tx1) (tx1 := lit_0) (tx2 := t90)  (hp := fun r_1v15 zr_1v15 tr_1v15 p92 p93 => ?_)
  refine ⟨nar_ok tr_1v15 (by omega), ?_⟩
  exact hp _ _ tr_1v15 (by omega)
set_option maxHeartbeats 4000000 in
set_option maxRecDepth 100000 in
theorem sX11_seal {T W H P S M : Int} {post : Int32 → Wd → Prop} {x1 : Int32} {zx1 : Int} {x2 : Int32} {zx2 : Int} {w : Wd}  (tx1 : Ti x1 zx1) (tx2 : Ti x2 zx2) (hI : IM T W H P S M w)  (hp : ∀ (r : Int32) (zr : Int), Ti r zr → post r w) : pX11_seal   post  x1 x2 w := by
  unfold pX11_seal
  have hk := im_k hI
  refine sX11_isSeal   (hI := hI) (tx1 := tx1)  (hp := fun r_1v17 zr_1v17 tr_1v17 p94 => ?_)
  refine ⟨fun c95 => ?_, fun c95 => ?_⟩
  · replace c95 := c_eq tr_1v17 lit_0 c95
    exact hp _ _ lit_m1 
  · replace c95 := c_neq tr_1v17 lit_0 c95
    refine sX11_isIn   (hI := hI) (tx0 := tx2) (tx1 := lit_0) (tx2 := lit_4)  (hp := fun r_4v23 zr_4v23 tr_4v23 p96 p97 => ?_)
    refine ⟨fun c98 => ?_, fun c98 => ?_⟩
    · replace c98 := c_neq tr_4v23 lit_0 c98
      refine ⟨fun c99 => ?_, fun c99 => ?_⟩
      · replace c99 := c_neq tx2 lit_4 c99
        obtain ⟨z100, t101, f102⟩ := t_mul lit_4 tx1
        first | replace f102 := f102 (by omega) | clear f102
        obtain ⟨z103, t104, f105⟩ := t_add t101 tx2
        first | replace f105 := f105 (by omega) | clear f105
        refine ⟨vp_of t104 (by omega) (by omega), ?_⟩
        obtain ⟨z106, t107⟩ := t_any (w.2.1 341 (((4 : Int32) * x1) + x2).toNatClampNeg)
        exact hp _ _ t107 
      · replace c99 := c_eq tx2 lit_4 c99
        refine sX11_deep   (hI := hI) (tx1 := tx1) (h0 := (by omega)) (hp := fun r_8v27 zr_8v27 tr_8v27 => ?_)
        exact hp _ _ tr_8v27 
    · replace c98 := c_eq tr_4v23 lit_0 c98
      exact hp _ _ lit_m1 
set_option maxHeartbeats 4000000 in
set_option maxRecDepth 100000 in
theorem sX11_shown {T W H P S M : Int} {post : Int32 → Wd → Prop} {x1 : Int32} {zx1 : Int} {x2 : Int32} {zx2 : Int} {w : Wd}  (tx1 : Ti x1 zx1) (tx2 : Ti x2 zx2) (hI : IM T W H P S M w)  (hp : ∀ (r : Int32) (zr : Int), Ti r zr → post r w) : pX11_shown   post  x1 x2 w := by
  unfold pX11_shown
  have hk := im_k hI
  obtain ⟨z109, t110⟩ := t_any (w.2.1 341 (217 : Int32).toNatClampNeg)
  have f111 := img_217 hI t110
  obtain ⟨z112, t113, f114⟩ := t_sub t110 lit_1
  first | replace f114 := f114 (by omega) | clear f114
  refine sX11_isIn   (hI := hI) (tx0 := tx1) (tx1 := lit_0) (tx2 := t113)  (hp := fun r_1v29 zr_1v29 tr_1v29 p115 p116 => ?_)
  refine ⟨fun c117 => ?_, fun c117 => ?_⟩
  · replace c117 := c_eq tr_1v29 lit_0 c117
    exact hp _ _ lit_m1 
  · replace c117 := c_neq tr_1v29 lit_0 c117
    refine sX11_isIn   (hI := hI) (tx0 := tx2) (tx1 := lit_0) (tx2 := lit_2)  (hp := fun r_4v33 zr_4v33 tr_4v33 p118 p119 => ?_)
    refine ⟨fun c120 => ?_, fun c120 => ?_⟩
    · replace c120 := c_eq tr_4v33 lit_0 c120
      exact hp _ _ lit_m1 
    · replace c120 := c_neq tr_4v33 lit_0 c120
      obtain ⟨z121, t122, f123⟩ := t_mul lit_3 tx1
      first | replace f123 := f123 (by omega) | clear f123
      obtain ⟨z124, t125, f126⟩ := t_add lit_96 t122
      first | replace f126 := f126 (by omega) | clear f126
      obtain ⟨z127, t128, f129⟩ := t_add t125 tx2
      first | replace f129 := f129 (by omega) | clear f129
      refine ⟨vp_of t128 (by omega) (by omega), ?_⟩
      obtain ⟨z130, t131⟩ := t_any (w.2.1 341 (((96 : Int32) + ((3 : Int32) * x1)) + x2).toNatClampNeg)
      exact hp _ _ t131 
set_option maxHeartbeats 4000000 in
set_option maxRecDepth 100000 in
theorem sX11_width {T W H P S M : Int} {post : Int32 → Wd → Prop}  {w : Wd}   (hI : IM T W H P S M w)  (hp : ∀ (r : Int32) (zr : Int), Ti r zr → (zr = W) → post r w) : pX11_width   post   w := by
  unfold pX11_width
  have hk := im_k hI
  obtain ⟨z133, t134⟩ := t_any (w.1 300 29)
  have f135 := img_29 hI t134
  refine ⟨vp_of t134 (by omega) (by omega), ?_⟩
  obtain ⟨z136, t137⟩ := t_any (w.2.1 312 (w.1 300 29).toNatClampNeg)
  have f138 := img_312 hI t137
  exact hp _ _ t137 (by omega)
set_option maxHeartbeats 4000000 in
set_option maxRecDepth 100000 in
theorem sX11_isRow {T W H P S M : Int} {post : Int32 → Wd → Prop} {x1 : Int32} {zx1 : Int} {w : Wd}  (tx1 : Ti x1 zx1) (hI : IM T W H P S M w)  (hp : ∀ (r : Int32) (zr : Int), Ti r zr → ((zr = 0 ∨ (0 ≤ zx1 ∧ zx1 < P))) → post r w) : pX11_isRow   post  x1 w := by
  unfold pX11_isRow
  have hk := im_k hI
  refine ⟨fun c139 => ?_, fun c139 => ?_⟩
  · replace c139 := c_lt tx1 lit_0 c139
    exact hp _ _ lit_0 (by omega)
  · replace c139 := c_nlt tx1 lit_0 c139
    refine sX11_width   (hI := hI)   (hp := fun r_2v35 zr_2v35 tr_2v35 p140 => ?_)
    obtain ⟨z141, t142, f143⟩ := t_shlW hI tr_2v35
    first | replace f143 := f143 (by omega) | clear f143
    refine ⟨fun c144 => ?_, fun c144 => ?_⟩
    · replace c144 := c_le t142 tx1 c144
      exact hp _ _ lit_0 (by omega)
    · replace c144 := c_nle t142 tx1 c144
      exact hp _ _ lit_1 (by omega)
set_option maxHeartbeats 4000000 in
set_option maxRecDepth 100000 in
theorem sX11_prints_30 {T W H P S M : Int} {post : Int32 → Wd → Prop} {w : Wd}  (hp : ∀ (r : Int32) (zr : Int), Ti r zr → post r w) : ∀ (n : Nat) (x1 : Int32) (x2 : Int32) (x3 : Int32) (x4 : Int32) (x5 : Int32) (x6 : Int32) (zx1 : Int) (zx2 : Int) (zx3 : Int) (zx4 : Int) (zx5 : Int) (zx6 : Int), Ti x1 zx1 → Ti x2 zx2 → Ti x3 zx3 → Ti x4 zx4 → Ti x5 zx5 → Ti x6 zx6 → IM T W H P S M w → (0 ≤ zx6 ∧ zx6 ≤ 40) → (41 - zx6) < (n : Int) → pX11_prints_30   post  n x1 x2 x3 x4 x5 x6 w := by
  intro n
  induction n with
  | zero =>
    intro x1 x2 x3 x4 x5 x6 zx1 zx2 zx3 zx4 zx5 zx6  tx1 tx2 tx3 tx4 tx5 tx6 hI h0 hm
    exact absurd hm (by omega)
  | succ n ih =>
    intro x1 x2 x3 x4 x5 x6 zx1 zx2 zx3 zx4 zx5 zx6  tx1 tx2 tx3 tx4 tx5 tx6 hI h0 hm
    unfold pX11_prints_30
    have hk := im_k hI
    obtain ⟨z145, t146⟩ := t_any (w.2.1 341 (217 : Int32).toNatClampNeg)
    have f147 := img_217 hI t146
    refine ⟨fun c148 => ?_, fun c148 => ?_⟩
    · replace c148 := c_le t146 tx6 c148
      refine ⟨fun c149 => ?_, fun c149 => ?_⟩
      · replace c149 := c_neq tx2 lit_0 c149
        refine ⟨fun c150 => ?_, fun c150 => ?_⟩
        · replace c150 := c_neq tx2 lit_1 c150
          exact hp _ _ tx5 
        · replace c150 := c_eq tx2 lit_1 c150
          exact hp _ _ tx4 
      · replace c149 := c_eq tx2 lit_0 c149
        exact hp _ _ tx3 
    · replace c148 := c_nle t146 tx6 c148
      obtain ⟨z151, t152, f153⟩ := t_mul lit_3 tx6
      first | replace f153 := f153 (by omega) | clear f153
      obtain ⟨z154, t155, f156⟩ := t_add lit_96 t152
      first | replace f156 := f156 (by omega) | clear f156
      refine ⟨vp_of t155 (by omega) (by omega), ?_⟩
      obtain ⟨z157, t158⟩ := t_any (w.2.1 341 ((96 : Int32) + ((3 : Int32) * x6)).toNatClampNeg)
      refine ⟨fun c160 => ?_, fun c160 => ?_⟩
      · replace c160 := c_eq t158 tx1 c160
        obtain ⟨z161, t162, f163⟩ := t_add tx3 lit_1
        first | replace f163 := f163 (by omega) | clear f163
        intro x3_5v37 ex3_5v37
        have tx3_5v37 : Ti x3_5v37 z161 := by rw [ex3_5v37]; exact t162
        obtain ⟨z164, t165, f166⟩ := t_add t155 lit_2
        first | replace f166 := f166 (by omega) | clear f166
        refine ⟨vp_of t165 (by omega) (by omega), ?_⟩
        obtain ⟨z167, t168⟩ := t_any (w.2.1 341 (((96 : Int32) + ((3 : Int32) * x6)) + (2 : Int32)).toNatClampNeg)
        intro x5_6v38 ex5_6v38
        have tx5_6v38 : Ti x5_6v38 z167 := by rw [ex5_6v38]; exact t168
        refine ⟨fun c170 => ?_, fun c170 => ?_⟩
        · replace c170 := c_le lit_0 tx4 c170
          unfold pX11_prints_90
          obtain ⟨z171, t172, f173⟩ := t_add tx6 lit_1
          first | replace f173 := f173 (by omega) | clear f173
          intro x6_1v39 ex6_1v39
          have tx6_1v39 : Ti x6_1v39 z171 := by rw [ex6_1v39]; exact t172
          exact ih _ _ _ _ _ _ _ _ _ _ _ _  tx1 tx2 tx3_5v37 tx4 tx5_6v38 tx6_1v39 hI (by omega) (by omega)
        · replace c170 := c_nle lit_0 tx4 c170
          unfold pX11_prints_90
          obtain ⟨z174, t175, f176⟩ := t_add tx6 lit_1
          first | replace f176 := f176 (by omega) | clear f176
          intro x6_1v40 ex6_1v40
          have tx6_1v40 : Ti x6_1v40 z174 := by rw [ex6_1v40]; exact t175
          exact ih _ _ _ _ _ _ _ _ _ _ _ _  tx1 tx2 tx3_5v37 tx5_6v38 tx5_6v38 tx6_1v40 hI (by omega) (by omega)
      · replace c160 := c_neq t158 tx1 c160
        unfold pX11_prints_90
        obtain ⟨z177, t178, f179⟩ := t_add tx6 lit_1
        first | replace f179 := f179 (by omega) | clear f179
        intro x6_1v41 ex6_1v41
        have tx6_1v41 : Ti x6_1v41 z177 := by rw [ex6_1v41]; exact t178
        exact ih _ _ _ _ _ _ _ _ _ _ _ _  tx1 tx2 tx3 tx4 tx5 tx6_1v41 hI (by omega) (by omega)
set_option maxHeartbeats 4000000 in
set_option maxRecDepth 100000 in
theorem sX11_prints {T W H P S M : Int} {post : Int32 → Wd → Prop} {x1 : Int32} {zx1 : Int} {x2 : Int32} {zx2 : Int} {w : Wd}  (tx1 : Ti x1 zx1) (tx2 : Ti x2 zx2) (hI : IM T W H P S M w)  (hp : ∀ (r : Int32) (zr : Int), Ti r zr → post r w) : pX11_prints   post  x1 x2 w := by
  unfold pX11_prints
  have hk := im_k hI
  refine sX11_isRow   (hI := hI) (tx1 := tx1)  (hp := fun r_1v42 zr_1v42 tr_1v42 p180 => ?_)
  refine ⟨fun c181 => ?_, fun c181 => ?_⟩
  · replace c181 := c_eq tr_1v42 lit_0 c181
    exact hp _ _ lit_m1 
  · replace c181 := c_neq tr_1v42 lit_0 c181
    refine sX11_isIn   (hI := hI) (tx0 := tx2) (tx1 := lit_0) (tx2 := lit_2)  (hp := fun r_4v46 zr_4v46 tr_4v46 p182 p183 => ?_)
    refine ⟨fun c184 => ?_, fun c184 => ?_⟩
    · replace c184 := c_neq tr_4v46 lit_0 c184
      exact ⟨70000, sX11_prints_30    (hp := hp) 70000 _ _ _ _ _ _ _ _ _ _ _ _  tx1 tx2 lit_0 lit_m1 lit_m1 lit_0 hI (by omega) (by omega)⟩
    · replace c184 := c_eq tr_4v46 lit_0 c184
      exact hp _ _ lit_m1 
set_option maxHeartbeats 4000000 in
set_option maxRecDepth 100000 in
theorem sX11_turnedRow_4 {T W H P S M : Int} {post : Int32 → Wd → Prop} {w : Wd}  (hp : ∀ (r : Int32) (zr : Int), Ti r zr → post r w) : ∀ (n : Nat) (x1 : Int32) (x2 : Int32) (x3 : Int32) (zx1 : Int) (zx2 : Int) (zx3 : Int), Ti x1 zx1 → Ti x2 zx2 → Ti x3 zx3 → IM T W H P S M w → (0 ≤ zx3 ∧ zx3 ≤ 12) → (13 - zx3) < (n : Int) → pX11_turnedRow_4   post  n x1 x2 x3 w := by
  intro n
  induction n with
  | zero =>
    intro x1 x2 x3 zx1 zx2 zx3  tx1 tx2 tx3 hI h0 hm
    exact absurd hm (by omega)
  | succ n ih =>
    intro x1 x2 x3 zx1 zx2 zx3  tx1 tx2 tx3 hI h0 hm
    unfold pX11_turnedRow_4
    have hk := im_k hI
    refine sX11_width   (hI := hI)   (hp := fun r_1v48 zr_1v48 tr_1v48 p185 => ?_)
    refine ⟨fun c186 => ?_, fun c186 => ?_⟩
    · replace c186 := c_le tr_1v48 tx3 c186
      exact hp _ _ tx2 
    · replace c186 := c_nle tr_1v48 tx3 c186
      obtain ⟨z187, t188, f189⟩ := t_and (x := (x1 >>> (x3 &&& 31))) lit_1 (by decide)
      refine ⟨fun c190 => ?_, fun c190 => ?_⟩
      · replace c190 := c_neq t188 lit_1 c190
        unfold pX11_turnedRow_34
        obtain ⟨z191, t192, f193⟩ := t_add tx3 lit_1
        first | replace f193 := f193 (by omega) | clear f193
        intro x3_1v56 ex3_1v56
        have tx3_1v56 : Ti x3_1v56 z191 := by rw [ex3_1v56]; exact t192
        exact ih _ _ _ _ _ _  tx1 tx2 tx3_1v56 hI (by omega) (by omega)
      · replace c190 := c_eq t188 lit_1 c190
        refine sX11_width   (hI := hI)   (hp := fun r_5v53 zr_5v53 tr_5v53 p194 => ?_)
        obtain ⟨z195, t196, f197⟩ := t_sub tr_5v53 lit_1
        first | replace f197 := f197 (by omega) | clear f197
        obtain ⟨z198, t199, f200⟩ := t_sub t196 tx3
        first | replace f200 := f200 (by omega) | clear f200
        obtain ⟨z201, t202, f203⟩ := t_shlW hI t199
        first | replace f203 := f203 (by omega) | clear f203
        obtain ⟨z204, t205, f206⟩ := t_orW hI tx2 t202
        first | replace f206 := f206 (by omega) | clear f206
        intro x2_7v57 ex2_7v57
        have tx2_7v57 : Ti x2_7v57 z204 := by rw [ex2_7v57]; exact t205
        unfold pX11_turnedRow_34
        obtain ⟨z207, t208, f209⟩ := t_add tx3 lit_1
        first | replace f209 := f209 (by omega) | clear f209
        intro x3_1v58 ex3_1v58
        have tx3_1v58 : Ti x3_1v58 z207 := by rw [ex3_1v58]; exact t208
        exact ih _ _ _ _ _ _  tx1 tx2_7v57 tx3_1v58 hI (by omega) (by omega)
set_option maxHeartbeats 4000000 in
set_option maxRecDepth 100000 in
theorem sX11_turnedRow {T W H P S M : Int} {post : Int32 → Wd → Prop} {x1 : Int32} {zx1 : Int} {w : Wd}  (tx1 : Ti x1 zx1) (hI : IM T W H P S M w)  (hp : ∀ (r : Int32) (zr : Int), Ti r zr → post r w) : pX11_turnedRow   post  x1 w := by
  unfold pX11_turnedRow
  have hk := im_k hI
  exact ⟨70000, sX11_turnedRow_4    (hp := hp) 70000 _ _ _ _ _ _  tx1 lit_0 lit_0 hI (by omega) (by omega)⟩
set_option maxHeartbeats 4000000 in
set_option maxRecDepth 100000 in
theorem sX11_turned {T W H P S M : Int} {post : Int32 → Wd → Prop} {x1 : Int32} {zx1 : Int} {w : Wd}  (tx1 : Ti x1 zx1) (hI : IM T W H P S M w)  (hp : ∀ (r : Int32) (zr : Int), Ti r zr → post r w) : pX11_turned   post  x1 w := by
  unfold pX11_turned
  have hk := im_k hI
  refine sX11_isRow   (hI := hI) (tx1 := tx1)  (hp := fun r_1v59 zr_1v59 tr_1v59 p210 => ?_)
  refine ⟨fun c211 => ?_, fun c211 => ?_⟩
  · replace c211 := c_eq tr_1v59 lit_0 c211
    exact hp _ _ lit_m1 
  · replace c211 := c_neq tr_1v59 lit_0 c211
    refine sX11_turnedRow   (hI := hI) (tx1 := tx1)  (hp := fun r_4v63 zr_4v63 tr_4v63 => ?_)
    exact hp _ _ tr_4v63 
set_option maxHeartbeats 4000000 in
set_option maxRecDepth 100000 in
theorem sX11_asked {T W H P S M : Int} {post : Int32 → Wd → Prop} {x1 : Int32} {zx1 : Int} {x2 : Int32} {zx2 : Int} {w : Wd}  (tx1 : Ti x1 zx1) (tx2 : Ti x2 zx2) (hI : IM T W H P S M w)  (hp : ∀ (r : Int32) (zr : Int), Ti r zr → post r w) : pX11_asked   post  x1 x2 w := by
  unfold pX11_asked
  have hk := im_k hI
  refine ⟨fun c212 => ?_, fun c212 => ?_, fun c212 => ?_, fun c212 => ?_, fun c212 => ?_, fun c212 => ?_, fun c212 => ?_, fun c212 => ?_, fun c212 => ?_, fun c212 => ?_, fun c212 => ?_, fun c212 => ?_, fun c212 => ?_, fun c212 => ?_, fun c212 => ?_, fun c212 => ?_, fun c212 => ?_, fun c212 => ?_, fun c212 => ?_, fun c212 => ?_, fun c212 => ?_, fun c212 => ?_, fun c212 => ?_⟩
  · rw [show x1.toInt = zx1 from tx1] at c212
    exact hp _ _ tx2 
  · rw [show x1.toInt = zx1 from tx1] at c212
    obtain ⟨z213, t214⟩ := t_any (w.1 300 39)
    exact hp _ _ t214 
  · rw [show x1.toInt = zx1 from tx1] at c212
    exact hp _ _ tx2 
  · rw [show x1.toInt = zx1 from tx1] at c212
    exact hp _ _ tx2 
  · rw [show x1.toInt = zx1 from tx1] at c212
    exact hp _ _ tx2 
  · rw [show x1.toInt = zx1 from tx1] at c212
    obtain ⟨z215, t216, f217⟩ := t_and (x := ((w.1 300 35) >>> ((w.1 300 36) &&& 31))) lit_1 (by decide)
    exact hp _ _ t216 
  · rw [show x1.toInt = zx1 from tx1] at c212
    exact hp _ _ tx2 
  · rw [show x1.toInt = zx1 from tx1] at c212
    obtain ⟨z218, t219⟩ := t_any (w.2.1 341 (219 : Int32).toNatClampNeg)
    exact hp _ _ t219 
  · rw [show x1.toInt = zx1 from tx1] at c212
    exact hp _ _ tx2 
  · rw [show x1.toInt = zx1 from tx1] at c212
    obtain ⟨z221, t222⟩ := t_any (w.1 300 36)
    refine ⟨fun c223 => ?_, fun c223 => ?_⟩
    · replace c223 := c_le t222 lit_0 c223
      exact hp _ _ lit_0 
    · replace c223 := c_nle t222 lit_0 c223
      obtain ⟨z224, t225, f226⟩ := t_and (x := ((w.1 300 35) >>> (((w.1 300 36) - (1 : Int32)) &&& 31))) lit_1 (by decide)
      exact hp _ _ t225 
  · rw [show x1.toInt = zx1 from tx1] at c212
    obtain ⟨z227, t228⟩ := t_any (w.1 300 36)
    exact hp _ _ t228 
  · rw [show x1.toInt = zx1 from tx1] at c212
    exact hp _ _ tx2 
  · rw [show x1.toInt = zx1 from tx1] at c212
    exact hp _ _ tx2 
  · rw [show x1.toInt = zx1 from tx1] at c212
    exact hp _ _ tx2 
  · rw [show x1.toInt = zx1 from tx1] at c212
    exact hp _ _ tx2 
  · rw [show x1.toInt = zx1 from tx1] at c212
    obtain ⟨z229, t230, f231⟩ := t_and (x := ((w.1 300 35) >>> (((w.1 300 36) + (1 : Int32)) &&& 31))) lit_1 (by decide)
    exact hp _ _ t230 
  · rw [show x1.toInt = zx1 from tx1] at c212
    exact hp _ _ tx2 
  · rw [show x1.toInt = zx1 from tx1] at c212
    obtain ⟨z232, t233⟩ := t_any (w.1 300 38)
    exact hp _ _ t233 
  · rw [show x1.toInt = zx1 from tx1] at c212
    exact hp _ _ tx2 
  · rw [show x1.toInt = zx1 from tx1] at c212
    exact hp _ _ tx2 
  · rw [show x1.toInt = zx1 from tx1] at c212
    exact hp _ _ tx2 
  · rw [show x1.toInt = zx1 from tx1] at c212
    exact hp _ _ tx2 
  · rw [show x1.toInt = zx1 from tx1] at c212
    obtain ⟨z234, t235⟩ := t_any (w.1 300 37)
    exact hp _ _ t235 
set_option maxHeartbeats 4000000 in
set_option maxRecDepth 100000 in
theorem sX11_two {T W H P S M : Int} {post : Int32 → Wd → Prop} {x0 : Int32} {zx0 : Int} {x1 : Int32} {zx1 : Int} {x2 : Int32} {zx2 : Int} {w : Wd}  (tx0 : Ti x0 zx0) (tx1 : Ti x1 zx1) (tx2 : Ti x2 zx2) (hI : IM T W H P S M w)  (hp : ∀ (r : Int32) (zr : Int), Ti r zr → post r w) : pX11_two   post  x0 x1 x2 w := by
  unfold pX11_two
  have hk := im_k hI
  refine ⟨fun c236 => ?_, fun c236 => ?_, fun c236 => ?_, fun c236 => ?_, fun c236 => ?_, fun c236 => ?_, fun c236 => ?_, fun c236 => ?_, fun c236 => ?_, fun c236 => ?_, fun c236 => ?_, fun c236 => ?_, fun c236 => ?_, fun c236 => ?_, fun c236 => ?_, fun c236 => ?_, fun c236 => ?_, fun c236 => ?_, fun c236 => ?_, fun c236 => ?_, fun c236 => ?_, fun c236 => ?_, fun c236 => ?_, fun c236 => ?_, fun c236 => ?_, fun c236 => ?_, fun c236 => ?_⟩
  · rw [show x0.toInt = zx0 from tx0] at c236
    refine ⟨fun c237 => ?_, fun c237 => ?_⟩
    · replace c237 := c_neq tx1 lit_0 c237
      exact hp _ _ lit_1 
    · replace c237 := c_eq tx1 lit_0 c237
      refine ⟨fun c238 => ?_, fun c238 => ?_⟩
      · replace c238 := c_eq tx2 lit_0 c238
        exact hp _ _ lit_0 
      · replace c238 := c_neq tx2 lit_0 c238
        exact hp _ _ lit_1 
  · rw [show x0.toInt = zx0 from tx0] at c236
    refine ⟨fun c239 => ?_, fun c239 => ?_⟩
    · replace c239 := c_neq tx2 lit_0 c239
      refine ⟨nz_of tx2 (by omega), ?_⟩
      obtain ⟨z240, t241, f242⟩ := t_remv tx1 tx2
      first | replace f242 := f242 (by omega) | clear f242
      exact hp _ _ t241 
    · replace c239 := c_eq tx2 lit_0 c239
      exact hp _ _ lit_0 
  · rw [show x0.toInt = zx0 from tx0] at c236
    refine ⟨fun c243 => ?_, fun c243 => ?_⟩
    · replace c243 := c_eq tx1 lit_0 c243
      exact hp _ _ lit_0 
    · replace c243 := c_neq tx1 lit_0 c243
      refine ⟨fun c244 => ?_, fun c244 => ?_⟩
      · replace c244 := c_eq tx2 lit_0 c244
        exact hp _ _ lit_0 
      · replace c244 := c_neq tx2 lit_0 c244
        exact hp _ _ lit_1 
  · rw [show x0.toInt = zx0 from tx0] at c236
    refine ⟨fun c245 => ?_, fun c245 => ?_⟩
    · replace c245 := c_neq tx1 lit_0 c245
      exact hp _ _ lit_1 
    · replace c245 := c_eq tx1 lit_0 c245
      refine ⟨fun c246 => ?_, fun c246 => ?_⟩
      · replace c246 := c_eq tx2 lit_0 c246
        exact hp _ _ lit_0 
      · replace c246 := c_neq tx2 lit_0 c246
        exact hp _ _ lit_1 
  · rw [show x0.toInt = zx0 from tx0] at c236
    refine ⟨fun c247 => ?_, fun c247 => ?_⟩
    · replace c247 := c_neq tx1 lit_0 c247
      exact hp _ _ lit_1 
    · replace c247 := c_eq tx1 lit_0 c247
      refine ⟨fun c248 => ?_, fun c248 => ?_⟩
      · replace c248 := c_eq tx2 lit_0 c248
        exact hp _ _ lit_0 
      · replace c248 := c_neq tx2 lit_0 c248
        exact hp _ _ lit_1 
  · rw [show x0.toInt = zx0 from tx0] at c236
    refine ⟨fun c249 => ?_, fun c249 => ?_⟩
    · replace c249 := c_neq tx1 lit_0 c249
      exact hp _ _ lit_1 
    · replace c249 := c_eq tx1 lit_0 c249
      refine ⟨fun c250 => ?_, fun c250 => ?_⟩
      · replace c250 := c_eq tx2 lit_0 c250
        exact hp _ _ lit_0 
      · replace c250 := c_neq tx2 lit_0 c250
        exact hp _ _ lit_1 
  · rw [show x0.toInt = zx0 from tx0] at c236
    obtain ⟨z251, t252, f253⟩ := t_mulv tx1 tx2
    first | replace f253 := f253 (by omega) | clear f253
    exact hp _ _ t252 
  · rw [show x0.toInt = zx0 from tx0] at c236
    obtain ⟨z254, t255, f256⟩ := t_add tx1 tx2
    first | replace f256 := f256 (by omega) | clear f256
    exact hp _ _ t255 
  · rw [show x0.toInt = zx0 from tx0] at c236
    refine ⟨fun c257 => ?_, fun c257 => ?_⟩
    · replace c257 := c_neq tx1 lit_0 c257
      exact hp _ _ lit_1 
    · replace c257 := c_eq tx1 lit_0 c257
      refine ⟨fun c258 => ?_, fun c258 => ?_⟩
      · replace c258 := c_eq tx2 lit_0 c258
        exact hp _ _ lit_0 
      · replace c258 := c_neq tx2 lit_0 c258
        exact hp _ _ lit_1 
  · rw [show x0.toInt = zx0 from tx0] at c236
    obtain ⟨z259, t260, f261⟩ := t_sub tx1 tx2
    first | replace f261 := f261 (by omega) | clear f261
    exact hp _ _ t260 
  · rw [show x0.toInt = zx0 from tx0] at c236
    refine ⟨fun c262 => ?_, fun c262 => ?_⟩
    · replace c262 := c_neq tx1 lit_0 c262
      exact hp _ _ lit_1 
    · replace c262 := c_eq tx1 lit_0 c262
      refine ⟨fun c263 => ?_, fun c263 => ?_⟩
      · replace c263 := c_eq tx2 lit_0 c263
        exact hp _ _ lit_0 
      · replace c263 := c_neq tx2 lit_0 c263
        exact hp _ _ lit_1 
  · rw [show x0.toInt = zx0 from tx0] at c236
    refine ⟨fun c264 => ?_, fun c264 => ?_⟩
    · replace c264 := c_neq tx2 lit_0 c264
      refine ⟨nz_of tx2 (by omega), ?_⟩
      obtain ⟨z265, t266, f267⟩ := t_divv tx1 tx2
      first | replace f267 := f267 (by omega) | clear f267
      exact hp _ _ t266 
    · replace c264 := c_eq tx2 lit_0 c264
      exact hp _ _ lit_0 
  · rw [show x0.toInt = zx0 from tx0] at c236
    refine ⟨fun c268 => ?_, fun c268 => ?_⟩
    · replace c268 := c_neq tx1 lit_0 c268
      exact hp _ _ lit_1 
    · replace c268 := c_eq tx1 lit_0 c268
      refine ⟨fun c269 => ?_, fun c269 => ?_⟩
      · replace c269 := c_eq tx2 lit_0 c269
        exact hp _ _ lit_0 
      · replace c269 := c_neq tx2 lit_0 c269
        exact hp _ _ lit_1 
  · rw [show x0.toInt = zx0 from tx0] at c236
    refine ⟨fun c270 => ?_, fun c270 => ?_⟩
    · replace c270 := c_neq tx1 lit_0 c270
      exact hp _ _ lit_1 
    · replace c270 := c_eq tx1 lit_0 c270
      refine ⟨fun c271 => ?_, fun c271 => ?_⟩
      · replace c271 := c_eq tx2 lit_0 c271
        exact hp _ _ lit_0 
      · replace c271 := c_neq tx2 lit_0 c271
        exact hp _ _ lit_1 
  · rw [show x0.toInt = zx0 from tx0] at c236
    refine ⟨fun c272 => ?_, fun c272 => ?_⟩
    · replace c272 := c_neq tx1 lit_0 c272
      exact hp _ _ lit_1 
    · replace c272 := c_eq tx1 lit_0 c272
      refine ⟨fun c273 => ?_, fun c273 => ?_⟩
      · replace c273 := c_eq tx2 lit_0 c273
        exact hp _ _ lit_0 
      · replace c273 := c_neq tx2 lit_0 c273
        exact hp _ _ lit_1 
  · rw [show x0.toInt = zx0 from tx0] at c236
    refine ⟨fun c274 => ?_, fun c274 => ?_⟩
    · replace c274 := c_neq tx1 lit_0 c274
      exact hp _ _ lit_1 
    · replace c274 := c_eq tx1 lit_0 c274
      refine ⟨fun c275 => ?_, fun c275 => ?_⟩
      · replace c275 := c_eq tx2 lit_0 c275
        exact hp _ _ lit_0 
      · replace c275 := c_neq tx2 lit_0 c275
        exact hp _ _ lit_1 
  · rw [show x0.toInt = zx0 from tx0] at c236
    refine ⟨fun c276 => ?_, fun c276 => ?_⟩
    · replace c276 := c_neq tx1 lit_0 c276
      exact hp _ _ lit_1 
    · replace c276 := c_eq tx1 lit_0 c276
      refine ⟨fun c277 => ?_, fun c277 => ?_⟩
      · replace c277 := c_eq tx2 lit_0 c277
        exact hp _ _ lit_0 
      · replace c277 := c_neq tx2 lit_0 c277
        exact hp _ _ lit_1 
  · rw [show x0.toInt = zx0 from tx0] at c236
    refine ⟨fun c278 => ?_, fun c278 => ?_⟩
    · replace c278 := c_neq tx1 lit_0 c278
      exact hp _ _ lit_1 
    · replace c278 := c_eq tx1 lit_0 c278
      refine ⟨fun c279 => ?_, fun c279 => ?_⟩
      · replace c279 := c_eq tx2 lit_0 c279
        exact hp _ _ lit_0 
      · replace c279 := c_neq tx2 lit_0 c279
        exact hp _ _ lit_1 
  · rw [show x0.toInt = zx0 from tx0] at c236
    refine ⟨fun c280 => ?_, fun c280 => ?_⟩
    · replace c280 := c_neq tx1 lit_0 c280
      exact hp _ _ lit_1 
    · replace c280 := c_eq tx1 lit_0 c280
      refine ⟨fun c281 => ?_, fun c281 => ?_⟩
      · replace c281 := c_eq tx2 lit_0 c281
        exact hp _ _ lit_0 
      · replace c281 := c_neq tx2 lit_0 c281
        exact hp _ _ lit_1 
  · rw [show x0.toInt = zx0 from tx0] at c236
    refine ⟨fun c282 => ?_, fun c282 => ?_⟩
    · replace c282 := c_neq tx1 lit_0 c282
      exact hp _ _ lit_1 
    · replace c282 := c_eq tx1 lit_0 c282
      refine ⟨fun c283 => ?_, fun c283 => ?_⟩
      · replace c283 := c_eq tx2 lit_0 c283
        exact hp _ _ lit_0 
      · replace c283 := c_neq tx2 lit_0 c283
        exact hp _ _ lit_1 
  · rw [show x0.toInt = zx0 from tx0] at c236
    refine ⟨fun c284 => ?_, fun c284 => ?_⟩
    · replace c284 := c_neq tx1 lit_0 c284
      exact hp _ _ lit_1 
    · replace c284 := c_eq tx1 lit_0 c284
      refine ⟨fun c285 => ?_, fun c285 => ?_⟩
      · replace c285 := c_eq tx2 lit_0 c285
        exact hp _ _ lit_0 
      · replace c285 := c_neq tx2 lit_0 c285
        exact hp _ _ lit_1 
  · rw [show x0.toInt = zx0 from tx0] at c236
    refine ⟨fun c286 => ?_, fun c286 => ?_⟩
    · replace c286 := c_neq tx1 lit_0 c286
      exact hp _ _ lit_1 
    · replace c286 := c_eq tx1 lit_0 c286
      refine ⟨fun c287 => ?_, fun c287 => ?_⟩
      · replace c287 := c_eq tx2 lit_0 c287
        exact hp _ _ lit_0 
      · replace c287 := c_neq tx2 lit_0 c287
        exact hp _ _ lit_1 
  · rw [show x0.toInt = zx0 from tx0] at c236
    refine ⟨fun c288 => ?_, fun c288 => ?_⟩
    · replace c288 := c_neq tx1 lit_0 c288
      exact hp _ _ lit_1 
    · replace c288 := c_eq tx1 lit_0 c288
      refine ⟨fun c289 => ?_, fun c289 => ?_⟩
      · replace c289 := c_eq tx2 lit_0 c289
        exact hp _ _ lit_0 
      · replace c289 := c_neq tx2 lit_0 c289
        exact hp _ _ lit_1 
  · rw [show x0.toInt = zx0 from tx0] at c236
    refine ⟨fun c290 => ?_, fun c290 => ?_⟩
    · replace c290 := c_neq tx1 lit_0 c290
      exact hp _ _ lit_1 
    · replace c290 := c_eq tx1 lit_0 c290
      refine ⟨fun c291 => ?_, fun c291 => ?_⟩
      · replace c291 := c_eq tx2 lit_0 c291
        exact hp _ _ lit_0 
      · replace c291 := c_neq tx2 lit_0 c291
        exact hp _ _ lit_1 
  · rw [show x0.toInt = zx0 from tx0] at c236
    refine ⟨fun c292 => ?_, fun c292 => ?_⟩
    · replace c292 := c_le tx2 tx1 c292
      exact hp _ _ lit_0 
    · replace c292 := c_nle tx2 tx1 c292
      exact hp _ _ lit_1 
  · rw [show x0.toInt = zx0 from tx0] at c236
    refine ⟨fun c293 => ?_, fun c293 => ?_⟩
    · replace c293 := c_neq tx1 tx2 c293
      exact hp _ _ lit_0 
    · replace c293 := c_eq tx1 tx2 c293
      exact hp _ _ lit_1 
  · rw [show x0.toInt = zx0 from tx0] at c236
    refine ⟨fun c294 => ?_, fun c294 => ?_⟩
    · replace c294 := c_le tx1 tx2 c294
      exact hp _ _ lit_0 
    · replace c294 := c_nle tx1 tx2 c294
      exact hp _ _ lit_1 
set_option maxHeartbeats 4000000 in
set_option maxRecDepth 100000 in
theorem jX11_comes_17 {T W H P S M : Int} {J : Wd → Prop} {post : Int32 → Wd → Prop} {cd : Nat → Int32} {bk q t f : Int} {g : Nat → Int}  (hg : ∀ k : Nat, f ≤ (k : Int) → (k : Int) < t → SS (cd k) (g k) (g (k + 1))) (hf : 0 ≤ f ∧ t ≤ 1120 ∧ 0 ≤ q ∧ q < 8) (hp : ∀ (r : Int32) (zr : Int) (w9 : Wd), Ti r zr → IJ T W H P S M (fun w => J w ∧ CQ cd bk q t w) w9 → post r w9) : ∀ (n : Nat) (x1 : Int32) (x2 : Int32) (x3 : Int32) (zx1 : Int) (zx2 : Int) (zx3 : Int) (w : Wd), Ti x1 zx1 → Ti x2 zx2 → Ti x3 zx3 → IJ T W H P S M (fun w => J w ∧ CQ cd bk q t w) w → (zx1 = q) → (f ≤ zx3 ∧ zx3 ≤ t) → (zx2 = g zx3.toNat) → (t - zx3) < (n : Int) → pX11_comes_17   post  n x1 x2 x3 w := by
  intro n
  induction n with
  | zero =>
    intro x1 x2 x3 zx1 zx2 zx3 w tx1 tx2 tx3 hI h0 h1 h2 hm
    exact absurd hm (by omega)
  | succ n ih =>
    intro x1 x2 x3 zx1 zx2 zx3 w tx1 tx2 tx3 hI h0 h1 h2 hm
    unfold pX11_comes_17
    have hk := im_k hI.1
    obtain ⟨z295, t296⟩ := t_any (w.1 300 29)
    have f297 := cq_bk hI t296
    have f298 := img_29 hI.1 t296
    obtain ⟨z299, t300, f301⟩ := t_mul lit_8 t296
    first | replace f301 := f301 (by omega) | clear f301
    obtain ⟨z302, t303, f304⟩ := t_add t300 tx1
    first | replace f304 := f304 (by omega) | clear f304
    refine ⟨vp_of t303 (by omega) (by omega), ?_⟩
    obtain ⟨z305, t306⟩ := t_any (w.2.1 320 (((8 : Int32) * (w.1 300 29)) + x1).toNatClampNeg)
    have f307 := cq_to hI t303 t306 (by omega) (by omega)
    refine ⟨fun c308 => ?_, fun c308 => ?_⟩
    · replace c308 := c_le t306 tx3 c308
      obtain ⟨z309, t310⟩ := t_any (w.2.1 329 (0 : Int32).toNatClampNeg)
      exact hp _ _ _  t310 hI 
    · replace c308 := c_nle t306 tx3 c308
      refine ⟨vp_of tx3 (by omega) (by omega), ?_⟩
      obtain ⟨z311, t312⟩ := t_any (w.2.1 325 x3.toNatClampNeg)
      have f313 := cq_ss hg hI tx3 t312 hf.1 (by omega) (by omega)
      intro x4_2v65 ex4_2v65
      have tx4_2v65 : Ti x4_2v65 z311 := by rw [ex4_2v65]; exact t312
      refine ⟨fun c314 => ?_, fun c314 => ?_⟩
      · replace c314 := c_neq tx4_2v65 lit_126 c314
        refine sX11_isLetter   (hI := hI.1) (tx0 := tx4_2v65)  (hp := fun r_4v66 zr_4v66 tr_4v66 p315 => ?_)
        refine ⟨fun c316 => ?_, fun c316 => ?_⟩
        · replace c316 := c_eq tr_4v66 lit_0 c316
          obtain ⟨z317, t318, f319⟩ := t_add tx2 lit_m1
          first | replace f319 := f319 (by omega) | clear f319
          intro x2_7v76 ex2_7v76
          have tx2_7v76 : Ti x2_7v76 z317 := by rw [ex2_7v76]; exact t318
          obtain ⟨z320, t321, f322⟩ := t_sub tx2_7v76 lit_1
          first | replace f322 := f322 (by omega) | clear f322
          refine ⟨vp_of t321 (by omega) (by omega), ?_⟩
          refine ⟨vp_of tx2_7v76 (by omega) (by omega), ?_⟩
          obtain ⟨z323, t324⟩ := t_any (w.2.1 329 (x2_7v76 - (1 : Int32)).toNatClampNeg)
          obtain ⟨z325, t326⟩ := t_any (w.2.1 329 x2_7v76.toNatClampNeg)
          refine sX11_two   (hI := hI.1) (tx0 := tx4_2v65) (tx1 := t324) (tx2 := t326)  (hp := fun r_8v77 zr_8v77 tr_8v77 => ?_)
          refine ⟨vp_of t321 (by omega) (by omega), ?_⟩
          intro w_10v84 ew_10v84
          have hIw_10v84 := ijs_A hI ew_10v84
          unfold pX11_comes_139
          obtain ⟨z327, t328, f329⟩ := t_add tx3 lit_1
          first | replace f329 := f329 (by omega) | clear f329
          intro x3_1v85 ex3_1v85
          have tx3_1v85 : Ti x3_1v85 z327 := by rw [ex3_1v85]; exact t328
          exact ih _ _ _ _ _ _ _ tx1 tx2_7v76 tx3_1v85 hIw_10v84 (by omega) (by omega) (by rw [show z327.toNat = zx3.toNat + 1 by omega]; omega) (by omega)
        · replace c316 := c_neq tr_4v66 lit_0 c316
          refine ⟨vp_of tx3 (by omega) (by omega), ?_⟩
          obtain ⟨z330, t331⟩ := t_any (w.2.1 326 x3.toNatClampNeg)
          refine sX11_asked   (hI := hI.1) (tx1 := tx4_2v65) (tx2 := t331)  (hp := fun r_11v80 zr_11v80 tr_11v80 => ?_)
          refine ⟨vp_of tx2 (by omega) (by omega), ?_⟩
          intro w_13v86 ew_13v86
          have hIw_13v86 := ijs_A hI ew_13v86
          obtain ⟨z332, t333, f334⟩ := t_add tx2 lit_1
          first | replace f334 := f334 (by omega) | clear f334
          intro x2_14v87 ex2_14v87
          have tx2_14v87 : Ti x2_14v87 z332 := by rw [ex2_14v87]; exact t333
          unfold pX11_comes_139
          obtain ⟨z335, t336, f337⟩ := t_add tx3 lit_1
          first | replace f337 := f337 (by omega) | clear f337
          intro x3_1v88 ex3_1v88
          have tx3_1v88 : Ti x3_1v88 z335 := by rw [ex3_1v88]; exact t336
          exact ih _ _ _ _ _ _ _ tx1 tx2_14v87 tx3_1v88 hIw_13v86 (by omega) (by omega) (by rw [show z335.toNat = zx3.toNat + 1 by omega]; omega) (by omega)
      · replace c314 := c_eq tx4_2v65 lit_126 c314
        obtain ⟨z338, t339, f340⟩ := t_sub tx2 lit_1
        first | replace f340 := f340 (by omega) | clear f340
        refine ⟨vp_of t339 (by omega) (by omega), ?_⟩
        obtain ⟨z341, t342⟩ := t_any (w.2.1 329 (x2 - (1 : Int32)).toNatClampNeg)
        refine ⟨fun c343 => ?_, fun c343 => ?_⟩
        · replace c343 := c_neq t342 lit_0 c343
          unfold pX11_comes_73
          refine ⟨vp_of t339 (by omega) (by omega), ?_⟩
          intro w_1v89 ew_1v89
          have hIw_1v89 := ijs_A hI ew_1v89
          unfold pX11_comes_139
          obtain ⟨z344, t345, f346⟩ := t_add tx3 lit_1
          first | replace f346 := f346 (by omega) | clear f346
          intro x3_1v90 ex3_1v90
          have tx3_1v90 : Ti x3_1v90 z344 := by rw [ex3_1v90]; exact t345
          exact ih _ _ _ _ _ _ _ tx1 tx2 tx3_1v90 hIw_1v89 (by omega) (by omega) (by rw [show z344.toNat = zx3.toNat + 1 by omega]; omega) (by omega)
        · replace c343 := c_eq t342 lit_0 c343
          unfold pX11_comes_73
          refine ⟨vp_of t339 (by omega) (by omega), ?_⟩
          intro w_1v91 ew_1v91
          have hIw_1v91 := ijs_A hI ew_1v91
          unfold pX11_comes_139
          obtain ⟨z347, t348, f349⟩ := t_add tx3 lit_1
          first | replace f349 := f349 (by omega) | clear f349
          intro x3_1v92 ex3_1v92
          have tx3_1v92 : Ti x3_1v92 z347 := by rw [ex3_1v92]; exact t348
          exact ih _ _ _ _ _ _ _ tx1 tx2 tx3_1v92 hIw_1v91 (by omega) (by omega) (by rw [show z347.toNat = zx3.toNat + 1 by omega]; omega) (by omega)
theorem jX11_comes {T W H P S M : Int} {J : Wd → Prop} {post : Int32 → Wd → Prop} {x1 : Int32} {zx1 : Int} {w : Wd} (tx1 : Ti x1 zx1) (hI : IJ T W H P S M J w) (h0 : 0 ≤ zx1 ∧ zx1 < 2 * H) (hp : ∀ (r : Int32) (zr : Int) (w9 : Wd), Ti r zr → IJ T W H P S M J w9 → post r w9) : pX11_comes post x1 w := by
  unfold pX11_comes
  have hk := im_k hI.1
  obtain ⟨zb, tb⟩ := t_any (w.1 300 29)
  have fb := img_29 hI.1 tb
  obtain ⟨z8, t8, f8⟩ := t_mul lit_8 tb
  replace f8 := f8 (by omega)
  obtain ⟨zi, ti, fi⟩ := t_add t8 tx1
  replace fi := fi (by omega)
  refine ⟨vp_of ti (by omega) (by omega), ?_⟩
  have eb : (w.1 300 29).toInt = zb := tb
  have ei := i_cz ti
  have hr := hI.1.2.2.2.2.2.2.2.2.2.2.1 zx1.toNat (by omega)
  rw [eb, show 8 * zb + (zx1.toNat : Int) = 8 * zb + zx1 by omega] at hr
  obtain ⟨p1, p2, p3, g, g0, hg⟩ := hr
  have ei2 : (((8 : Int32) * (w.1 300 29)) + x1).toNatClampNeg = (8 * zb + zx1).toNat := by rw [ei, fi, f8]
  intro x3_1 ex3
  rw [ei2] at ex3
  refine ⟨70000, jX11_comes_17 (J := J) (cd := w.2.1 325) (bk := zb) (q := zx1) (t := (w.2.1 320 (8 * zb + zx1).toNat).toInt) (f := (w.2.1 319 (8 * zb + zx1).toNat).toInt) (g := g) hg ⟨p1, p3, by omega, by omega⟩ (fun r zr w9 tr i9 => hp r zr w9 tr ⟨i9.1, i9.2.1.1, hI.2.2⟩) 70000 x1 0 x3_1 zx1 0 (w.2.1 319 (8 * zb + zx1).toNat).toInt w tx1 lit_0 (by rw [ex3]; rfl) ⟨hI.1, ⟨hI.2.1, rfl, eb, rfl⟩, stJ_CQ hI.2.2⟩ rfl ⟨Int.le_refl _, p2⟩ g0.symm (by omega)⟩
set_option maxHeartbeats 4000000 in
set_option maxRecDepth 100000 in
theorem jX11_castOf_37 {T W H P S M : Int} {J : Wd → Prop} {post : Int32 → Wd → Prop}   (hp : ∀ (r : Int32) (zr : Int) (w9 : Wd), Ti r zr → IJ T W H P S M J w9 → (0 ≤ zr ∧ zr ≤ P - 1) → post r w9) : ∀ (n : Nat) (x2 : Int32) (x5 : Int32) (x6 : Int32) (zx2 : Int) (zx5 : Int) (zx6 : Int) (w : Wd), Ti x2 zx2 → Ti x5 zx5 → Ti x6 zx6 → IJ T W H P S M J w → (0 ≤ zx6 ∧ zx6 ≤ W) → (0 ≤ zx5 ∧ zx5 < P) → (0 ≤ zx2 ∧ zx2 < H) → (W + 1 - zx6) < (n : Int) → pX11_castOf_37   post  n x2 x5 x6 w := by
  intro n
  induction n with
  | zero =>
    intro x2 x5 x6 zx2 zx5 zx6 w tx2 tx5 tx6 hI h0 h1 h2 hm
    exact absurd hm (by omega)
  | succ n ih =>
    intro x2 x5 x6 zx2 zx5 zx6 w tx2 tx5 tx6 hI h0 h1 h2 hm
    unfold pX11_castOf_37
    have hk := im_k hI.1
    refine sX11_width   (hI := hI.1)   (hp := fun r_1v93 zr_1v93 tr_1v93 p350 => ?_)
    refine ⟨fun c351 => ?_, fun c351 => ?_⟩
    · replace c351 := c_le tr_1v93 tx6 c351
      exact hp _ _ _  tx5 hI (by omega)
    · replace c351 := c_nle tr_1v93 tx6 c351
      intro w_4v96 ew_4v96
      have hIw_4v96 := ijs_n hI ew_4v96 (by decide) (by decide)
      obtain ⟨z352, t353, f354⟩ := t_and (x := ((w_4v96.1 300 35) >>> (x6 &&& 31))) lit_1 (by decide)
      refine ⟨fun c355 => ?_, fun c355 => ?_⟩
      · replace c355 := c_neq t353 lit_1 c355
        unfold pX11_castOf_70
        refine ⟨fun c356 => ?_, fun c356 => ?_⟩
        · replace c356 := c_eq lit_0 lit_0 c356
          obtain ⟨z357, t358, f359⟩ := t_mul lit_2 tx2
          first | replace f359 := f359 (by omega) | clear f359
          obtain ⟨z360, t361, f362⟩ := t_add t358 lit_1
          first | replace f362 := f362 (by omega) | clear f362
          refine jX11_comes   (hI := hIw_4v96) (tx1 := t361) (h0 := (by omega)) (hp := fun r_2v97 zr_2v97 w_3v98  tr_2v97 hIw_3v98  => ?_)
          refine ⟨fun c363 => ?_, fun c363 => ?_⟩
          · replace c363 := c_eq tr_2v97 lit_0 c363
            unfold pX11_castOf_112
            refine ⟨fun c364 => ?_, fun c364 => ?_⟩
            · replace c364 := c_eq lit_0 lit_0 c364
              unfold pX11_castOf_128
              obtain ⟨z365, t366, f367⟩ := t_add tx6 lit_1
              first | replace f367 := f367 (by omega) | clear f367
              intro x6_1v102 ex6_1v102
              have tx6_1v102 : Ti x6_1v102 z365 := by rw [ex6_1v102]; exact t366
              exact ih _ _ _ _ _ _ _ tx2 tx5 tx6_1v102 hIw_3v98 (by omega) (by omega) (by omega) (by omega)
            · replace c364 := c_neq lit_0 lit_0 c364
              obtain ⟨z368, t369, f370⟩ := t_shlW hIw_3v98.1 tx6
              first | replace f370 := f370 (by omega) | clear f370
              obtain ⟨z371, t372, f373⟩ := t_orW hIw_3v98.1 tx5 t369
              first | replace f373 := f373 (by omega) | clear f373
              intro x5_2v101 ex5_2v101
              have tx5_2v101 : Ti x5_2v101 z371 := by rw [ex5_2v101]; exact t372
              unfold pX11_castOf_128
              obtain ⟨z374, t375, f376⟩ := t_add tx6 lit_1
              first | replace f376 := f376 (by omega) | clear f376
              intro x6_1v103 ex6_1v103
              have tx6_1v103 : Ti x6_1v103 z374 := by rw [ex6_1v103]; exact t375
              exact ih _ _ _ _ _ _ _ tx2 tx5_2v101 tx6_1v103 hIw_3v98 (by omega) (by omega) (by omega) (by omega)
          · replace c363 := c_neq tr_2v97 lit_0 c363
            unfold pX11_castOf_112
            refine ⟨fun c377 => ?_, fun c377 => ?_⟩
            · replace c377 := c_eq lit_1 lit_0 c377
              unfold pX11_castOf_128
              obtain ⟨z378, t379, f380⟩ := t_add tx6 lit_1
              first | replace f380 := f380 (by omega) | clear f380
              intro x6_1v105 ex6_1v105
              have tx6_1v105 : Ti x6_1v105 z378 := by rw [ex6_1v105]; exact t379
              exact ih _ _ _ _ _ _ _ tx2 tx5 tx6_1v105 hIw_3v98 (by omega) (by omega) (by omega) (by omega)
            · replace c377 := c_neq lit_1 lit_0 c377
              obtain ⟨z381, t382, f383⟩ := t_shlW hIw_3v98.1 tx6
              first | replace f383 := f383 (by omega) | clear f383
              obtain ⟨z384, t385, f386⟩ := t_orW hIw_3v98.1 tx5 t382
              first | replace f386 := f386 (by omega) | clear f386
              intro x5_2v104 ex5_2v104
              have tx5_2v104 : Ti x5_2v104 z384 := by rw [ex5_2v104]; exact t385
              unfold pX11_castOf_128
              obtain ⟨z387, t388, f389⟩ := t_add tx6 lit_1
              first | replace f389 := f389 (by omega) | clear f389
              intro x6_1v106 ex6_1v106
              have tx6_1v106 : Ti x6_1v106 z387 := by rw [ex6_1v106]; exact t388
              exact ih _ _ _ _ _ _ _ tx2 tx5_2v104 tx6_1v106 hIw_3v98 (by omega) (by omega) (by omega) (by omega)
        · replace c356 := c_neq lit_0 lit_0 c356
          obtain ⟨z390, t391, f392⟩ := t_mul lit_2 tx2
          first | replace f392 := f392 (by omega) | clear f392
          refine jX11_comes   (hI := hIw_4v96) (tx1 := t391) (h0 := (by omega)) (hp := fun r_5v99 zr_5v99 w_6v100  tr_5v99 hIw_6v100  => ?_)
          refine ⟨fun c393 => ?_, fun c393 => ?_⟩
          · replace c393 := c_neq tr_5v99 lit_0 c393
            unfold pX11_castOf_112
            refine ⟨fun c394 => ?_, fun c394 => ?_⟩
            · replace c394 := c_eq lit_0 lit_0 c394
              unfold pX11_castOf_128
              obtain ⟨z395, t396, f397⟩ := t_add tx6 lit_1
              first | replace f397 := f397 (by omega) | clear f397
              intro x6_1v108 ex6_1v108
              have tx6_1v108 : Ti x6_1v108 z395 := by rw [ex6_1v108]; exact t396
              exact ih _ _ _ _ _ _ _ tx2 tx5 tx6_1v108 hIw_6v100 (by omega) (by omega) (by omega) (by omega)
            · replace c394 := c_neq lit_0 lit_0 c394
              obtain ⟨z398, t399, f400⟩ := t_shlW hIw_6v100.1 tx6
              first | replace f400 := f400 (by omega) | clear f400
              obtain ⟨z401, t402, f403⟩ := t_orW hIw_6v100.1 tx5 t399
              first | replace f403 := f403 (by omega) | clear f403
              intro x5_2v107 ex5_2v107
              have tx5_2v107 : Ti x5_2v107 z401 := by rw [ex5_2v107]; exact t402
              unfold pX11_castOf_128
              obtain ⟨z404, t405, f406⟩ := t_add tx6 lit_1
              first | replace f406 := f406 (by omega) | clear f406
              intro x6_1v109 ex6_1v109
              have tx6_1v109 : Ti x6_1v109 z404 := by rw [ex6_1v109]; exact t405
              exact ih _ _ _ _ _ _ _ tx2 tx5_2v107 tx6_1v109 hIw_6v100 (by omega) (by omega) (by omega) (by omega)
          · replace c393 := c_eq tr_5v99 lit_0 c393
            unfold pX11_castOf_112
            refine ⟨fun c407 => ?_, fun c407 => ?_⟩
            · replace c407 := c_eq lit_1 lit_0 c407
              unfold pX11_castOf_128
              obtain ⟨z408, t409, f410⟩ := t_add tx6 lit_1
              first | replace f410 := f410 (by omega) | clear f410
              intro x6_1v111 ex6_1v111
              have tx6_1v111 : Ti x6_1v111 z408 := by rw [ex6_1v111]; exact t409
              exact ih _ _ _ _ _ _ _ tx2 tx5 tx6_1v111 hIw_6v100 (by omega) (by omega) (by omega) (by omega)
            · replace c407 := c_neq lit_1 lit_0 c407
              obtain ⟨z411, t412, f413⟩ := t_shlW hIw_6v100.1 tx6
              first | replace f413 := f413 (by omega) | clear f413
              obtain ⟨z414, t415, f416⟩ := t_orW hIw_6v100.1 tx5 t412
              first | replace f416 := f416 (by omega) | clear f416
              intro x5_2v110 ex5_2v110
              have tx5_2v110 : Ti x5_2v110 z414 := by rw [ex5_2v110]; exact t415
              unfold pX11_castOf_128
              obtain ⟨z417, t418, f419⟩ := t_add tx6 lit_1
              first | replace f419 := f419 (by omega) | clear f419
              intro x6_1v112 ex6_1v112
              have tx6_1v112 : Ti x6_1v112 z417 := by rw [ex6_1v112]; exact t418
              exact ih _ _ _ _ _ _ _ tx2 tx5_2v110 tx6_1v112 hIw_6v100 (by omega) (by omega) (by omega) (by omega)
      · replace c355 := c_eq t353 lit_1 c355
        unfold pX11_castOf_70
        refine ⟨fun c420 => ?_, fun c420 => ?_⟩
        · replace c420 := c_eq lit_1 lit_0 c420
          obtain ⟨z421, t422, f423⟩ := t_mul lit_2 tx2
          first | replace f423 := f423 (by omega) | clear f423
          obtain ⟨z424, t425, f426⟩ := t_add t422 lit_1
          first | replace f426 := f426 (by omega) | clear f426
          refine jX11_comes   (hI := hIw_4v96) (tx1 := t425) (h0 := (by omega)) (hp := fun r_2v113 zr_2v113 w_3v114  tr_2v113 hIw_3v114  => ?_)
          refine ⟨fun c427 => ?_, fun c427 => ?_⟩
          · replace c427 := c_eq tr_2v113 lit_0 c427
            unfold pX11_castOf_112
            refine ⟨fun c428 => ?_, fun c428 => ?_⟩
            · replace c428 := c_eq lit_0 lit_0 c428
              unfold pX11_castOf_128
              obtain ⟨z429, t430, f431⟩ := t_add tx6 lit_1
              first | replace f431 := f431 (by omega) | clear f431
              intro x6_1v118 ex6_1v118
              have tx6_1v118 : Ti x6_1v118 z429 := by rw [ex6_1v118]; exact t430
              exact ih _ _ _ _ _ _ _ tx2 tx5 tx6_1v118 hIw_3v114 (by omega) (by omega) (by omega) (by omega)
            · replace c428 := c_neq lit_0 lit_0 c428
              obtain ⟨z432, t433, f434⟩ := t_shlW hIw_3v114.1 tx6
              first | replace f434 := f434 (by omega) | clear f434
              obtain ⟨z435, t436, f437⟩ := t_orW hIw_3v114.1 tx5 t433
              first | replace f437 := f437 (by omega) | clear f437
              intro x5_2v117 ex5_2v117
              have tx5_2v117 : Ti x5_2v117 z435 := by rw [ex5_2v117]; exact t436
              unfold pX11_castOf_128
              obtain ⟨z438, t439, f440⟩ := t_add tx6 lit_1
              first | replace f440 := f440 (by omega) | clear f440
              intro x6_1v119 ex6_1v119
              have tx6_1v119 : Ti x6_1v119 z438 := by rw [ex6_1v119]; exact t439
              exact ih _ _ _ _ _ _ _ tx2 tx5_2v117 tx6_1v119 hIw_3v114 (by omega) (by omega) (by omega) (by omega)
          · replace c427 := c_neq tr_2v113 lit_0 c427
            unfold pX11_castOf_112
            refine ⟨fun c441 => ?_, fun c441 => ?_⟩
            · replace c441 := c_eq lit_1 lit_0 c441
              unfold pX11_castOf_128
              obtain ⟨z442, t443, f444⟩ := t_add tx6 lit_1
              first | replace f444 := f444 (by omega) | clear f444
              intro x6_1v121 ex6_1v121
              have tx6_1v121 : Ti x6_1v121 z442 := by rw [ex6_1v121]; exact t443
              exact ih _ _ _ _ _ _ _ tx2 tx5 tx6_1v121 hIw_3v114 (by omega) (by omega) (by omega) (by omega)
            · replace c441 := c_neq lit_1 lit_0 c441
              obtain ⟨z445, t446, f447⟩ := t_shlW hIw_3v114.1 tx6
              first | replace f447 := f447 (by omega) | clear f447
              obtain ⟨z448, t449, f450⟩ := t_orW hIw_3v114.1 tx5 t446
              first | replace f450 := f450 (by omega) | clear f450
              intro x5_2v120 ex5_2v120
              have tx5_2v120 : Ti x5_2v120 z448 := by rw [ex5_2v120]; exact t449
              unfold pX11_castOf_128
              obtain ⟨z451, t452, f453⟩ := t_add tx6 lit_1
              first | replace f453 := f453 (by omega) | clear f453
              intro x6_1v122 ex6_1v122
              have tx6_1v122 : Ti x6_1v122 z451 := by rw [ex6_1v122]; exact t452
              exact ih _ _ _ _ _ _ _ tx2 tx5_2v120 tx6_1v122 hIw_3v114 (by omega) (by omega) (by omega) (by omega)
        · replace c420 := c_neq lit_1 lit_0 c420
          obtain ⟨z454, t455, f456⟩ := t_mul lit_2 tx2
          first | replace f456 := f456 (by omega) | clear f456
          refine jX11_comes   (hI := hIw_4v96) (tx1 := t455) (h0 := (by omega)) (hp := fun r_5v115 zr_5v115 w_6v116  tr_5v115 hIw_6v116  => ?_)
          refine ⟨fun c457 => ?_, fun c457 => ?_⟩
          · replace c457 := c_neq tr_5v115 lit_0 c457
            unfold pX11_castOf_112
            refine ⟨fun c458 => ?_, fun c458 => ?_⟩
            · replace c458 := c_eq lit_0 lit_0 c458
              unfold pX11_castOf_128
              obtain ⟨z459, t460, f461⟩ := t_add tx6 lit_1
              first | replace f461 := f461 (by omega) | clear f461
              intro x6_1v124 ex6_1v124
              have tx6_1v124 : Ti x6_1v124 z459 := by rw [ex6_1v124]; exact t460
              exact ih _ _ _ _ _ _ _ tx2 tx5 tx6_1v124 hIw_6v116 (by omega) (by omega) (by omega) (by omega)
            · replace c458 := c_neq lit_0 lit_0 c458
              obtain ⟨z462, t463, f464⟩ := t_shlW hIw_6v116.1 tx6
              first | replace f464 := f464 (by omega) | clear f464
              obtain ⟨z465, t466, f467⟩ := t_orW hIw_6v116.1 tx5 t463
              first | replace f467 := f467 (by omega) | clear f467
              intro x5_2v123 ex5_2v123
              have tx5_2v123 : Ti x5_2v123 z465 := by rw [ex5_2v123]; exact t466
              unfold pX11_castOf_128
              obtain ⟨z468, t469, f470⟩ := t_add tx6 lit_1
              first | replace f470 := f470 (by omega) | clear f470
              intro x6_1v125 ex6_1v125
              have tx6_1v125 : Ti x6_1v125 z468 := by rw [ex6_1v125]; exact t469
              exact ih _ _ _ _ _ _ _ tx2 tx5_2v123 tx6_1v125 hIw_6v116 (by omega) (by omega) (by omega) (by omega)
          · replace c457 := c_eq tr_5v115 lit_0 c457
            unfold pX11_castOf_112
            refine ⟨fun c471 => ?_, fun c471 => ?_⟩
            · replace c471 := c_eq lit_1 lit_0 c471
              unfold pX11_castOf_128
              obtain ⟨z472, t473, f474⟩ := t_add tx6 lit_1
              first | replace f474 := f474 (by omega) | clear f474
              intro x6_1v127 ex6_1v127
              have tx6_1v127 : Ti x6_1v127 z472 := by rw [ex6_1v127]; exact t473
              exact ih _ _ _ _ _ _ _ tx2 tx5 tx6_1v127 hIw_6v116 (by omega) (by omega) (by omega) (by omega)
            · replace c471 := c_neq lit_1 lit_0 c471
              obtain ⟨z475, t476, f477⟩ := t_shlW hIw_6v116.1 tx6
              first | replace f477 := f477 (by omega) | clear f477
              obtain ⟨z478, t479, f480⟩ := t_orW hIw_6v116.1 tx5 t476
              first | replace f480 := f480 (by omega) | clear f480
              intro x5_2v126 ex5_2v126
              have tx5_2v126 : Ti x5_2v126 z478 := by rw [ex5_2v126]; exact t479
              unfold pX11_castOf_128
              obtain ⟨z481, t482, f483⟩ := t_add tx6 lit_1
              first | replace f483 := f483 (by omega) | clear f483
              intro x6_1v128 ex6_1v128
              have tx6_1v128 : Ti x6_1v128 z481 := by rw [ex6_1v128]; exact t482
              exact ih _ _ _ _ _ _ _ tx2 tx5_2v126 tx6_1v128 hIw_6v116 (by omega) (by omega) (by omega) (by omega)
set_option maxHeartbeats 4000000 in
set_option maxRecDepth 100000 in
theorem jX11_castOf {T W H P S M : Int} {J : Wd → Prop} {post : Int32 → Wd → Prop} {x1 : Int32} {zx1 : Int} {x2 : Int32} {zx2 : Int} {x3 : Int32} {zx3 : Int} {x4 : Int32} {zx4 : Int} {w : Wd}  (tx1 : Ti x1 zx1) (tx2 : Ti x2 zx2) (tx3 : Ti x3 zx3) (tx4 : Ti x4 zx4) (hI : IJ T W H P S M J w) (h0 : 0 ≤ zx2 ∧ zx2 < H) (hp : ∀ (r : Int32) (zr : Int) (w9 : Wd), Ti r zr → IJ T W H P S M J w9 → (0 ≤ zr ∧ zr ≤ P - 1) → post r w9) : pX11_castOf   post  x1 x2 x3 x4 w := by
  unfold pX11_castOf
  have hk := im_k hI.1
  refine sX11_turnedRow   (hI := hI.1) (tx1 := tx1)  (hp := fun r_1v129 zr_1v129 tr_1v129 => ?_)
  intro w_3v137 ew_3v137
  have hIw_3v137 := ijs_n hI ew_3v137 (by decide) (by decide)
  have t484 : Ti (w_3v137.1 300 35) zr_1v129 := by rw [ew_3v137, sI_at]; exact tr_1v129
  refine sX11_bitsOf   (hI := hIw_3v137.1) (tx0 := t484)  (hp := fun r_4v138 zr_4v138 tr_4v138 => ?_)
  intro w_6v143 ew_6v143
  have hIw_6v143 := ijs_n hIw_3v137 ew_6v143 (by decide) (by decide)
  intro w_7v144 ew_7v144
  have hIw_7v144 := ijs_n hIw_6v143 ew_7v144 (by decide) (by decide)
  intro w_8v145 ew_8v145
  have hIw_8v145 := ijs_n hIw_7v144 ew_8v145 (by decide) (by decide)
  exact ⟨70000, jX11_castOf_37    (hp := hp) 70000 _ _ _ _ _ _ _ tx2 lit_0 lit_0 hIw_8v145 (by omega) (by omega) (by omega) (by omega)⟩
theorem sX11_castOf {T W H P S M : Int} {post : Int32 → Wd → Prop} {x1 : Int32} {zx1 : Int} {x2 : Int32} {zx2 : Int} {x3 : Int32} {zx3 : Int} {x4 : Int32} {zx4 : Int} {w : Wd} (tx1 : Ti x1 zx1) (tx2 : Ti x2 zx2) (tx3 : Ti x3 zx3) (tx4 : Ti x4 zx4) (hI : IM T W H P S M w) (h0 : 0 ≤ zx2 ∧ zx2 < H) (hp : ∀ (r : Int32) (zr : Int) (w9 : Wd), Ti r zr → IM T W H P S M w9 → (0 ≤ zr ∧ zr ≤ P - 1) → post r w9) : pX11_castOf post x1 x2 x3 x4 w :=
  jX11_castOf (J := fun _ => True) tx1 tx2 tx3 tx4 ⟨hI, trivial, stJ_true⟩ h0 (fun r zr w9 t i h => hp r zr w9 t i.1 h)
set_option maxHeartbeats 4000000 in
set_option maxRecDepth 100000 in
theorem sX11_isHand {T W H P S M : Int} {post : Int32 → Wd → Prop} {x1 : Int32} {zx1 : Int} {w : Wd}  (tx1 : Ti x1 zx1) (hI : IM T W H P S M w)  (hp : ∀ (r : Int32) (zr : Int), Ti r zr → ((zr = 0 ∨ (0 ≤ zx1 ∧ zx1 < H))) → post r w) : pX11_isHand   post  x1 w := by
  unfold pX11_isHand
  have hk := im_k hI
  obtain ⟨z485, t486⟩ := t_any (w.1 300 29)
  have f487 := img_29 hI t486
  refine ⟨vp_of t486 (by omega) (by omega), ?_⟩
  obtain ⟨z488, t489⟩ := t_any (w.2.1 314 (w.1 300 29).toNatClampNeg)
  have f490 := img_314 hI t489
  obtain ⟨z491, t492, f493⟩ := t_sub t489 lit_1
  first | replace f493 := f493 (by omega) | clear f493
  refine sX11_isIn   (hI := hI) (tx0 := tx1) (tx1 := lit_0) (tx2 := t492)  (hp := fun r_1v146 zr_1v146 tr_1v146 p494 p495 => ?_)
  refine ⟨nar_ok tr_1v146 (by omega), ?_⟩
  exact hp _ _ tr_1v146 (by omega)
set_option maxHeartbeats 4000000 in
set_option maxRecDepth 100000 in
theorem sX11_isHeat {T W H P S M : Int} {post : Int32 → Wd → Prop} {x0 : Int32} {zx0 : Int} {w : Wd}  (tx0 : Ti x0 zx0) (hI : IM T W H P S M w)  (hp : ∀ (r : Int32) (zr : Int), Ti r zr → ((zr = 0 ∨ (0 ≤ zx0 ∧ zx0 ≤ 9))) → post r w) : pX11_isHeat   post  x0 w := by
  unfold pX11_isHeat
  have hk := im_k hI
  refine sX11_isIn   (hI := hI) (tx0 := tx0) (tx1 := lit_0) (tx2 := lit_9)  (hp := fun r_1v148 zr_1v148 tr_1v148 p496 p497 => ?_)
  refine ⟨nar_ok tr_1v148 (by omega), ?_⟩
  exact hp _ _ tr_1v148 (by omega)
set_option maxHeartbeats 4000000 in
set_option maxRecDepth 100000 in
theorem sX11_would {T W H P S M : Int} {post : Int32 → Wd → Prop} {x1 : Int32} {zx1 : Int} {x2 : Int32} {zx2 : Int} {x3 : Int32} {zx3 : Int} {x4 : Int32} {zx4 : Int} {w : Wd}  (tx1 : Ti x1 zx1) (tx2 : Ti x2 zx2) (tx3 : Ti x3 zx3) (tx4 : Ti x4 zx4) (hI : IM T W H P S M w)  (hp : ∀ (r : Int32) (zr : Int) (w9 : Wd), Ti r zr → IM T W H P S M w9 → post r w9) : pX11_would   post  x1 x2 x3 x4 w := by
  unfold pX11_would
  have hk := im_k hI
  refine sX11_isRow   (hI := hI) (tx1 := tx1)  (hp := fun r_1v150 zr_1v150 tr_1v150 p498 => ?_)
  refine ⟨fun c499 => ?_, fun c499 => ?_⟩
  · replace c499 := c_eq tr_1v150 lit_0 c499
    exact hp _ _ _  lit_m1 hI 
  · replace c499 := c_neq tr_1v150 lit_0 c499
    refine sX11_isHand   (hI := hI) (tx1 := tx2)  (hp := fun r_4v160 zr_4v160 tr_4v160 p500 => ?_)
    refine ⟨fun c501 => ?_, fun c501 => ?_⟩
    · replace c501 := c_eq tr_4v160 lit_0 c501
      exact hp _ _ _  lit_m1 hI 
    · replace c501 := c_neq tr_4v160 lit_0 c501
      refine sX11_isHeat   (hI := hI) (tx0 := tx3)  (hp := fun r_7v168 zr_7v168 tr_7v168 p502 => ?_)
      refine ⟨fun c503 => ?_, fun c503 => ?_⟩
      · replace c503 := c_eq tr_7v168 lit_0 c503
        exact hp _ _ _  lit_m1 hI 
      · replace c503 := c_neq tr_7v168 lit_0 c503
        refine sX11_isIn   (hI := hI) (tx0 := tx4) (tx1 := lit_0) (tx2 := lit_99)  (hp := fun r_10v174 zr_10v174 tr_10v174 p504 p505 => ?_)
        refine ⟨fun c506 => ?_, fun c506 => ?_⟩
        · replace c506 := c_eq tr_10v174 lit_0 c506
          exact hp _ _ _  lit_m1 hI 
        · replace c506 := c_neq tr_10v174 lit_0 c506
          refine sX11_castOf   (hI := hI) (tx1 := tx1) (tx2 := tx2) (tx3 := tx3) (tx4 := tx4) (h0 := (by omega)) (hp := fun r_13v178 zr_13v178 w_14v179  tr_13v178 hIw_14v179 p507 => ?_)
          exact hp _ _ _  tr_13v178 hIw_14v179 
set_option maxHeartbeats 4000000 in
set_option maxRecDepth 100000 in
theorem sX11_rowOf {T W H P S M : Int} {post : Int32 → Wd → Prop} {x1 : Int32} {zx1 : Int} {w : Wd}  (tx1 : Ti x1 zx1) (hI : IM T W H P S M w) (h0 : 0 ≤ zx1 ∧ zx1 < S) (hp : ∀ (r : Int32) (zr : Int), Ti r zr → (0 ≤ zr ∧ zr ≤ P - 1) → post r w) : pX11_rowOf   post  x1 w := by
  unfold pX11_rowOf
  have hk := im_k hI
  obtain ⟨z508, t509, f510⟩ := t_mul lit_4 tx1
  first | replace f510 := f510 (by omega) | clear f510
  refine ⟨vp_of t509 (by omega) (by omega), ?_⟩
  obtain ⟨z511, t512⟩ := t_any (w.2.1 341 ((4 : Int32) * x1).toNatClampNeg)
  have f513 := img_row (x := zx1) hI t509 t512
  first | replace f513 := f513 (by omega) | clear f513
  exact hp _ _ t512 (by omega)
