set_option maxHeartbeats 4000000 in
set_option maxRecDepth 100000 in
theorem sX11_feed_18 {T W H P S M : Int} {post : Int32 → Wd → Prop}   (hp : ∀ (r : Int32) (zr : Int) (w9 : Wd), Ti r zr → IM T W H P S M w9 → post r w9) : ∀ (n : Nat) (x1 : Int32) (x2 : Int32) (x3 : Int32) (x4 : Int32) (x5 : Int32) (x6 : Int32) (zx1 : Int) (zx2 : Int) (zx3 : Int) (zx4 : Int) (zx5 : Int) (zx6 : Int) (w : Wd), Ti x1 zx1 → Ti x2 zx2 → Ti x3 zx3 → Ti x4 zx4 → Ti x5 zx5 → Ti x6 zx6 → IM T W H P S M w → (0 ≤ zx6 ∧ zx6 ≤ 20) → (Rg (w.1 300 2) 0 1580) → (21 - zx6) < (n : Int) → pX11_feed_18   post  n x1 x2 x3 x4 x5 x6 w := by
  intro n
  induction n with
  | zero =>
    intro x1 x2 x3 x4 x5 x6 zx1 zx2 zx3 zx4 zx5 zx6 w tx1 tx2 tx3 tx4 tx5 tx6 hI h0 h1 hm
    exact absurd hm (by omega)
  | succ n ih =>
    intro x1 x2 x3 x4 x5 x6 zx1 zx2 zx3 zx4 zx5 zx6 w tx1 tx2 tx3 tx4 tx5 tx6 hI h0 h1 hm
    unfold pX11_feed_18
    have hk := im_k hI
    obtain ⟨z1, t2⟩ := t_any (w.1 300 2)
    have f3 := img_2 hI t2
    have f4 := Rg.g h1 t2
    refine ⟨fun c5 => ?_, fun c5 => ?_⟩
    · replace c5 := c_le lit_20 tx6 c5
      intro w_2v1 ew_2v1
      obtain ⟨z6, t7, f8⟩ := t_add t2 lit_20
      first | replace f8 := f8 (by omega) | clear f8
      have hIw_2v1 := ims_2 hI ew_2v1 t7 (by omega) (by omega)
      have t9 : Ti (w_2v1.1 300 2) z6 := by rw [ew_2v1, sI_at]; exact t7
      exact hp _ _ _  t9 hIw_2v1 
    · replace c5 := c_nle lit_20 tx6 c5
      refine ⟨fun c10 => ?_, fun c10 => ?_⟩
      · replace c10 := c_le lit_4 tx6 c10
        refine ⟨fun c11 => ?_, fun c11 => ?_⟩
        · replace c11 := c_le lit_8 tx6 c11
          refine ⟨fun c12 => ?_, fun c12 => ?_⟩
          · replace c12 := c_le lit_12 tx6 c12
            refine ⟨fun c13 => ?_, fun c13 => ?_⟩
            · replace c13 := c_le lit_16 tx6 c13
              unfold pX11_feed_71
              obtain ⟨z14, t15, f16⟩ := t_add t2 tx6
              first | replace f16 := f16 (by omega) | clear f16
              refine ⟨vp_of t15 (by omega) (by omega), ?_⟩
              intro w_1v2 ew_1v2
              have hIw_1v2 := ims_A hI ew_1v2 (by decide)
              obtain ⟨z17, t18, f19⟩ := t_add tx6 lit_1
              first | replace f19 := f19 (by omega) | clear f19
              intro x6_2v3 ex6_2v3
              have tx6_2v3 : Ti x6_2v3 z17 := by rw [ex6_2v3]; exact t18
              have t20 : Ti (w_1v2.1 300 2) z1 := by rw [e1_A ew_1v2]; exact t2
              exact ih _ _ _ _ _ _ _ _ _ _ _ _ _ tx1 tx2 tx3 tx4 tx5 tx6_2v3 hIw_1v2 (by omega) (Rg.m t20 (by omega) (by omega)) (by omega)
            · replace c13 := c_nle lit_16 tx6 c13
              unfold pX11_feed_71
              obtain ⟨z21, t22, f23⟩ := t_add t2 tx6
              first | replace f23 := f23 (by omega) | clear f23
              refine ⟨vp_of t22 (by omega) (by omega), ?_⟩
              intro w_1v4 ew_1v4
              have hIw_1v4 := ims_A hI ew_1v4 (by decide)
              obtain ⟨z24, t25, f26⟩ := t_add tx6 lit_1
              first | replace f26 := f26 (by omega) | clear f26
              intro x6_2v5 ex6_2v5
              have tx6_2v5 : Ti x6_2v5 z24 := by rw [ex6_2v5]; exact t25
              have t27 : Ti (w_1v4.1 300 2) z1 := by rw [e1_A ew_1v4]; exact t2
              exact ih _ _ _ _ _ _ _ _ _ _ _ _ _ tx1 tx2 tx3 tx4 tx5 tx6_2v5 hIw_1v4 (by omega) (Rg.m t27 (by omega) (by omega)) (by omega)
          · replace c12 := c_nle lit_12 tx6 c12
            unfold pX11_feed_71
            obtain ⟨z28, t29, f30⟩ := t_add t2 tx6
            first | replace f30 := f30 (by omega) | clear f30
            refine ⟨vp_of t29 (by omega) (by omega), ?_⟩
            intro w_1v6 ew_1v6
            have hIw_1v6 := ims_A hI ew_1v6 (by decide)
            obtain ⟨z31, t32, f33⟩ := t_add tx6 lit_1
            first | replace f33 := f33 (by omega) | clear f33
            intro x6_2v7 ex6_2v7
            have tx6_2v7 : Ti x6_2v7 z31 := by rw [ex6_2v7]; exact t32
            have t34 : Ti (w_1v6.1 300 2) z1 := by rw [e1_A ew_1v6]; exact t2
            exact ih _ _ _ _ _ _ _ _ _ _ _ _ _ tx1 tx2 tx3 tx4 tx5 tx6_2v7 hIw_1v6 (by omega) (Rg.m t34 (by omega) (by omega)) (by omega)
        · replace c11 := c_nle lit_8 tx6 c11
          unfold pX11_feed_71
          obtain ⟨z35, t36, f37⟩ := t_add t2 tx6
          first | replace f37 := f37 (by omega) | clear f37
          refine ⟨vp_of t36 (by omega) (by omega), ?_⟩
          intro w_1v8 ew_1v8
          have hIw_1v8 := ims_A hI ew_1v8 (by decide)
          obtain ⟨z38, t39, f40⟩ := t_add tx6 lit_1
          first | replace f40 := f40 (by omega) | clear f40
          intro x6_2v9 ex6_2v9
          have tx6_2v9 : Ti x6_2v9 z38 := by rw [ex6_2v9]; exact t39
          have t41 : Ti (w_1v8.1 300 2) z1 := by rw [e1_A ew_1v8]; exact t2
          exact ih _ _ _ _ _ _ _ _ _ _ _ _ _ tx1 tx2 tx3 tx4 tx5 tx6_2v9 hIw_1v8 (by omega) (Rg.m t41 (by omega) (by omega)) (by omega)
      · replace c10 := c_nle lit_4 tx6 c10
        unfold pX11_feed_71
        obtain ⟨z42, t43, f44⟩ := t_add t2 tx6
        first | replace f44 := f44 (by omega) | clear f44
        refine ⟨vp_of t43 (by omega) (by omega), ?_⟩
        intro w_1v10 ew_1v10
        have hIw_1v10 := ims_A hI ew_1v10 (by decide)
        obtain ⟨z45, t46, f47⟩ := t_add tx6 lit_1
        first | replace f47 := f47 (by omega) | clear f47
        intro x6_2v11 ex6_2v11
        have tx6_2v11 : Ti x6_2v11 z45 := by rw [ex6_2v11]; exact t46
        have t48 : Ti (w_1v10.1 300 2) z1 := by rw [e1_A ew_1v10]; exact t2
        exact ih _ _ _ _ _ _ _ _ _ _ _ _ _ tx1 tx2 tx3 tx4 tx5 tx6_2v11 hIw_1v10 (by omega) (Rg.m t48 (by omega) (by omega)) (by omega)
set_option maxHeartbeats 4000000 in
set_option maxRecDepth 100000 in
theorem sX11_feed {T W H P S M : Int} {post : Int32 → Wd → Prop} {x1 : Int32} {zx1 : Int} {x2 : Int32} {zx2 : Int} {x3 : Int32} {zx3 : Int} {x4 : Int32} {zx4 : Int} {x5 : Int32} {zx5 : Int} {w : Wd}  (tx1 : Ti x1 zx1) (tx2 : Ti x2 zx2) (tx3 : Ti x3 zx3) (tx4 : Ti x4 zx4) (tx5 : Ti x5 zx5) (hI : IM T W H P S M w)  (hp : ∀ (r : Int32) (zr : Int) (w9 : Wd), Ti r zr → IM T W H P S M w9 → post r w9) : pX11_feed   post  x1 x2 x3 x4 x5 w := by
  unfold pX11_feed
  have hk := im_k hI
  obtain ⟨z49, t50⟩ := t_any (w.1 300 2)
  have f51 := img_2 hI t50
  obtain ⟨z52, t53, f54⟩ := t_add t50 lit_20
  first | replace f54 := f54 (by omega) | clear f54
  refine ⟨fun c55 => ?_, fun c55 => ?_⟩
  · replace c55 := c_le t53 lit_1600 c55
    exact ⟨70000, sX11_feed_18    (hp := hp) 70000 _ _ _ _ _ _ _ _ _ _ _ _ _ tx1 tx2 tx3 tx4 tx5 lit_0 hI (by omega) (Rg.m t50 (by omega) (by omega)) (by omega)⟩
  · replace c55 := c_nle t53 lit_1600 c55
    exact hp _ _ _  lit_m1 hI 
set_option maxHeartbeats 4000000 in
set_option maxRecDepth 100000 in
theorem sX11_end {T W H P S M : Int} {post : Int32 → Wd → Prop} {x1 : Int32} {zx1 : Int} {w : Wd}  (tx1 : Ti x1 zx1) (hI : IM T W H P S M w)  (hp : ∀ (r : Int32) (zr : Int) (w9 : Wd), Ti r zr → IM T W H P S M w9 → post r w9) : pX11_end   post  x1 w := by
  unfold pX11_end
  have hk := im_k hI
  refine ⟨fun c56 => ?_, fun c56 => ?_⟩
  · replace c56 := c_lt tx1 lit_0 c56
    exact hp _ _ _  lit_m1 hI 
  · replace c56 := c_nlt tx1 lit_0 c56
    obtain ⟨z57, t58⟩ := t_any (w.1 300 2)
    have f59 := img_2 hI t58
    refine ⟨fun c60 => ?_, fun c60 => ?_⟩
    · replace c60 := c_le tx1 t58 c60
      intro w_3v12 ew_3v12
      have hIw_3v12 := ims_2 hI ew_3v12 tx1 (by omega) (by omega)
      exact hp _ _ _  tx1 hIw_3v12 
    · replace c60 := c_nle tx1 t58 c60
      exact hp _ _ _  lit_m1 hI 
set_option maxHeartbeats 4000000 in
set_option maxRecDepth 100000 in
theorem sX11_isLetter {T W H P S M : Int} {post : Int32 → Wd → Prop} {x0 : Int32} {zx0 : Int} {w : Wd}  (tx0 : Ti x0 zx0) (hI : IM T W H P S M w)  (hp : ∀ (r : Int32) (zr : Int), Ti r zr → post r w) : pX11_isLetter   post  x0 w := by
  unfold pX11_isLetter
  have hk := im_k hI
  refine ⟨fun c61 => ?_, fun c61 => ?_⟩
  · replace c61 := c_lt tx0 lit_97 c61
    exact hp _ _ lit_0 
  · replace c61 := c_nlt tx0 lit_97 c61
    refine ⟨fun c62 => ?_, fun c62 => ?_⟩
    · replace c62 := c_lt lit_122 tx0 c62
      exact hp _ _ lit_0 
    · replace c62 := c_nlt lit_122 tx0 c62
      exact hp _ _ lit_1 
set_option maxHeartbeats 4000000 in
set_option maxRecDepth 100000 in
theorem sX11_fault {T W H P S M : Int} {post : Int32 → Wd → Prop} {x1 : Int32} {zx1 : Int} {w : Wd}  (tx1 : Ti x1 zx1) (hI : IM T W H P S M w)  (hp : ∀ (r : Int32) (zr : Int), Ti r zr → post r w) : pX11_fault   post  x1 w := by
  unfold pX11_fault
  have hk := im_k hI
  refine ⟨fun c63 => ?_, fun c63 => ?_⟩
  · replace c63 := c_neq tx1 lit_0 c63
    refine ⟨fun c64 => ?_, fun c64 => ?_⟩
    · replace c64 := c_neq tx1 lit_1 c64
      exact hp _ _ lit_m1 
    · replace c64 := c_eq tx1 lit_1 c64
      obtain ⟨z65, t66⟩ := t_any (w.1 300 5)
      exact hp _ _ t66 
  · replace c63 := c_eq tx1 lit_0 c63
    obtain ⟨z67, t68⟩ := t_any (w.1 300 4)
    exact hp _ _ t68 
set_option maxHeartbeats 4000000 in
set_option maxRecDepth 100000 in
theorem sX11_deep_4 {T W H P S M : Int} {post : Int32 → Wd → Prop} {w : Wd}  (hp : ∀ (r : Int32) (zr : Int), Ti r zr → post r w) : ∀ (n : Nat) (x2 : Int32) (x3 : Int32) (zx2 : Int) (zx3 : Int), Ti x2 zx2 → Ti x3 zx3 → IM T W H P S M w → (-1 ≤ zx3 ∧ zx3 < S) → (zx3 + 2) < (n : Int) → pX11_deep_4   post  n x2 x3 w := by
  intro n
  induction n with
  | zero =>
    intro x2 x3 zx2 zx3  tx2 tx3 hI h0 hm
    exact absurd hm (by omega)
  | succ n ih =>
    intro x2 x3 zx2 zx3  tx2 tx3 hI h0 hm
    unfold pX11_deep_4
    have hk := im_k hI
    refine ⟨fun c69 => ?_, fun c69 => ?_⟩
    · replace c69 := c_le tx3 lit_0 c69
      exact hp _ _ tx2 
    · replace c69 := c_nle tx3 lit_0 c69
      obtain ⟨z70, t71, f72⟩ := t_add tx2 lit_1
      first | replace f72 := f72 (by omega) | clear f72
      intro x2_2v13 ex2_2v13
      have tx2_2v13 : Ti x2_2v13 z70 := by rw [ex2_2v13]; exact t71
      obtain ⟨z73, t74, f75⟩ := t_mul lit_4 tx3
      first | replace f75 := f75 (by omega) | clear f75
      obtain ⟨z76, t77, f78⟩ := t_add t74 lit_1
      first | replace f78 := f78 (by omega) | clear f78
      refine ⟨vp_of t77 (by omega) (by omega), ?_⟩
      obtain ⟨z79, t80⟩ := t_any (w.2.1 341 (((4 : Int32) * x3) + (1 : Int32)).toNatClampNeg)
      have f81 := img_par (x := zx3) hI t77 t80
      first | replace f81 := f81 (by omega) | clear f81
      intro x3_3v14 ex3_3v14
      have tx3_3v14 : Ti x3_3v14 z79 := by rw [ex3_3v14]; exact t80
      exact ih _ _ _ _  tx2_2v13 tx3_3v14 hI (by omega) (by omega)
set_option maxHeartbeats 4000000 in
set_option maxRecDepth 100000 in
theorem sX11_deep {T W H P S M : Int} {post : Int32 → Wd → Prop} {x1 : Int32} {zx1 : Int} {w : Wd}  (tx1 : Ti x1 zx1) (hI : IM T W H P S M w) (h0 : 0 ≤ zx1 ∧ zx1 < S) (hp : ∀ (r : Int32) (zr : Int), Ti r zr → post r w) : pX11_deep   post  x1 w := by
  unfold pX11_deep
  have hk := im_k hI
  exact ⟨70000, sX11_deep_4    (hp := hp) 70000 _ _ _ _  lit_0 tx1 hI (by omega) (by omega)⟩
set_option maxHeartbeats 4000000 in
set_option maxRecDepth 100000 in
theorem sX11_isIn {T W H P S M : Int} {post : Int32 → Wd → Prop} {x0 : Int32} {zx0 : Int} {x1 : Int32} {zx1 : Int} {x2 : Int32} {zx2 : Int} {w : Wd}  (tx0 : Ti x0 zx0) (tx1 : Ti x1 zx1) (tx2 : Ti x2 zx2) (hI : IM T W H P S M w)  (hp : ∀ (r : Int32) (zr : Int), Ti r zr → ((zr = 0 ∨ zr = 1)) → ((zr = 0 ∨ (zx1 ≤ zx0 ∧ zx0 ≤ zx2))) → post r w) : pX11_isIn   post  x0 x1 x2 w := by
  unfold pX11_isIn
  have hk := im_k hI
  refine ⟨fun c82 => ?_, fun c82 => ?_⟩
  · replace c82 := c_lt tx0 tx1 c82
    exact hp _ _ lit_0 (by omega) (by omega)
  · replace c82 := c_nlt tx0 tx1 c82
    refine ⟨fun c83 => ?_, fun c83 => ?_⟩
    · replace c83 := c_lt tx2 tx0 c83
      exact hp _ _ lit_0 (by omega) (by omega)
    · replace c83 := c_nlt tx2 tx0 c83
      exact hp _ _ lit_1 (by omega) (by omega)
set_option maxHeartbeats 4000000 in
set_option maxRecDepth 100000 in
theorem sX11_isSeal {T W H P S M : Int} {post : Int32 → Wd → Prop} {x1 : Int32} {zx1 : Int} {w : Wd}  (tx1 : Ti x1 zx1) (hI : IM T W H P S M w)  (hp : ∀ (r : Int32) (zr : Int), Ti r zr → ((zr = 0 ∨ (0 ≤ zx1 ∧ zx1 < S))) → post r w) : pX11_isSeal   post  x1 w := by
  unfold pX11_isSeal
  have hk := im_k hI
  obtain ⟨z84, t85⟩ := t_any (w.2.1 341 (216 : Int32).toNatClampNeg)
  have f86 := img_216 hI t85
  obtain ⟨z87, t88, f89⟩ := t_sub t85 lit_1
  first | replace f89 := f89 (by omega) | clear f89
  refine sX11_isIn   (hI := hI) (tx0 := tx1) (tx1 := lit_0) (tx2 := t88)  (hp := fun r_1v15 zr_1v15 tr_1v15 p90 p91 => ?_)
  refine ⟨nar_ok tr_1v15 (by omega), ?_⟩
  exact hp _ _ tr_1v15 (by omega)
set_option maxHeartbeats 4000000 in
set_option maxRecDepth 100000 in
theorem sX11_seal {T W H P S M : Int} {post : Int32 → Wd → Prop} {x1 : Int32} {zx1 : Int} {x2 : Int32} {zx2 : Int} {w : Wd}  (tx1 : Ti x1 zx1) (tx2 : Ti x2 zx2) (hI : IM T W H P S M w)  (hp : ∀ (r : Int32) (zr : Int), Ti r zr → post r w) : pX11_seal   post  x1 x2 w := by
  unfold pX11_seal
  have hk := im_k hI
  refine sX11_isSeal   (hI := hI) (tx1 := tx1)  (hp := fun r_1v17 zr_1v17 tr_1v17 p92 => ?_)
  refine ⟨fun c93 => ?_, fun c93 => ?_⟩
  · replace c93 := c_eq tr_1v17 lit_0 c93
    exact hp _ _ lit_m1 
  · replace c93 := c_neq tr_1v17 lit_0 c93
    refine sX11_isIn   (hI := hI) (tx0 := tx2) (tx1 := lit_0) (tx2 := lit_4)  (hp := fun r_4v23 zr_4v23 tr_4v23 p94 p95 => ?_)
    refine ⟨fun c96 => ?_, fun c96 => ?_⟩
    · replace c96 := c_neq tr_4v23 lit_0 c96
      refine ⟨fun c97 => ?_, fun c97 => ?_⟩
      · replace c97 := c_neq tx2 lit_4 c97
        obtain ⟨z98, t99, f100⟩ := t_mul lit_4 tx1
        first | replace f100 := f100 (by omega) | clear f100
        obtain ⟨z101, t102, f103⟩ := t_add t99 tx2
        first | replace f103 := f103 (by omega) | clear f103
        refine ⟨vp_of t102 (by omega) (by omega), ?_⟩
        obtain ⟨z104, t105⟩ := t_any (w.2.1 341 (((4 : Int32) * x1) + x2).toNatClampNeg)
        exact hp _ _ t105 
      · replace c97 := c_eq tx2 lit_4 c97
        refine sX11_deep   (hI := hI) (tx1 := tx1) (h0 := (by omega)) (hp := fun r_8v27 zr_8v27 tr_8v27 => ?_)
        exact hp _ _ tr_8v27 
    · replace c96 := c_eq tr_4v23 lit_0 c96
      exact hp _ _ lit_m1 
set_option maxHeartbeats 4000000 in
set_option maxRecDepth 100000 in
theorem sX11_shown {T W H P S M : Int} {post : Int32 → Wd → Prop} {x1 : Int32} {zx1 : Int} {x2 : Int32} {zx2 : Int} {w : Wd}  (tx1 : Ti x1 zx1) (tx2 : Ti x2 zx2) (hI : IM T W H P S M w)  (hp : ∀ (r : Int32) (zr : Int), Ti r zr → post r w) : pX11_shown   post  x1 x2 w := by
  unfold pX11_shown
  have hk := im_k hI
  obtain ⟨z107, t108⟩ := t_any (w.2.1 341 (217 : Int32).toNatClampNeg)
  have f109 := img_217 hI t108
  obtain ⟨z110, t111, f112⟩ := t_sub t108 lit_1
  first | replace f112 := f112 (by omega) | clear f112
  refine sX11_isIn   (hI := hI) (tx0 := tx1) (tx1 := lit_0) (tx2 := t111)  (hp := fun r_1v29 zr_1v29 tr_1v29 p113 p114 => ?_)
  refine ⟨fun c115 => ?_, fun c115 => ?_⟩
  · replace c115 := c_eq tr_1v29 lit_0 c115
    exact hp _ _ lit_m1 
  · replace c115 := c_neq tr_1v29 lit_0 c115
    refine sX11_isIn   (hI := hI) (tx0 := tx2) (tx1 := lit_0) (tx2 := lit_2)  (hp := fun r_4v33 zr_4v33 tr_4v33 p116 p117 => ?_)
    refine ⟨fun c118 => ?_, fun c118 => ?_⟩
    · replace c118 := c_eq tr_4v33 lit_0 c118
      exact hp _ _ lit_m1 
    · replace c118 := c_neq tr_4v33 lit_0 c118
      obtain ⟨z119, t120, f121⟩ := t_mul lit_3 tx1
      first | replace f121 := f121 (by omega) | clear f121
      obtain ⟨z122, t123, f124⟩ := t_add lit_96 t120
      first | replace f124 := f124 (by omega) | clear f124
      obtain ⟨z125, t126, f127⟩ := t_add t123 tx2
      first | replace f127 := f127 (by omega) | clear f127
      refine ⟨vp_of t126 (by omega) (by omega), ?_⟩
      obtain ⟨z128, t129⟩ := t_any (w.2.1 341 (((96 : Int32) + ((3 : Int32) * x1)) + x2).toNatClampNeg)
      exact hp _ _ t129 
set_option maxHeartbeats 4000000 in
set_option maxRecDepth 100000 in
theorem sX11_width {T W H P S M : Int} {post : Int32 → Wd → Prop}  {w : Wd}   (hI : IM T W H P S M w)  (hp : ∀ (r : Int32) (zr : Int), Ti r zr → (zr = W) → post r w) : pX11_width   post   w := by
  unfold pX11_width
  have hk := im_k hI
  obtain ⟨z131, t132⟩ := t_any (w.1 300 29)
  have f133 := img_29 hI t132
  refine ⟨vp_of t132 (by omega) (by omega), ?_⟩
  obtain ⟨z134, t135⟩ := t_any (w.2.1 312 (w.1 300 29).toNatClampNeg)
  have f136 := img_312 hI t135
  exact hp _ _ t135 (by omega)
set_option maxHeartbeats 4000000 in
set_option maxRecDepth 100000 in
theorem sX11_isRow {T W H P S M : Int} {post : Int32 → Wd → Prop} {x1 : Int32} {zx1 : Int} {w : Wd}  (tx1 : Ti x1 zx1) (hI : IM T W H P S M w)  (hp : ∀ (r : Int32) (zr : Int), Ti r zr → ((zr = 0 ∨ (0 ≤ zx1 ∧ zx1 < P))) → post r w) : pX11_isRow   post  x1 w := by
  unfold pX11_isRow
  have hk := im_k hI
  refine ⟨fun c137 => ?_, fun c137 => ?_⟩
  · replace c137 := c_lt tx1 lit_0 c137
    exact hp _ _ lit_0 (by omega)
  · replace c137 := c_nlt tx1 lit_0 c137
    refine sX11_width   (hI := hI)   (hp := fun r_2v35 zr_2v35 tr_2v35 p138 => ?_)
    obtain ⟨z139, t140, f141⟩ := t_shlW hI tr_2v35
    first | replace f141 := f141 (by omega) | clear f141
    refine ⟨fun c142 => ?_, fun c142 => ?_⟩
    · replace c142 := c_le t140 tx1 c142
      exact hp _ _ lit_0 (by omega)
    · replace c142 := c_nle t140 tx1 c142
      exact hp _ _ lit_1 (by omega)
set_option maxHeartbeats 4000000 in
set_option maxRecDepth 100000 in
theorem sX11_prints_30 {T W H P S M : Int} {post : Int32 → Wd → Prop} {w : Wd}  (hp : ∀ (r : Int32) (zr : Int), Ti r zr → post r w) : ∀ (n : Nat) (x1 : Int32) (x2 : Int32) (x3 : Int32) (x4 : Int32) (x5 : Int32) (x6 : Int32) (zx1 : Int) (zx2 : Int) (zx3 : Int) (zx4 : Int) (zx5 : Int) (zx6 : Int), Ti x1 zx1 → Ti x2 zx2 → Ti x3 zx3 → Ti x4 zx4 → Ti x5 zx5 → Ti x6 zx6 → IM T W H P S M w → (0 ≤ zx6 ∧ zx6 ≤ 40) → (41 - zx6) < (n : Int) → pX11_prints_30   post  n x1 x2 x3 x4 x5 x6 w := by
  intro n
  induction n with
  | zero =>
    intro x1 x2 x3 x4 x5 x6 zx1 zx2 zx3 zx4 zx5 zx6  tx1 tx2 tx3 tx4 tx5 tx6 hI h0 hm
    exact absurd hm (by omega)
  | succ n ih =>
    intro x1 x2 x3 x4 x5 x6 zx1 zx2 zx3 zx4 zx5 zx6  tx1 tx2 tx3 tx4 tx5 tx6 hI h0 hm
    unfold pX11_prints_30
    have hk := im_k hI
    obtain ⟨z143, t144⟩ := t_any (w.2.1 341 (217 : Int32).toNatClampNeg)
    have f145 := img_217 hI t144
    refine ⟨fun c146 => ?_, fun c146 => ?_⟩
    · replace c146 := c_le t144 tx6 c146
      refine ⟨fun c147 => ?_, fun c147 => ?_⟩
      · replace c147 := c_neq tx2 lit_0 c147
        refine ⟨fun c148 => ?_, fun c148 => ?_⟩
        · replace c148 := c_neq tx2 lit_1 c148
          exact hp _ _ tx5 
        · replace c148 := c_eq tx2 lit_1 c148
          exact hp _ _ tx4 
      · replace c147 := c_eq tx2 lit_0 c147
        exact hp _ _ tx3 
    · replace c146 := c_nle t144 tx6 c146
      obtain ⟨z149, t150, f151⟩ := t_mul lit_3 tx6
      first | replace f151 := f151 (by omega) | clear f151
      obtain ⟨z152, t153, f154⟩ := t_add lit_96 t150
      first | replace f154 := f154 (by omega) | clear f154
      refine ⟨vp_of t153 (by omega) (by omega), ?_⟩
      obtain ⟨z155, t156⟩ := t_any (w.2.1 341 ((96 : Int32) + ((3 : Int32) * x6)).toNatClampNeg)
      refine ⟨fun c158 => ?_, fun c158 => ?_⟩
      · replace c158 := c_eq t156 tx1 c158
        obtain ⟨z159, t160, f161⟩ := t_add tx3 lit_1
        first | replace f161 := f161 (by omega) | clear f161
        intro x3_5v37 ex3_5v37
        have tx3_5v37 : Ti x3_5v37 z159 := by rw [ex3_5v37]; exact t160
        obtain ⟨z162, t163, f164⟩ := t_add t153 lit_2
        first | replace f164 := f164 (by omega) | clear f164
        refine ⟨vp_of t163 (by omega) (by omega), ?_⟩
        obtain ⟨z165, t166⟩ := t_any (w.2.1 341 (((96 : Int32) + ((3 : Int32) * x6)) + (2 : Int32)).toNatClampNeg)
        intro x5_6v38 ex5_6v38
        have tx5_6v38 : Ti x5_6v38 z165 := by rw [ex5_6v38]; exact t166
        refine ⟨fun c168 => ?_, fun c168 => ?_⟩
        · replace c168 := c_le lit_0 tx4 c168
          unfold pX11_prints_90
          obtain ⟨z169, t170, f171⟩ := t_add tx6 lit_1
          first | replace f171 := f171 (by omega) | clear f171
          intro x6_1v39 ex6_1v39
          have tx6_1v39 : Ti x6_1v39 z169 := by rw [ex6_1v39]; exact t170
          exact ih _ _ _ _ _ _ _ _ _ _ _ _  tx1 tx2 tx3_5v37 tx4 tx5_6v38 tx6_1v39 hI (by omega) (by omega)
        · replace c168 := c_nle lit_0 tx4 c168
          unfold pX11_prints_90
          obtain ⟨z172, t173, f174⟩ := t_add tx6 lit_1
          first | replace f174 := f174 (by omega) | clear f174
          intro x6_1v40 ex6_1v40
          have tx6_1v40 : Ti x6_1v40 z172 := by rw [ex6_1v40]; exact t173
          exact ih _ _ _ _ _ _ _ _ _ _ _ _  tx1 tx2 tx3_5v37 tx5_6v38 tx5_6v38 tx6_1v40 hI (by omega) (by omega)
      · replace c158 := c_neq t156 tx1 c158
        unfold pX11_prints_90
        obtain ⟨z175, t176, f177⟩ := t_add tx6 lit_1
        first | replace f177 := f177 (by omega) | clear f177
        intro x6_1v41 ex6_1v41
        have tx6_1v41 : Ti x6_1v41 z175 := by rw [ex6_1v41]; exact t176
        exact ih _ _ _ _ _ _ _ _ _ _ _ _  tx1 tx2 tx3 tx4 tx5 tx6_1v41 hI (by omega) (by omega)
set_option maxHeartbeats 4000000 in
set_option maxRecDepth 100000 in
theorem sX11_prints {T W H P S M : Int} {post : Int32 → Wd → Prop} {x1 : Int32} {zx1 : Int} {x2 : Int32} {zx2 : Int} {w : Wd}  (tx1 : Ti x1 zx1) (tx2 : Ti x2 zx2) (hI : IM T W H P S M w)  (hp : ∀ (r : Int32) (zr : Int), Ti r zr → post r w) : pX11_prints   post  x1 x2 w := by
  unfold pX11_prints
  have hk := im_k hI
  refine sX11_isRow   (hI := hI) (tx1 := tx1)  (hp := fun r_1v42 zr_1v42 tr_1v42 p178 => ?_)
  refine ⟨fun c179 => ?_, fun c179 => ?_⟩
  · replace c179 := c_eq tr_1v42 lit_0 c179
    exact hp _ _ lit_m1 
  · replace c179 := c_neq tr_1v42 lit_0 c179
    refine sX11_isIn   (hI := hI) (tx0 := tx2) (tx1 := lit_0) (tx2 := lit_2)  (hp := fun r_4v46 zr_4v46 tr_4v46 p180 p181 => ?_)
    refine ⟨fun c182 => ?_, fun c182 => ?_⟩
    · replace c182 := c_neq tr_4v46 lit_0 c182
      exact ⟨70000, sX11_prints_30    (hp := hp) 70000 _ _ _ _ _ _ _ _ _ _ _ _  tx1 tx2 lit_0 lit_m1 lit_m1 lit_0 hI (by omega) (by omega)⟩
    · replace c182 := c_eq tr_4v46 lit_0 c182
      exact hp _ _ lit_m1 
set_option maxHeartbeats 4000000 in
set_option maxRecDepth 100000 in
theorem sX11_turnedRow_4 {T W H P S M : Int} {post : Int32 → Wd → Prop} {w : Wd}  (hp : ∀ (r : Int32) (zr : Int), Ti r zr → post r w) : ∀ (n : Nat) (x1 : Int32) (x2 : Int32) (x3 : Int32) (zx1 : Int) (zx2 : Int) (zx3 : Int), Ti x1 zx1 → Ti x2 zx2 → Ti x3 zx3 → IM T W H P S M w → (0 ≤ zx3 ∧ zx3 ≤ 12) → (13 - zx3) < (n : Int) → pX11_turnedRow_4   post  n x1 x2 x3 w := by
  intro n
  induction n with
  | zero =>
    intro x1 x2 x3 zx1 zx2 zx3  tx1 tx2 tx3 hI h0 hm
    exact absurd hm (by omega)
  | succ n ih =>
    intro x1 x2 x3 zx1 zx2 zx3  tx1 tx2 tx3 hI h0 hm
    unfold pX11_turnedRow_4
    have hk := im_k hI
    refine sX11_width   (hI := hI)   (hp := fun r_1v48 zr_1v48 tr_1v48 p183 => ?_)
    refine ⟨fun c184 => ?_, fun c184 => ?_⟩
    · replace c184 := c_le tr_1v48 tx3 c184
      exact hp _ _ tx2 
    · replace c184 := c_nle tr_1v48 tx3 c184
      obtain ⟨z185, t186, f187⟩ := t_and (x := (x1 >>> (x3 &&& 31))) lit_1 (by decide)
      refine ⟨fun c188 => ?_, fun c188 => ?_⟩
      · replace c188 := c_neq t186 lit_1 c188
        unfold pX11_turnedRow_34
        obtain ⟨z189, t190, f191⟩ := t_add tx3 lit_1
        first | replace f191 := f191 (by omega) | clear f191
        intro x3_1v56 ex3_1v56
        have tx3_1v56 : Ti x3_1v56 z189 := by rw [ex3_1v56]; exact t190
        exact ih _ _ _ _ _ _  tx1 tx2 tx3_1v56 hI (by omega) (by omega)
      · replace c188 := c_eq t186 lit_1 c188
        refine sX11_width   (hI := hI)   (hp := fun r_5v53 zr_5v53 tr_5v53 p192 => ?_)
        obtain ⟨z193, t194, f195⟩ := t_sub tr_5v53 lit_1
        first | replace f195 := f195 (by omega) | clear f195
        obtain ⟨z196, t197, f198⟩ := t_sub t194 tx3
        first | replace f198 := f198 (by omega) | clear f198
        obtain ⟨z199, t200, f201⟩ := t_shlW hI t197
        first | replace f201 := f201 (by omega) | clear f201
        obtain ⟨z202, t203, f204⟩ := t_orW hI tx2 t200
        first | replace f204 := f204 (by omega) | clear f204
        intro x2_7v57 ex2_7v57
        have tx2_7v57 : Ti x2_7v57 z202 := by rw [ex2_7v57]; exact t203
        unfold pX11_turnedRow_34
        obtain ⟨z205, t206, f207⟩ := t_add tx3 lit_1
        first | replace f207 := f207 (by omega) | clear f207
        intro x3_1v58 ex3_1v58
        have tx3_1v58 : Ti x3_1v58 z205 := by rw [ex3_1v58]; exact t206
        exact ih _ _ _ _ _ _  tx1 tx2_7v57 tx3_1v58 hI (by omega) (by omega)
set_option maxHeartbeats 4000000 in
set_option maxRecDepth 100000 in
theorem sX11_turnedRow {T W H P S M : Int} {post : Int32 → Wd → Prop} {x1 : Int32} {zx1 : Int} {w : Wd}  (tx1 : Ti x1 zx1) (hI : IM T W H P S M w)  (hp : ∀ (r : Int32) (zr : Int), Ti r zr → post r w) : pX11_turnedRow   post  x1 w := by
  unfold pX11_turnedRow
  have hk := im_k hI
  exact ⟨70000, sX11_turnedRow_4    (hp := hp) 70000 _ _ _ _ _ _  tx1 lit_0 lit_0 hI (by omega) (by omega)⟩
set_option maxHeartbeats 4000000 in
set_option maxRecDepth 100000 in
theorem sX11_turned {T W H P S M : Int} {post : Int32 → Wd → Prop} {x1 : Int32} {zx1 : Int} {w : Wd}  (tx1 : Ti x1 zx1) (hI : IM T W H P S M w)  (hp : ∀ (r : Int32) (zr : Int), Ti r zr → post r w) : pX11_turned   post  x1 w := by
  unfold pX11_turned
  have hk := im_k hI
  refine sX11_isRow   (hI := hI) (tx1 := tx1)  (hp := fun r_1v59 zr_1v59 tr_1v59 p208 => ?_)
  refine ⟨fun c209 => ?_, fun c209 => ?_⟩
  · replace c209 := c_eq tr_1v59 lit_0 c209
    exact hp _ _ lit_m1 
  · replace c209 := c_neq tr_1v59 lit_0 c209
    refine sX11_turnedRow   (hI := hI) (tx1 := tx1)  (hp := fun r_4v63 zr_4v63 tr_4v63 => ?_)
    exact hp _ _ tr_4v63 
set_option maxHeartbeats 4000000 in
set_option maxRecDepth 100000 in
theorem sX11_asked {T W H P S M : Int} {post : Int32 → Wd → Prop} {x1 : Int32} {zx1 : Int} {x2 : Int32} {zx2 : Int} {w : Wd}  (tx1 : Ti x1 zx1) (tx2 : Ti x2 zx2) (hI : IM T W H P S M w)  (hp : ∀ (r : Int32) (zr : Int), Ti r zr → post r w) : pX11_asked   post  x1 x2 w := by
  unfold pX11_asked
  have hk := im_k hI
  refine ⟨fun c210 => ?_, fun c210 => ?_, fun c210 => ?_, fun c210 => ?_, fun c210 => ?_, fun c210 => ?_, fun c210 => ?_, fun c210 => ?_, fun c210 => ?_, fun c210 => ?_, fun c210 => ?_, fun c210 => ?_, fun c210 => ?_, fun c210 => ?_, fun c210 => ?_, fun c210 => ?_, fun c210 => ?_, fun c210 => ?_, fun c210 => ?_, fun c210 => ?_, fun c210 => ?_, fun c210 => ?_, fun c210 => ?_⟩
  · rw [show x1.toInt = zx1 from tx1] at c210
    exact hp _ _ tx2 
  · rw [show x1.toInt = zx1 from tx1] at c210
    obtain ⟨z211, t212⟩ := t_any (w.1 300 39)
    exact hp _ _ t212 
  · rw [show x1.toInt = zx1 from tx1] at c210
    exact hp _ _ tx2 
  · rw [show x1.toInt = zx1 from tx1] at c210
    exact hp _ _ tx2 
  · rw [show x1.toInt = zx1 from tx1] at c210
    exact hp _ _ tx2 
  · rw [show x1.toInt = zx1 from tx1] at c210
    obtain ⟨z213, t214, f215⟩ := t_and (x := ((w.1 300 35) >>> ((w.1 300 36) &&& 31))) lit_1 (by decide)
    exact hp _ _ t214 
  · rw [show x1.toInt = zx1 from tx1] at c210
    exact hp _ _ tx2 
  · rw [show x1.toInt = zx1 from tx1] at c210
    obtain ⟨z216, t217⟩ := t_any (w.2.1 341 (219 : Int32).toNatClampNeg)
    exact hp _ _ t217 
  · rw [show x1.toInt = zx1 from tx1] at c210
    exact hp _ _ tx2 
  · rw [show x1.toInt = zx1 from tx1] at c210
    obtain ⟨z219, t220⟩ := t_any (w.1 300 36)
    refine ⟨fun c221 => ?_, fun c221 => ?_⟩
    · replace c221 := c_le t220 lit_0 c221
      exact hp _ _ lit_0 
    · replace c221 := c_nle t220 lit_0 c221
      obtain ⟨z222, t223, f224⟩ := t_and (x := ((w.1 300 35) >>> (((w.1 300 36) - (1 : Int32)) &&& 31))) lit_1 (by decide)
      exact hp _ _ t223 
  · rw [show x1.toInt = zx1 from tx1] at c210
    obtain ⟨z225, t226⟩ := t_any (w.1 300 36)
    exact hp _ _ t226 
  · rw [show x1.toInt = zx1 from tx1] at c210
    exact hp _ _ tx2 
  · rw [show x1.toInt = zx1 from tx1] at c210
    exact hp _ _ tx2 
  · rw [show x1.toInt = zx1 from tx1] at c210
    exact hp _ _ tx2 
  · rw [show x1.toInt = zx1 from tx1] at c210
    exact hp _ _ tx2 
  · rw [show x1.toInt = zx1 from tx1] at c210
    obtain ⟨z227, t228, f229⟩ := t_and (x := ((w.1 300 35) >>> (((w.1 300 36) + (1 : Int32)) &&& 31))) lit_1 (by decide)
    exact hp _ _ t228 
  · rw [show x1.toInt = zx1 from tx1] at c210
    exact hp _ _ tx2 
  · rw [show x1.toInt = zx1 from tx1] at c210
    obtain ⟨z230, t231⟩ := t_any (w.1 300 38)
    exact hp _ _ t231 
  · rw [show x1.toInt = zx1 from tx1] at c210
    exact hp _ _ tx2 
  · rw [show x1.toInt = zx1 from tx1] at c210
    exact hp _ _ tx2 
  · rw [show x1.toInt = zx1 from tx1] at c210
    exact hp _ _ tx2 
  · rw [show x1.toInt = zx1 from tx1] at c210
    exact hp _ _ tx2 
  · rw [show x1.toInt = zx1 from tx1] at c210
    obtain ⟨z232, t233⟩ := t_any (w.1 300 37)
    exact hp _ _ t233 
set_option maxHeartbeats 4000000 in
set_option maxRecDepth 100000 in
theorem sX11_two {T W H P S M : Int} {post : Int32 → Wd → Prop} {x0 : Int32} {zx0 : Int} {x1 : Int32} {zx1 : Int} {x2 : Int32} {zx2 : Int} {w : Wd}  (tx0 : Ti x0 zx0) (tx1 : Ti x1 zx1) (tx2 : Ti x2 zx2) (hI : IM T W H P S M w)  (hp : ∀ (r : Int32) (zr : Int), Ti r zr → post r w) : pX11_two   post  x0 x1 x2 w := by
  unfold pX11_two
  have hk := im_k hI
  refine ⟨fun c234 => ?_, fun c234 => ?_, fun c234 => ?_, fun c234 => ?_, fun c234 => ?_, fun c234 => ?_, fun c234 => ?_, fun c234 => ?_, fun c234 => ?_, fun c234 => ?_, fun c234 => ?_, fun c234 => ?_, fun c234 => ?_, fun c234 => ?_, fun c234 => ?_, fun c234 => ?_, fun c234 => ?_, fun c234 => ?_, fun c234 => ?_, fun c234 => ?_, fun c234 => ?_, fun c234 => ?_, fun c234 => ?_, fun c234 => ?_, fun c234 => ?_, fun c234 => ?_, fun c234 => ?_⟩
  · rw [show x0.toInt = zx0 from tx0] at c234
    refine ⟨fun c235 => ?_, fun c235 => ?_⟩
    · replace c235 := c_neq tx1 lit_0 c235
      exact hp _ _ lit_1 
    · replace c235 := c_eq tx1 lit_0 c235
      refine ⟨fun c236 => ?_, fun c236 => ?_⟩
      · replace c236 := c_eq tx2 lit_0 c236
        exact hp _ _ lit_0 
      · replace c236 := c_neq tx2 lit_0 c236
        exact hp _ _ lit_1 
  · rw [show x0.toInt = zx0 from tx0] at c234
    refine ⟨fun c237 => ?_, fun c237 => ?_⟩
    · replace c237 := c_neq tx2 lit_0 c237
      refine ⟨nz_of tx2 (by omega), ?_⟩
      obtain ⟨z238, t239, f240⟩ := t_remv tx1 tx2
      first | replace f240 := f240 (by omega) | clear f240
      exact hp _ _ t239 
    · replace c237 := c_eq tx2 lit_0 c237
      exact hp _ _ lit_0 
  · rw [show x0.toInt = zx0 from tx0] at c234
    refine ⟨fun c241 => ?_, fun c241 => ?_⟩
    · replace c241 := c_eq tx1 lit_0 c241
      exact hp _ _ lit_0 
    · replace c241 := c_neq tx1 lit_0 c241
      refine ⟨fun c242 => ?_, fun c242 => ?_⟩
      · replace c242 := c_eq tx2 lit_0 c242
        exact hp _ _ lit_0 
      · replace c242 := c_neq tx2 lit_0 c242
        exact hp _ _ lit_1 
  · rw [show x0.toInt = zx0 from tx0] at c234
    refine ⟨fun c243 => ?_, fun c243 => ?_⟩
    · replace c243 := c_neq tx1 lit_0 c243
      exact hp _ _ lit_1 
    · replace c243 := c_eq tx1 lit_0 c243
      refine ⟨fun c244 => ?_, fun c244 => ?_⟩
      · replace c244 := c_eq tx2 lit_0 c244
        exact hp _ _ lit_0 
      · replace c244 := c_neq tx2 lit_0 c244
        exact hp _ _ lit_1 
  · rw [show x0.toInt = zx0 from tx0] at c234
    refine ⟨fun c245 => ?_, fun c245 => ?_⟩
    · replace c245 := c_neq tx1 lit_0 c245
      exact hp _ _ lit_1 
    · replace c245 := c_eq tx1 lit_0 c245
      refine ⟨fun c246 => ?_, fun c246 => ?_⟩
      · replace c246 := c_eq tx2 lit_0 c246
        exact hp _ _ lit_0 
      · replace c246 := c_neq tx2 lit_0 c246
        exact hp _ _ lit_1 
  · rw [show x0.toInt = zx0 from tx0] at c234
    refine ⟨fun c247 => ?_, fun c247 => ?_⟩
    · replace c247 := c_neq tx1 lit_0 c247
      exact hp _ _ lit_1 
    · replace c247 := c_eq tx1 lit_0 c247
      refine ⟨fun c248 => ?_, fun c248 => ?_⟩
      · replace c248 := c_eq tx2 lit_0 c248
        exact hp _ _ lit_0 
      · replace c248 := c_neq tx2 lit_0 c248
        exact hp _ _ lit_1 
  · rw [show x0.toInt = zx0 from tx0] at c234
    obtain ⟨z249, t250, f251⟩ := t_mulv tx1 tx2
    first | replace f251 := f251 (by omega) | clear f251
    exact hp _ _ t250 
  · rw [show x0.toInt = zx0 from tx0] at c234
    obtain ⟨z252, t253, f254⟩ := t_add tx1 tx2
    first | replace f254 := f254 (by omega) | clear f254
    exact hp _ _ t253 
  · rw [show x0.toInt = zx0 from tx0] at c234
    refine ⟨fun c255 => ?_, fun c255 => ?_⟩
    · replace c255 := c_neq tx1 lit_0 c255
      exact hp _ _ lit_1 
    · replace c255 := c_eq tx1 lit_0 c255
      refine ⟨fun c256 => ?_, fun c256 => ?_⟩
      · replace c256 := c_eq tx2 lit_0 c256
        exact hp _ _ lit_0 
      · replace c256 := c_neq tx2 lit_0 c256
        exact hp _ _ lit_1 
  · rw [show x0.toInt = zx0 from tx0] at c234
    obtain ⟨z257, t258, f259⟩ := t_sub tx1 tx2
    first | replace f259 := f259 (by omega) | clear f259
    exact hp _ _ t258 
  · rw [show x0.toInt = zx0 from tx0] at c234
    refine ⟨fun c260 => ?_, fun c260 => ?_⟩
    · replace c260 := c_neq tx1 lit_0 c260
      exact hp _ _ lit_1 
    · replace c260 := c_eq tx1 lit_0 c260
      refine ⟨fun c261 => ?_, fun c261 => ?_⟩
      · replace c261 := c_eq tx2 lit_0 c261
        exact hp _ _ lit_0 
      · replace c261 := c_neq tx2 lit_0 c261
        exact hp _ _ lit_1 
  · rw [show x0.toInt = zx0 from tx0] at c234
    refine ⟨fun c262 => ?_, fun c262 => ?_⟩
    · replace c262 := c_neq tx2 lit_0 c262
      refine ⟨nz_of tx2 (by omega), ?_⟩
      obtain ⟨z263, t264, f265⟩ := t_divv tx1 tx2
      first | replace f265 := f265 (by omega) | clear f265
      exact hp _ _ t264 
    · replace c262 := c_eq tx2 lit_0 c262
      exact hp _ _ lit_0 
  · rw [show x0.toInt = zx0 from tx0] at c234
    refine ⟨fun c266 => ?_, fun c266 => ?_⟩
    · replace c266 := c_neq tx1 lit_0 c266
      exact hp _ _ lit_1 
    · replace c266 := c_eq tx1 lit_0 c266
      refine ⟨fun c267 => ?_, fun c267 => ?_⟩
      · replace c267 := c_eq tx2 lit_0 c267
        exact hp _ _ lit_0 
      · replace c267 := c_neq tx2 lit_0 c267
        exact hp _ _ lit_1 
  · rw [show x0.toInt = zx0 from tx0] at c234
    refine ⟨fun c268 => ?_, fun c268 => ?_⟩
    · replace c268 := c_neq tx1 lit_0 c268
      exact hp _ _ lit_1 
    · replace c268 := c_eq tx1 lit_0 c268
      refine ⟨fun c269 => ?_, fun c269 => ?_⟩
      · replace c269 := c_eq tx2 lit_0 c269
        exact hp _ _ lit_0 
      · replace c269 := c_neq tx2 lit_0 c269
        exact hp _ _ lit_1 
  · rw [show x0.toInt = zx0 from tx0] at c234
    refine ⟨fun c270 => ?_, fun c270 => ?_⟩
    · replace c270 := c_neq tx1 lit_0 c270
      exact hp _ _ lit_1 
    · replace c270 := c_eq tx1 lit_0 c270
      refine ⟨fun c271 => ?_, fun c271 => ?_⟩
      · replace c271 := c_eq tx2 lit_0 c271
        exact hp _ _ lit_0 
      · replace c271 := c_neq tx2 lit_0 c271
        exact hp _ _ lit_1 
  · rw [show x0.toInt = zx0 from tx0] at c234
    refine ⟨fun c272 => ?_, fun c272 => ?_⟩
    · replace c272 := c_neq tx1 lit_0 c272
      exact hp _ _ lit_1 
    · replace c272 := c_eq tx1 lit_0 c272
      refine ⟨fun c273 => ?_, fun c273 => ?_⟩
      · replace c273 := c_eq tx2 lit_0 c273
        exact hp _ _ lit_0 
      · replace c273 := c_neq tx2 lit_0 c273
        exact hp _ _ lit_1 
  · rw [show x0.toInt = zx0 from tx0] at c234
    refine ⟨fun c274 => ?_, fun c274 => ?_⟩
    · replace c274 := c_neq tx1 lit_0 c274
      exact hp _ _ lit_1 
    · replace c274 := c_eq tx1 lit_0 c274
      refine ⟨fun c275 => ?_, fun c275 => ?_⟩
      · replace c275 := c_eq tx2 lit_0 c275
        exact hp _ _ lit_0 
      · replace c275 := c_neq tx2 lit_0 c275
        exact hp _ _ lit_1 
  · rw [show x0.toInt = zx0 from tx0] at c234
    refine ⟨fun c276 => ?_, fun c276 => ?_⟩
    · replace c276 := c_neq tx1 lit_0 c276
      exact hp _ _ lit_1 
    · replace c276 := c_eq tx1 lit_0 c276
      refine ⟨fun c277 => ?_, fun c277 => ?_⟩
      · replace c277 := c_eq tx2 lit_0 c277
        exact hp _ _ lit_0 
      · replace c277 := c_neq tx2 lit_0 c277
        exact hp _ _ lit_1 
  · rw [show x0.toInt = zx0 from tx0] at c234
    refine ⟨fun c278 => ?_, fun c278 => ?_⟩
    · replace c278 := c_neq tx1 lit_0 c278
      exact hp _ _ lit_1 
    · replace c278 := c_eq tx1 lit_0 c278
      refine ⟨fun c279 => ?_, fun c279 => ?_⟩
      · replace c279 := c_eq tx2 lit_0 c279
        exact hp _ _ lit_0 
      · replace c279 := c_neq tx2 lit_0 c279
        exact hp _ _ lit_1 
  · rw [show x0.toInt = zx0 from tx0] at c234
    refine ⟨fun c280 => ?_, fun c280 => ?_⟩
    · replace c280 := c_neq tx1 lit_0 c280
      exact hp _ _ lit_1 
    · replace c280 := c_eq tx1 lit_0 c280
      refine ⟨fun c281 => ?_, fun c281 => ?_⟩
      · replace c281 := c_eq tx2 lit_0 c281
        exact hp _ _ lit_0 
      · replace c281 := c_neq tx2 lit_0 c281
        exact hp _ _ lit_1 
  · rw [show x0.toInt = zx0 from tx0] at c234
    refine ⟨fun c282 => ?_, fun c282 => ?_⟩
    · replace c282 := c_neq tx1 lit_0 c282
      exact hp _ _ lit_1 
    · replace c282 := c_eq tx1 lit_0 c282
      refine ⟨fun c283 => ?_, fun c283 => ?_⟩
      · replace c283 := c_eq tx2 lit_0 c283
        exact hp _ _ lit_0 
      · replace c283 := c_neq tx2 lit_0 c283
        exact hp _ _ lit_1 
  · rw [show x0.toInt = zx0 from tx0] at c234
    refine ⟨fun c284 => ?_, fun c284 => ?_⟩
    · replace c284 := c_neq tx1 lit_0 c284
      exact hp _ _ lit_1 
    · replace c284 := c_eq tx1 lit_0 c284
      refine ⟨fun c285 => ?_, fun c285 => ?_⟩
      · replace c285 := c_eq tx2 lit_0 c285
        exact hp _ _ lit_0 
      · replace c285 := c_neq tx2 lit_0 c285
        exact hp _ _ lit_1 
  · rw [show x0.toInt = zx0 from tx0] at c234
    refine ⟨fun c286 => ?_, fun c286 => ?_⟩
    · replace c286 := c_neq tx1 lit_0 c286
      exact hp _ _ lit_1 
    · replace c286 := c_eq tx1 lit_0 c286
      refine ⟨fun c287 => ?_, fun c287 => ?_⟩
      · replace c287 := c_eq tx2 lit_0 c287
        exact hp _ _ lit_0 
      · replace c287 := c_neq tx2 lit_0 c287
        exact hp _ _ lit_1 
  · rw [show x0.toInt = zx0 from tx0] at c234
    refine ⟨fun c288 => ?_, fun c288 => ?_⟩
    · replace c288 := c_neq tx1 lit_0 c288
      exact hp _ _ lit_1 
    · replace c288 := c_eq tx1 lit_0 c288
      refine ⟨fun c289 => ?_, fun c289 => ?_⟩
      · replace c289 := c_eq tx2 lit_0 c289
        exact hp _ _ lit_0 
      · replace c289 := c_neq tx2 lit_0 c289
        exact hp _ _ lit_1 
  · rw [show x0.toInt = zx0 from tx0] at c234
    refine ⟨fun c290 => ?_, fun c290 => ?_⟩
    · replace c290 := c_le tx2 tx1 c290
      exact hp _ _ lit_0 
    · replace c290 := c_nle tx2 tx1 c290
      exact hp _ _ lit_1 
  · rw [show x0.toInt = zx0 from tx0] at c234
    refine ⟨fun c291 => ?_, fun c291 => ?_⟩
    · replace c291 := c_neq tx1 tx2 c291
      exact hp _ _ lit_0 
    · replace c291 := c_eq tx1 tx2 c291
      exact hp _ _ lit_1 
  · rw [show x0.toInt = zx0 from tx0] at c234
    refine ⟨fun c292 => ?_, fun c292 => ?_⟩
    · replace c292 := c_le tx1 tx2 c292
      exact hp _ _ lit_0 
    · replace c292 := c_nle tx1 tx2 c292
      exact hp _ _ lit_1 
theorem jX11_comes {T W H P S M : Int} {J : Wd → Prop} {post : Int32 → Wd → Prop} {x1 : Int32} {zx1 : Int} {w : Wd} (tx1 : Ti x1 zx1) (hI : IJ T W H P S M J w) (h0 : 0 ≤ zx1 ∧ zx1 < 2 * H) (hp : ∀ (r : Int32) (zr : Int) (w9 : Wd), Ti r zr → IJ T W H P S M J w9 → post r w9) : pX11_comes post x1 w := by
  sorry
set_option maxHeartbeats 4000000 in
set_option maxRecDepth 100000 in
theorem jX11_castOf_37 {T W H P S M : Int} {J : Wd → Prop} {post : Int32 → Wd → Prop}   (hp : ∀ (r : Int32) (zr : Int) (w9 : Wd), Ti r zr → IJ T W H P S M J w9 → (0 ≤ zr ∧ zr ≤ P - 1) → post r w9) : ∀ (n : Nat) (x2 : Int32) (x5 : Int32) (x6 : Int32) (zx2 : Int) (zx5 : Int) (zx6 : Int) (w : Wd), Ti x2 zx2 → Ti x5 zx5 → Ti x6 zx6 → IJ T W H P S M J w → (0 ≤ zx6 ∧ zx6 ≤ W) → (0 ≤ zx5 ∧ zx5 < P) → (0 ≤ zx2 ∧ zx2 < H) → (W + 1 - zx6) < (n : Int) → pX11_castOf_37   post  n x2 x5 x6 w := by
  intro n
  induction n with
  | zero =>
    intro x2 x5 x6 zx2 zx5 zx6 w tx2 tx5 tx6 hI h0 h1 h2 hm
    exact absurd hm (by omega)
  | succ n ih =>
    intro x2 x5 x6 zx2 zx5 zx6 w tx2 tx5 tx6 hI h0 h1 h2 hm
    unfold pX11_castOf_37
    have hk := im_k hI.1
    refine sX11_width   (hI := hI.1)   (hp := fun r_1v65 zr_1v65 tr_1v65 p293 => ?_)
    refine ⟨fun c294 => ?_, fun c294 => ?_⟩
    · replace c294 := c_le tr_1v65 tx6 c294
      exact hp _ _ _  tx5 hI (by omega)
    · replace c294 := c_nle tr_1v65 tx6 c294
      intro w_4v68 ew_4v68
      have hIw_4v68 := ijs_n hI ew_4v68 (by decide) (by decide)
      obtain ⟨z295, t296, f297⟩ := t_and (x := ((w_4v68.1 300 35) >>> (x6 &&& 31))) lit_1 (by decide)
      refine ⟨fun c298 => ?_, fun c298 => ?_⟩
      · replace c298 := c_neq t296 lit_1 c298
        unfold pX11_castOf_70
        refine ⟨fun c299 => ?_, fun c299 => ?_⟩
        · replace c299 := c_eq lit_0 lit_0 c299
          obtain ⟨z300, t301, f302⟩ := t_mul lit_2 tx2
          first | replace f302 := f302 (by omega) | clear f302
          obtain ⟨z303, t304, f305⟩ := t_add t301 lit_1
          first | replace f305 := f305 (by omega) | clear f305
          refine jX11_comes   (hI := hIw_4v68) (tx1 := t304) (h0 := (by omega)) (hp := fun r_2v69 zr_2v69 w_3v70  tr_2v69 hIw_3v70  => ?_)
          refine ⟨fun c306 => ?_, fun c306 => ?_⟩
          · replace c306 := c_eq tr_2v69 lit_0 c306
            unfold pX11_castOf_112
            refine ⟨fun c307 => ?_, fun c307 => ?_⟩
            · replace c307 := c_eq lit_0 lit_0 c307
              unfold pX11_castOf_128
              obtain ⟨z308, t309, f310⟩ := t_add tx6 lit_1
              first | replace f310 := f310 (by omega) | clear f310
              intro x6_1v74 ex6_1v74
              have tx6_1v74 : Ti x6_1v74 z308 := by rw [ex6_1v74]; exact t309
              exact ih _ _ _ _ _ _ _ tx2 tx5 tx6_1v74 hIw_3v70 (by omega) (by omega) (by omega) (by omega)
            · replace c307 := c_neq lit_0 lit_0 c307
              obtain ⟨z311, t312, f313⟩ := t_shlW hIw_3v70.1 tx6
              first | replace f313 := f313 (by omega) | clear f313
              obtain ⟨z314, t315, f316⟩ := t_orW hIw_3v70.1 tx5 t312
              first | replace f316 := f316 (by omega) | clear f316
              intro x5_2v73 ex5_2v73
              have tx5_2v73 : Ti x5_2v73 z314 := by rw [ex5_2v73]; exact t315
              unfold pX11_castOf_128
              obtain ⟨z317, t318, f319⟩ := t_add tx6 lit_1
              first | replace f319 := f319 (by omega) | clear f319
              intro x6_1v75 ex6_1v75
              have tx6_1v75 : Ti x6_1v75 z317 := by rw [ex6_1v75]; exact t318
              exact ih _ _ _ _ _ _ _ tx2 tx5_2v73 tx6_1v75 hIw_3v70 (by omega) (by omega) (by omega) (by omega)
          · replace c306 := c_neq tr_2v69 lit_0 c306
            unfold pX11_castOf_112
            refine ⟨fun c320 => ?_, fun c320 => ?_⟩
            · replace c320 := c_eq lit_1 lit_0 c320
              unfold pX11_castOf_128
              obtain ⟨z321, t322, f323⟩ := t_add tx6 lit_1
              first | replace f323 := f323 (by omega) | clear f323
              intro x6_1v77 ex6_1v77
              have tx6_1v77 : Ti x6_1v77 z321 := by rw [ex6_1v77]; exact t322
              exact ih _ _ _ _ _ _ _ tx2 tx5 tx6_1v77 hIw_3v70 (by omega) (by omega) (by omega) (by omega)
            · replace c320 := c_neq lit_1 lit_0 c320
              obtain ⟨z324, t325, f326⟩ := t_shlW hIw_3v70.1 tx6
              first | replace f326 := f326 (by omega) | clear f326
              obtain ⟨z327, t328, f329⟩ := t_orW hIw_3v70.1 tx5 t325
              first | replace f329 := f329 (by omega) | clear f329
              intro x5_2v76 ex5_2v76
              have tx5_2v76 : Ti x5_2v76 z327 := by rw [ex5_2v76]; exact t328
              unfold pX11_castOf_128
              obtain ⟨z330, t331, f332⟩ := t_add tx6 lit_1
              first | replace f332 := f332 (by omega) | clear f332
              intro x6_1v78 ex6_1v78
              have tx6_1v78 : Ti x6_1v78 z330 := by rw [ex6_1v78]; exact t331
              exact ih _ _ _ _ _ _ _ tx2 tx5_2v76 tx6_1v78 hIw_3v70 (by omega) (by omega) (by omega) (by omega)
        · replace c299 := c_neq lit_0 lit_0 c299
          obtain ⟨z333, t334, f335⟩ := t_mul lit_2 tx2
          first | replace f335 := f335 (by omega) | clear f335
          refine jX11_comes   (hI := hIw_4v68) (tx1 := t334) (h0 := (by omega)) (hp := fun r_5v71 zr_5v71 w_6v72  tr_5v71 hIw_6v72  => ?_)
          refine ⟨fun c336 => ?_, fun c336 => ?_⟩
          · replace c336 := c_neq tr_5v71 lit_0 c336
            unfold pX11_castOf_112
            refine ⟨fun c337 => ?_, fun c337 => ?_⟩
            · replace c337 := c_eq lit_0 lit_0 c337
              unfold pX11_castOf_128
              obtain ⟨z338, t339, f340⟩ := t_add tx6 lit_1
              first | replace f340 := f340 (by omega) | clear f340
              intro x6_1v80 ex6_1v80
              have tx6_1v80 : Ti x6_1v80 z338 := by rw [ex6_1v80]; exact t339
              exact ih _ _ _ _ _ _ _ tx2 tx5 tx6_1v80 hIw_6v72 (by omega) (by omega) (by omega) (by omega)
            · replace c337 := c_neq lit_0 lit_0 c337
              obtain ⟨z341, t342, f343⟩ := t_shlW hIw_6v72.1 tx6
              first | replace f343 := f343 (by omega) | clear f343
              obtain ⟨z344, t345, f346⟩ := t_orW hIw_6v72.1 tx5 t342
              first | replace f346 := f346 (by omega) | clear f346
              intro x5_2v79 ex5_2v79
              have tx5_2v79 : Ti x5_2v79 z344 := by rw [ex5_2v79]; exact t345
              unfold pX11_castOf_128
              obtain ⟨z347, t348, f349⟩ := t_add tx6 lit_1
              first | replace f349 := f349 (by omega) | clear f349
              intro x6_1v81 ex6_1v81
              have tx6_1v81 : Ti x6_1v81 z347 := by rw [ex6_1v81]; exact t348
              exact ih _ _ _ _ _ _ _ tx2 tx5_2v79 tx6_1v81 hIw_6v72 (by omega) (by omega) (by omega) (by omega)
          · replace c336 := c_eq tr_5v71 lit_0 c336
            unfold pX11_castOf_112
            refine ⟨fun c350 => ?_, fun c350 => ?_⟩
            · replace c350 := c_eq lit_1 lit_0 c350
              unfold pX11_castOf_128
              obtain ⟨z351, t352, f353⟩ := t_add tx6 lit_1
              first | replace f353 := f353 (by omega) | clear f353
              intro x6_1v83 ex6_1v83
              have tx6_1v83 : Ti x6_1v83 z351 := by rw [ex6_1v83]; exact t352
              exact ih _ _ _ _ _ _ _ tx2 tx5 tx6_1v83 hIw_6v72 (by omega) (by omega) (by omega) (by omega)
            · replace c350 := c_neq lit_1 lit_0 c350
              obtain ⟨z354, t355, f356⟩ := t_shlW hIw_6v72.1 tx6
              first | replace f356 := f356 (by omega) | clear f356
              obtain ⟨z357, t358, f359⟩ := t_orW hIw_6v72.1 tx5 t355
              first | replace f359 := f359 (by omega) | clear f359
              intro x5_2v82 ex5_2v82
              have tx5_2v82 : Ti x5_2v82 z357 := by rw [ex5_2v82]; exact t358
              unfold pX11_castOf_128
              obtain ⟨z360, t361, f362⟩ := t_add tx6 lit_1
              first | replace f362 := f362 (by omega) | clear f362
              intro x6_1v84 ex6_1v84
              have tx6_1v84 : Ti x6_1v84 z360 := by rw [ex6_1v84]; exact t361
              exact ih _ _ _ _ _ _ _ tx2 tx5_2v82 tx6_1v84 hIw_6v72 (by omega) (by omega) (by omega) (by omega)
      · replace c298 := c_eq t296 lit_1 c298
        unfold pX11_castOf_70
        refine ⟨fun c363 => ?_, fun c363 => ?_⟩
        · replace c363 := c_eq lit_1 lit_0 c363
          obtain ⟨z364, t365, f366⟩ := t_mul lit_2 tx2
          first | replace f366 := f366 (by omega) | clear f366
          obtain ⟨z367, t368, f369⟩ := t_add t365 lit_1
          first | replace f369 := f369 (by omega) | clear f369
          refine jX11_comes   (hI := hIw_4v68) (tx1 := t368) (h0 := (by omega)) (hp := fun r_2v85 zr_2v85 w_3v86  tr_2v85 hIw_3v86  => ?_)
          refine ⟨fun c370 => ?_, fun c370 => ?_⟩
          · replace c370 := c_eq tr_2v85 lit_0 c370
            unfold pX11_castOf_112
            refine ⟨fun c371 => ?_, fun c371 => ?_⟩
            · replace c371 := c_eq lit_0 lit_0 c371
              unfold pX11_castOf_128
              obtain ⟨z372, t373, f374⟩ := t_add tx6 lit_1
              first | replace f374 := f374 (by omega) | clear f374
              intro x6_1v90 ex6_1v90
              have tx6_1v90 : Ti x6_1v90 z372 := by rw [ex6_1v90]; exact t373
              exact ih _ _ _ _ _ _ _ tx2 tx5 tx6_1v90 hIw_3v86 (by omega) (by omega) (by omega) (by omega)
            · replace c371 := c_neq lit_0 lit_0 c371
              obtain ⟨z375, t376, f377⟩ := t_shlW hIw_3v86.1 tx6
              first | replace f377 := f377 (by omega) | clear f377
              obtain ⟨z378, t379, f380⟩ := t_orW hIw_3v86.1 tx5 t376
              first | replace f380 := f380 (by omega) | clear f380
              intro x5_2v89 ex5_2v89
              have tx5_2v89 : Ti x5_2v89 z378 := by rw [ex5_2v89]; exact t379
              unfold pX11_castOf_128
              obtain ⟨z381, t382, f383⟩ := t_add tx6 lit_1
              first | replace f383 := f383 (by omega) | clear f383
              intro x6_1v91 ex6_1v91
              have tx6_1v91 : Ti x6_1v91 z381 := by rw [ex6_1v91]; exact t382
              exact ih _ _ _ _ _ _ _ tx2 tx5_2v89 tx6_1v91 hIw_3v86 (by omega) (by omega) (by omega) (by omega)
          · replace c370 := c_neq tr_2v85 lit_0 c370
            unfold pX11_castOf_112
            refine ⟨fun c384 => ?_, fun c384 => ?_⟩
            · replace c384 := c_eq lit_1 lit_0 c384
              unfold pX11_castOf_128
              obtain ⟨z385, t386, f387⟩ := t_add tx6 lit_1
              first | replace f387 := f387 (by omega) | clear f387
              intro x6_1v93 ex6_1v93
              have tx6_1v93 : Ti x6_1v93 z385 := by rw [ex6_1v93]; exact t386
              exact ih _ _ _ _ _ _ _ tx2 tx5 tx6_1v93 hIw_3v86 (by omega) (by omega) (by omega) (by omega)
            · replace c384 := c_neq lit_1 lit_0 c384
              obtain ⟨z388, t389, f390⟩ := t_shlW hIw_3v86.1 tx6
              first | replace f390 := f390 (by omega) | clear f390
              obtain ⟨z391, t392, f393⟩ := t_orW hIw_3v86.1 tx5 t389
              first | replace f393 := f393 (by omega) | clear f393
              intro x5_2v92 ex5_2v92
              have tx5_2v92 : Ti x5_2v92 z391 := by rw [ex5_2v92]; exact t392
              unfold pX11_castOf_128
              obtain ⟨z394, t395, f396⟩ := t_add tx6 lit_1
              first | replace f396 := f396 (by omega) | clear f396
              intro x6_1v94 ex6_1v94
              have tx6_1v94 : Ti x6_1v94 z394 := by rw [ex6_1v94]; exact t395
              exact ih _ _ _ _ _ _ _ tx2 tx5_2v92 tx6_1v94 hIw_3v86 (by omega) (by omega) (by omega) (by omega)
        · replace c363 := c_neq lit_1 lit_0 c363
          obtain ⟨z397, t398, f399⟩ := t_mul lit_2 tx2
          first | replace f399 := f399 (by omega) | clear f399
          refine jX11_comes   (hI := hIw_4v68) (tx1 := t398) (h0 := (by omega)) (hp := fun r_5v87 zr_5v87 w_6v88  tr_5v87 hIw_6v88  => ?_)
          refine ⟨fun c400 => ?_, fun c400 => ?_⟩
          · replace c400 := c_neq tr_5v87 lit_0 c400
            unfold pX11_castOf_112
            refine ⟨fun c401 => ?_, fun c401 => ?_⟩
            · replace c401 := c_eq lit_0 lit_0 c401
              unfold pX11_castOf_128
              obtain ⟨z402, t403, f404⟩ := t_add tx6 lit_1
              first | replace f404 := f404 (by omega) | clear f404
              intro x6_1v96 ex6_1v96
              have tx6_1v96 : Ti x6_1v96 z402 := by rw [ex6_1v96]; exact t403
              exact ih _ _ _ _ _ _ _ tx2 tx5 tx6_1v96 hIw_6v88 (by omega) (by omega) (by omega) (by omega)
            · replace c401 := c_neq lit_0 lit_0 c401
              obtain ⟨z405, t406, f407⟩ := t_shlW hIw_6v88.1 tx6
              first | replace f407 := f407 (by omega) | clear f407
              obtain ⟨z408, t409, f410⟩ := t_orW hIw_6v88.1 tx5 t406
              first | replace f410 := f410 (by omega) | clear f410
              intro x5_2v95 ex5_2v95
              have tx5_2v95 : Ti x5_2v95 z408 := by rw [ex5_2v95]; exact t409
              unfold pX11_castOf_128
              obtain ⟨z411, t412, f413⟩ := t_add tx6 lit_1
              first | replace f413 := f413 (by omega) | clear f413
              intro x6_1v97 ex6_1v97
              have tx6_1v97 : Ti x6_1v97 z411 := by rw [ex6_1v97]; exact t412
              exact ih _ _ _ _ _ _ _ tx2 tx5_2v95 tx6_1v97 hIw_6v88 (by omega) (by omega) (by omega) (by omega)
          · replace c400 := c_eq tr_5v87 lit_0 c400
            unfold pX11_castOf_112
            refine ⟨fun c414 => ?_, fun c414 => ?_⟩
            · replace c414 := c_eq lit_1 lit_0 c414
              unfold pX11_castOf_128
              obtain ⟨z415, t416, f417⟩ := t_add tx6 lit_1
              first | replace f417 := f417 (by omega) | clear f417
              intro x6_1v99 ex6_1v99
              have tx6_1v99 : Ti x6_1v99 z415 := by rw [ex6_1v99]; exact t416
              exact ih _ _ _ _ _ _ _ tx2 tx5 tx6_1v99 hIw_6v88 (by omega) (by omega) (by omega) (by omega)
            · replace c414 := c_neq lit_1 lit_0 c414
              obtain ⟨z418, t419, f420⟩ := t_shlW hIw_6v88.1 tx6
              first | replace f420 := f420 (by omega) | clear f420
              obtain ⟨z421, t422, f423⟩ := t_orW hIw_6v88.1 tx5 t419
              first | replace f423 := f423 (by omega) | clear f423
              intro x5_2v98 ex5_2v98
              have tx5_2v98 : Ti x5_2v98 z421 := by rw [ex5_2v98]; exact t422
              unfold pX11_castOf_128
              obtain ⟨z424, t425, f426⟩ := t_add tx6 lit_1
              first | replace f426 := f426 (by omega) | clear f426
              intro x6_1v100 ex6_1v100
              have tx6_1v100 : Ti x6_1v100 z424 := by rw [ex6_1v100]; exact t425
              exact ih _ _ _ _ _ _ _ tx2 tx5_2v98 tx6_1v100 hIw_6v88 (by omega) (by omega) (by omega) (by omega)
set_option maxHeartbeats 4000000 in
set_option maxRecDepth 100000 in
theorem jX11_castOf {T W H P S M : Int} {J : Wd → Prop} {post : Int32 → Wd → Prop} {x1 : Int32} {zx1 : Int} {x2 : Int32} {zx2 : Int} {x3 : Int32} {zx3 : Int} {x4 : Int32} {zx4 : Int} {w : Wd}  (tx1 : Ti x1 zx1) (tx2 : Ti x2 zx2) (tx3 : Ti x3 zx3) (tx4 : Ti x4 zx4) (hI : IJ T W H P S M J w) (h0 : 0 ≤ zx2 ∧ zx2 < H) (hp : ∀ (r : Int32) (zr : Int) (w9 : Wd), Ti r zr → IJ T W H P S M J w9 → (0 ≤ zr ∧ zr ≤ P - 1) → post r w9) : pX11_castOf   post  x1 x2 x3 x4 w := by
  unfold pX11_castOf
  have hk := im_k hI.1
  refine sX11_turnedRow   (hI := hI.1) (tx1 := tx1)  (hp := fun r_1v101 zr_1v101 tr_1v101 => ?_)
  intro w_3v109 ew_3v109
  have hIw_3v109 := ijs_n hI ew_3v109 (by decide) (by decide)
  have t427 : Ti (w_3v109.1 300 35) zr_1v101 := by rw [ew_3v109, sI_at]; exact tr_1v101
  refine sX11_bitsOf   (hI := hIw_3v109.1) (tx0 := t427)  (hp := fun r_4v110 zr_4v110 tr_4v110 => ?_)
  intro w_6v115 ew_6v115
  have hIw_6v115 := ijs_n hIw_3v109 ew_6v115 (by decide) (by decide)
  intro w_7v116 ew_7v116
  have hIw_7v116 := ijs_n hIw_6v115 ew_7v116 (by decide) (by decide)
  intro w_8v117 ew_8v117
  have hIw_8v117 := ijs_n hIw_7v116 ew_8v117 (by decide) (by decide)
  exact ⟨70000, jX11_castOf_37    (hp := hp) 70000 _ _ _ _ _ _ _ tx2 lit_0 lit_0 hIw_8v117 (by omega) (by omega) (by omega) (by omega)⟩
theorem sX11_castOf {T W H P S M : Int} {post : Int32 → Wd → Prop} {x1 : Int32} {zx1 : Int} {x2 : Int32} {zx2 : Int} {x3 : Int32} {zx3 : Int} {x4 : Int32} {zx4 : Int} {w : Wd} (tx1 : Ti x1 zx1) (tx2 : Ti x2 zx2) (tx3 : Ti x3 zx3) (tx4 : Ti x4 zx4) (hI : IM T W H P S M w) (h0 : 0 ≤ zx2 ∧ zx2 < H) (hp : ∀ (r : Int32) (zr : Int) (w9 : Wd), Ti r zr → IM T W H P S M w9 → (0 ≤ zr ∧ zr ≤ P - 1) → post r w9) : pX11_castOf post x1 x2 x3 x4 w :=
  jX11_castOf (J := fun _ => True) tx1 tx2 tx3 tx4 ⟨hI, trivial, stJ_true⟩ h0 (fun r zr w9 t i h => hp r zr w9 t i.1 h)
set_option maxHeartbeats 4000000 in
set_option maxRecDepth 100000 in
theorem sX11_isHand {T W H P S M : Int} {post : Int32 → Wd → Prop} {x1 : Int32} {zx1 : Int} {w : Wd}  (tx1 : Ti x1 zx1) (hI : IM T W H P S M w)  (hp : ∀ (r : Int32) (zr : Int), Ti r zr → ((zr = 0 ∨ (0 ≤ zx1 ∧ zx1 < H))) → post r w) : pX11_isHand   post  x1 w := by
  unfold pX11_isHand
  have hk := im_k hI
  obtain ⟨z428, t429⟩ := t_any (w.1 300 29)
  have f430 := img_29 hI t429
  refine ⟨vp_of t429 (by omega) (by omega), ?_⟩
  obtain ⟨z431, t432⟩ := t_any (w.2.1 314 (w.1 300 29).toNatClampNeg)
  have f433 := img_314 hI t432
  obtain ⟨z434, t435, f436⟩ := t_sub t432 lit_1
  first | replace f436 := f436 (by omega) | clear f436
  refine sX11_isIn   (hI := hI) (tx0 := tx1) (tx1 := lit_0) (tx2 := t435)  (hp := fun r_1v118 zr_1v118 tr_1v118 p437 p438 => ?_)
  refine ⟨nar_ok tr_1v118 (by omega), ?_⟩
  exact hp _ _ tr_1v118 (by omega)
set_option maxHeartbeats 4000000 in
set_option maxRecDepth 100000 in
theorem sX11_isHeat {T W H P S M : Int} {post : Int32 → Wd → Prop} {x0 : Int32} {zx0 : Int} {w : Wd}  (tx0 : Ti x0 zx0) (hI : IM T W H P S M w)  (hp : ∀ (r : Int32) (zr : Int), Ti r zr → ((zr = 0 ∨ (0 ≤ zx0 ∧ zx0 ≤ 9))) → post r w) : pX11_isHeat   post  x0 w := by
  unfold pX11_isHeat
  have hk := im_k hI
  refine sX11_isIn   (hI := hI) (tx0 := tx0) (tx1 := lit_0) (tx2 := lit_9)  (hp := fun r_1v120 zr_1v120 tr_1v120 p439 p440 => ?_)
  refine ⟨nar_ok tr_1v120 (by omega), ?_⟩
  exact hp _ _ tr_1v120 (by omega)
set_option maxHeartbeats 4000000 in
set_option maxRecDepth 100000 in
theorem sX11_would {T W H P S M : Int} {post : Int32 → Wd → Prop} {x1 : Int32} {zx1 : Int} {x2 : Int32} {zx2 : Int} {x3 : Int32} {zx3 : Int} {x4 : Int32} {zx4 : Int} {w : Wd}  (tx1 : Ti x1 zx1) (tx2 : Ti x2 zx2) (tx3 : Ti x3 zx3) (tx4 : Ti x4 zx4) (hI : IM T W H P S M w)  (hp : ∀ (r : Int32) (zr : Int) (w9 : Wd), Ti r zr → IM T W H P S M w9 → post r w9) : pX11_would   post  x1 x2 x3 x4 w := by
  unfold pX11_would
  have hk := im_k hI
  refine sX11_isRow   (hI := hI) (tx1 := tx1)  (hp := fun r_1v122 zr_1v122 tr_1v122 p441 => ?_)
  refine ⟨fun c442 => ?_, fun c442 => ?_⟩
  · replace c442 := c_eq tr_1v122 lit_0 c442
    exact hp _ _ _  lit_m1 hI 
  · replace c442 := c_neq tr_1v122 lit_0 c442
    refine sX11_isHand   (hI := hI) (tx1 := tx2)  (hp := fun r_4v132 zr_4v132 tr_4v132 p443 => ?_)
    refine ⟨fun c444 => ?_, fun c444 => ?_⟩
    · replace c444 := c_eq tr_4v132 lit_0 c444
      exact hp _ _ _  lit_m1 hI 
    · replace c444 := c_neq tr_4v132 lit_0 c444
      refine sX11_isHeat   (hI := hI) (tx0 := tx3)  (hp := fun r_7v140 zr_7v140 tr_7v140 p445 => ?_)
      refine ⟨fun c446 => ?_, fun c446 => ?_⟩
      · replace c446 := c_eq tr_7v140 lit_0 c446
        exact hp _ _ _  lit_m1 hI 
      · replace c446 := c_neq tr_7v140 lit_0 c446
        refine sX11_isIn   (hI := hI) (tx0 := tx4) (tx1 := lit_0) (tx2 := lit_99)  (hp := fun r_10v146 zr_10v146 tr_10v146 p447 p448 => ?_)
        refine ⟨fun c449 => ?_, fun c449 => ?_⟩
        · replace c449 := c_eq tr_10v146 lit_0 c449
          exact hp _ _ _  lit_m1 hI 
        · replace c449 := c_neq tr_10v146 lit_0 c449
          refine sX11_castOf   (hI := hI) (tx1 := tx1) (tx2 := tx2) (tx3 := tx3) (tx4 := tx4) (h0 := (by omega)) (hp := fun r_13v150 zr_13v150 w_14v151  tr_13v150 hIw_14v151 p450 => ?_)
          exact hp _ _ _  tr_13v150 hIw_14v151 
set_option maxHeartbeats 4000000 in
set_option maxRecDepth 100000 in
theorem sX11_rowOf {T W H P S M : Int} {post : Int32 → Wd → Prop} {x1 : Int32} {zx1 : Int} {w : Wd}  (tx1 : Ti x1 zx1) (hI : IM T W H P S M w) (h0 : 0 ≤ zx1 ∧ zx1 < S) (hp : ∀ (r : Int32) (zr : Int), Ti r zr → (0 ≤ zr ∧ zr ≤ P - 1) → post r w) : pX11_rowOf   post  x1 w := by
  unfold pX11_rowOf
  have hk := im_k hI
  obtain ⟨z451, t452, f453⟩ := t_mul lit_4 tx1
  first | replace f453 := f453 (by omega) | clear f453
  refine ⟨vp_of t452 (by omega) (by omega), ?_⟩
  obtain ⟨z454, t455⟩ := t_any (w.2.1 341 ((4 : Int32) * x1).toNatClampNeg)
  have f456 := img_row (x := zx1) hI t452 t455
  first | replace f456 := f456 (by omega) | clear f456
  exact hp _ _ t455 (by omega)
set_option maxHeartbeats 4000000 in
set_option maxRecDepth 100000 in
theorem sX11_whose_31 {T W H P S M : Int} {post : Int32 → Wd → Prop}   (hp : ∀ (r : Int32) (zr : Int) (w9 : Wd), Ti r zr → IM T W H P S M w9 → post r w9) : ∀ (n : Nat) (x1 : Int32) (x2 : Int32) (x3 : Int32) (x4 : Int32) (x5 : Int32) (zx1 : Int) (zx2 : Int) (zx3 : Int) (zx4 : Int) (zx5 : Int) (w : Wd), Ti x1 zx1 → Ti x2 zx2 → Ti x3 zx3 → Ti x4 zx4 → Ti x5 zx5 → IM T W H P S M w → (0 ≤ zx5 ∧ zx5 ≤ 4) → (0 ≤ zx1 ∧ zx1 < S) → (5 - zx5) < (n : Int) → pX11_whose_31   post  n x1 x2 x3 x4 x5 w := by
  intro n
  induction n with
  | zero =>
    intro x1 x2 x3 x4 x5 zx1 zx2 zx3 zx4 zx5 w tx1 tx2 tx3 tx4 tx5 hI h0 h1 hm
    exact absurd hm (by omega)
  | succ n ih =>
    intro x1 x2 x3 x4 x5 zx1 zx2 zx3 zx4 zx5 w tx1 tx2 tx3 tx4 tx5 hI h0 h1 hm
    unfold pX11_whose_31
    have hk := im_k hI
    obtain ⟨z457, t458⟩ := t_any (w.1 300 29)
    have f459 := img_29 hI t458
    refine ⟨vp_of t458 (by omega) (by omega), ?_⟩
    obtain ⟨z460, t461⟩ := t_any (w.2.1 314 (w.1 300 29).toNatClampNeg)
    have f462 := img_314 hI t461
    refine ⟨fun c463 => ?_, fun c463 => ?_⟩
    · replace c463 := c_le t461 tx5 c463
      exact hp _ _ _  tx4 hI 
    · replace c463 := c_nle t461 tx5 c463
      refine sX11_rowOf   (hI := hI) (tx1 := tx1) (h0 := (by omega)) (hp := fun r_2v152 zr_2v152 tr_2v152 p464 => ?_)
      refine sX11_castOf   (hI := hI) (tx1 := tr_2v152) (tx2 := tx5) (tx3 := tx2) (tx4 := lit_0) (h0 := (by omega)) (hp := fun r_4v157 zr_4v157 w_5v158  tr_4v157 hIw_5v158 p465 => ?_)
      refine ⟨fun c466 => ?_, fun c466 => ?_⟩
      · replace c466 := c_neq tr_4v157 tx3 c466
        unfold pX11_whose_71
        obtain ⟨z467, t468, f469⟩ := t_add tx5 lit_1
        first | replace f469 := f469 (by omega) | clear f469
        intro x5_1v160 ex5_1v160
        have tx5_1v160 : Ti x5_1v160 z467 := by rw [ex5_1v160]; exact t468
        exact ih _ _ _ _ _ _ _ _ _ _ _ tx1 tx2 tx3 tx4 tx5_1v160 hIw_5v158 (by omega) (by omega) (by omega)
      · replace c466 := c_eq tr_4v157 tx3 c466
        obtain ⟨z470, t471, f472⟩ := t_shlW hIw_5v158 tx5
        first | replace f472 := f472 (by omega) | clear f472
        obtain ⟨z473, t474, f475⟩ := t_orW hIw_5v158 tx4 t471
        first | replace f475 := f475 (by omega) | clear f475
        intro x4_7v159 ex4_7v159
        have tx4_7v159 : Ti x4_7v159 z473 := by rw [ex4_7v159]; exact t474
        unfold pX11_whose_71
        obtain ⟨z476, t477, f478⟩ := t_add tx5 lit_1
        first | replace f478 := f478 (by omega) | clear f478
        intro x5_1v161 ex5_1v161
        have tx5_1v161 : Ti x5_1v161 z476 := by rw [ex5_1v161]; exact t477
        exact ih _ _ _ _ _ _ _ _ _ _ _ tx1 tx2 tx3 tx4_7v159 tx5_1v161 hIw_5v158 (by omega) (by omega) (by omega)
set_option maxHeartbeats 4000000 in
set_option maxRecDepth 100000 in
theorem sX11_whose {T W H P S M : Int} {post : Int32 → Wd → Prop} {x1 : Int32} {zx1 : Int} {x2 : Int32} {zx2 : Int} {x3 : Int32} {zx3 : Int} {w : Wd}  (tx1 : Ti x1 zx1) (tx2 : Ti x2 zx2) (tx3 : Ti x3 zx3) (hI : IM T W H P S M w)  (hp : ∀ (r : Int32) (zr : Int) (w9 : Wd), Ti r zr → IM T W H P S M w9 → post r w9) : pX11_whose   post  x1 x2 x3 w := by
  unfold pX11_whose
  have hk := im_k hI
  refine sX11_isSeal   (hI := hI) (tx1 := tx1)  (hp := fun r_1v162 zr_1v162 tr_1v162 p479 => ?_)
  refine ⟨fun c480 => ?_, fun c480 => ?_⟩
  · replace c480 := c_eq tr_1v162 lit_0 c480
    exact hp _ _ _  lit_m1 hI 
  · replace c480 := c_neq tr_1v162 lit_0 c480
    refine sX11_isHeat   (hI := hI) (tx0 := tx2)  (hp := fun r_4v168 zr_4v168 tr_4v168 p481 => ?_)
    refine ⟨fun c482 => ?_, fun c482 => ?_⟩
    · replace c482 := c_eq tr_4v168 lit_0 c482
      exact hp _ _ _  lit_m1 hI 
    · replace c482 := c_neq tr_4v168 lit_0 c482
      refine sX11_isRow   (hI := hI) (tx1 := tx3)  (hp := fun r_7v172 zr_7v172 tr_7v172 p483 => ?_)
      refine ⟨fun c484 => ?_, fun c484 => ?_⟩
      · replace c484 := c_neq tr_7v172 lit_0 c484
        exact ⟨70000, sX11_whose_31    (hp := hp) 70000 _ _ _ _ _ _ _ _ _ _ _ tx1 tx2 tx3 lit_0 lit_0 hI (by omega) (by omega) (by omega)⟩
      · replace c484 := c_eq tr_7v172 lit_0 c484
        exact hp _ _ _  lit_m1 hI 
