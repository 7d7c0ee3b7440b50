set_option maxHeartbeats 4000000 in
set_option maxRecDepth 100000 in
theorem sX10_putBytes_3 {T D : Int} {k : Nat} {post : Wd → Prop}   (hp : ∀ (w9 : Wd), IX k T D w9 → post w9) : ∀ (n : Nat) (x1 : Int32) (x2 : Int32) (zx1 : Int) (zx2 : Int) (w : Wd), Ti x1 zx1 → Ti x2 zx2 → IX k T D w → (-8 ≤ zx2 ∧ zx2 ≤ 24) → (zx2 + 9) < (n : Int) → pX10_putBytes_3   post  n x1 x2 w := by
  intro n
  induction n with
  | zero =>
    intro x1 x2 zx1 zx2 w tx1 tx2 hI h0 hm
    exact absurd hm (by omega)
  | succ n ih =>
    intro x1 x2 zx1 zx2 w tx1 tx2 hI h0 hm
    unfold pX10_putBytes_3
    have hk := ix_k hI
    refine ⟨fun c1 => ?_, fun c1 => ?_⟩
    · replace c1 := c_lt tx2 lit_0 c1
      exact hp  _   hI 
    · replace c1 := c_nlt tx2 lit_0 c1
      obtain ⟨z2, t3⟩ := t_any (w.1 0 13)
      have f4 := ixg_0_13 hI t3
      refine ⟨fun c5 => ?_, fun c5 => ?_⟩
      · replace c5 := c_lt t3 lit_0 c5
        unfold pX10_putBytes_49
        obtain ⟨z6, t7, f8⟩ := t_add tx2 lit_m8
        first | replace f8 := f8 (by omega) | clear f8
        intro x2_1v3 ex2_1v3
        have tx2_1v3 : Ti x2_1v3 z6 := by rw [ex2_1v3]; exact t7
        exact ih _ _ _ _ _ tx1 tx2_1v3 hI (by omega) (by omega)
      · replace c5 := c_nlt t3 lit_0 c5
        refine ⟨fun c9 => ?_, fun c9 => ?_⟩
        · replace c9 := c_le lit_1600 t3 c9
          unfold pX10_putBytes_49
          obtain ⟨z10, t11, f12⟩ := t_add tx2 lit_m8
          first | replace f12 := f12 (by omega) | clear f12
          intro x2_1v4 ex2_1v4
          have tx2_1v4 : Ti x2_1v4 z10 := by rw [ex2_1v4]; exact t11
          exact ih _ _ _ _ _ tx1 tx2_1v4 hI (by omega) (by omega)
        · replace c9 := c_nle lit_1600 t3 c9
          refine ⟨vp_of t3 (by omega) (by omega), ?_⟩
          intro w_4v1 ew_4v1
          have hIw_4v1 := ixs_A hI ew_4v1 (by decide)
          intro w_5v2 ew_5v2
          have t13 : Ti (w_4v1.1 0 13) z2 := by rw [e1_A ew_4v1]; exact t3
          obtain ⟨z14, t15, f16⟩ := t_add t13 lit_1
          first | replace f16 := f16 (by omega) | clear f16
          have hIw_5v2 := ixs_0_13 hIw_4v1 ew_5v2 t15 (by omega) (by omega)
          unfold pX10_putBytes_49
          obtain ⟨z17, t18, f19⟩ := t_add tx2 lit_m8
          first | replace f19 := f19 (by omega) | clear f19
          intro x2_1v5 ex2_1v5
          have tx2_1v5 : Ti x2_1v5 z17 := by rw [ex2_1v5]; exact t18
          exact ih _ _ _ _ _ tx1 tx2_1v5 hIw_5v2 (by omega) (by omega)
set_option maxHeartbeats 4000000 in
set_option maxRecDepth 100000 in
theorem sX10_putBytes {T D : Int} {k : Nat} {post : Wd → Prop} {x1 : Int32} {zx1 : Int} {w : Wd}  (tx1 : Ti x1 zx1) (hI : IX k T D w)  (hp : ∀ (w9 : Wd), IX k T D w9 → post w9) : pX10_putBytes   post  x1 w := by
  unfold pX10_putBytes
  have hk := ix_k hI
  exact ⟨70000, sX10_putBytes_3    (hp := hp) 70000 _ _ _ _ _ tx1 lit_24 hI (by omega) (by omega)⟩
set_option maxHeartbeats 4000000 in
set_option maxRecDepth 100000 in
theorem sX10_feed {T D : Int} {k : Nat} {post : Int32 → Wd → Prop} {x1 : Int32} {zx1 : Int} {x2 : Int32} {zx2 : Int} {x3 : Int32} {zx3 : Int} {x4 : Int32} {zx4 : Int} {x5 : Int32} {zx5 : Int} {w : Wd}  (tx1 : Ti x1 zx1) (tx2 : Ti x2 zx2) (tx3 : Ti x3 zx3) (tx4 : Ti x4 zx4) (tx5 : Ti x5 zx5) (hI : IX k T D w)  (hp : ∀ (r : Int32) (zr : Int) (w9 : Wd), Ti r zr → IX k T D w9 → post r w9) : pX10_feed   post  x1 x2 x3 x4 x5 w := by
  unfold pX10_feed
  have hk := ix_k hI
  obtain ⟨z20, t21⟩ := t_any (w.1 0 13)
  have f22 := ixg_0_13 hI t21
  refine ⟨fun c23 => ?_, fun c23 => ?_⟩
  · replace c23 := c_le t21 lit_1580 c23
    refine sX10_putBytes   (hI := hI) (tx1 := tx1)  (hp := fun  w_2v6   hIw_2v6  => ?_)
    refine sX10_putBytes   (hI := hIw_2v6) (tx1 := tx2)  (hp := fun  w_3v7   hIw_3v7  => ?_)
    refine sX10_putBytes   (hI := hIw_3v7) (tx1 := tx3)  (hp := fun  w_4v8   hIw_4v8  => ?_)
    refine sX10_putBytes   (hI := hIw_4v8) (tx1 := tx4)  (hp := fun  w_5v9   hIw_5v9  => ?_)
    refine sX10_putBytes   (hI := hIw_5v9) (tx1 := tx5)  (hp := fun  w_6v10   hIw_6v10  => ?_)
    obtain ⟨z24, t25⟩ := t_any (w_6v10.1 0 13)
    have f26 := ixg_0_13 hIw_6v10 t25
    exact hp _ _ _  t25 hIw_6v10 
  · replace c23 := c_nle t21 lit_1580 c23
    exact hp _ _ _  lit_m1 hI 
set_option maxHeartbeats 4000000 in
set_option maxRecDepth 100000 in
theorem sX10_end {T D : Int} {k : Nat} {post : Int32 → Wd → Prop} {x1 : Int32} {zx1 : Int} {w : Wd}  (tx1 : Ti x1 zx1) (hI : IX k T D w)  (hp : ∀ (r : Int32) (zr : Int) (w9 : Wd), Ti r zr → IX k T D w9 → post r w9) : pX10_end   post  x1 w := by
  unfold pX10_end
  have hk := ix_k hI
  refine ⟨fun c27 => ?_, fun c27 => ?_⟩
  · replace c27 := c_lt tx1 lit_0 c27
    exact hp _ _ _  lit_m1 hI 
  · replace c27 := c_nlt tx1 lit_0 c27
    obtain ⟨z28, t29⟩ := t_any (w.1 0 13)
    have f30 := ixg_0_13 hI t29
    refine ⟨fun c31 => ?_, fun c31 => ?_⟩
    · replace c31 := c_le tx1 t29 c31
      intro w_3v11 ew_3v11
      have hIw_3v11 := ixs_0_13 hI ew_3v11 tx1 (by omega) (by omega)
      exact hp _ _ _  tx1 hIw_3v11 
    · replace c31 := c_nle tx1 t29 c31
      exact hp _ _ _  lit_m1 hI 
set_option maxHeartbeats 4000000 in
set_option maxRecDepth 100000 in
theorem sX0_forget {T D : Int} {k : Nat} {post : Wd → Prop}  {w : Wd}   (hI : IX k T D w)  (hp : ∀ (w9 : Wd), IX k T 0 w9 → post w9) : pX0_forget   post   w := by
  unfold pX0_forget
  have hk := ix_k hI
  intro w_1v12 ew_1v12
  have hIw_1v12 := ixs_50_7 hI ew_1v12 lit_0 (by omega) (by omega)
  intro w_2v13 ew_2v13
  have hIw_2v13 := ixs_n hIw_1v12 ew_2v13 (by unfold nX; omega)
  exact hp  _   hIw_2v13 
set_option maxHeartbeats 4000000 in
set_option maxRecDepth 100000 in
theorem sX1_takeRules_7 {T D : Int} {k : Nat} {post : Wd → Prop} {b1 : Bool}   (hp : ∀ (w9 : Wd), IX k T D w9 → post w9) : ∀ (n : Nat) (x2 : Int32) (zx2 : Int) (w : Wd), Ti x2 zx2 → IX k T D w → (0 ≤ zx2 ∧ zx2 ≤ 40) → (41 - zx2) < (n : Int) → pX1_takeRules_7   post b1 n x2 w := by
  intro n
  induction n with
  | zero =>
    intro x2 zx2 w tx2 hI h0 hm
    exact absurd hm (by omega)
  | succ n ih =>
    intro x2 zx2 w tx2 hI h0 hm
    unfold pX1_takeRules_7
    have hk := ix_k hI
    refine ⟨fun c32 => ?_, fun c32 => ?_⟩
    · replace c32 := c_le lit_40 tx2 c32
      exact hp  _   hI 
    · replace c32 := c_nle lit_40 tx2 c32
      refine ⟨vp_of tx2 (by omega) (by omega), ?_⟩
      intro w_2v14 ew_2v14
      have hIw_2v14 := ixs_A hI ew_2v14 (by decide)
      obtain ⟨z33, t34, f35⟩ := t_add tx2 lit_1
      first | replace f35 := f35 (by omega) | clear f35
      intro x2_3v15 ex2_3v15
      have tx2_3v15 : Ti x2_3v15 z33 := by rw [ex2_3v15]; exact t34
      exact ih _ _ _ tx2_3v15 hIw_2v14 (by omega) (by omega)
set_option maxHeartbeats 4000000 in
set_option maxRecDepth 100000 in
theorem sX1_takeRules {T D : Int} {k : Nat} {post : Wd → Prop} {b1 : Bool}  {w : Wd}   (hI : IX k T D w)  (hp : ∀ (w9 : Wd), IX k T D w9 → post w9) : pX1_takeRules   post b1  w := by
  unfold pX1_takeRules
  have hk := ix_k hI
  intro w_1v16 ew_1v16
  have hIw_1v16 := ixs_R hI ew_1v16
  exact ⟨70000, sX1_takeRules_7    (hp := hp) 70000 _ _ _ lit_0 hIw_1v16 (by omega) (by omega)⟩
set_option maxHeartbeats 4000000 in
set_option maxRecDepth 100000 in
theorem sX2_begin {T D : Int} {k : Nat} {post : Wd → Prop} {b1 : Bool}  {w : Wd}   (hI : IX k T D w)  (hp : ∀ (w9 : Wd), IX k T D w9 → post w9) : pX2_begin   post b1  w := by
  unfold pX2_begin
  have hk := ix_k hI
  intro w_1v17 ew_1v17
  have hIw_1v17 := ixs_A hI ew_1v17 (by decide)
  intro w_2v18 ew_2v18
  have hIw_2v18 := ixs_A hIw_1v17 ew_2v18 (by decide)
  intro w_3v19 ew_3v19
  have hIw_3v19 := ixs_A hIw_2v18 ew_3v19 (by decide)
  intro w_4v20 ew_4v20
  have hIw_4v20 := ixs_A hIw_3v19 ew_4v20 (by decide)
  intro w_5v21 ew_5v21
  have hIw_5v21 := ixs_A hIw_4v20 ew_5v21 (by decide)
  intro w_6v22 ew_6v22
  have hIw_6v22 := ixs_c0 (c := 0) hIw_5v21 ew_6v22 lit_1 (by omega) (by omega)
  intro w_7v23 ew_7v23
  have hIw_7v23 := ixs_c6 (c := 0) hIw_6v22 ew_7v23 lit_0 (by omega) (by omega)
  intro w_8v24 ew_8v24
  have hIw_8v24 := ixs_n hIw_7v23 ew_8v24 (by unfold nX; omega)
  intro w_9v25 ew_9v25
  have hIw_9v25 := ixs_n hIw_8v24 ew_9v25 (by unfold nX; omega)
  intro w_10v26 ew_10v26
  have hIw_10v26 := ixs_n hIw_9v25 ew_10v26 (by unfold nX; omega)
  intro w_11v27 ew_11v27
  have hIw_11v27 := ixs_n hIw_10v26 ew_11v27 (by unfold nX; omega)
  exact hp  _   hIw_11v27 
set_option maxHeartbeats 4000000 in
set_option maxRecDepth 100000 in
theorem sX10_beginAnew_52 {T D : Int} {k : Nat} {post : Wd → Prop}   (hp : ∀ (w9 : Wd) (D9 : Int), IX k T D9 w9 → post w9) : ∀ (n : Nat) (x1 : Int32) (zx1 : Int) (w : Wd), Ti x1 zx1 → IX k T D w → (0 ≤ zx1 ∧ zx1 ≤ 3) → (4 - zx1) < (n : Int) → pX10_beginAnew_52   post  n x1 w := by
  intro n
  induction n with
  | zero =>
    intro x1 zx1 w tx1 hI h0 hm
    exact absurd hm (by omega)
  | succ n ih =>
    intro x1 zx1 w tx1 hI h0 hm
    unfold pX10_beginAnew_52
    have hk := ix_k hI
    refine ⟨fun c36 => ?_, fun c36 => ?_⟩
    · replace c36 := c_le lit_3 tx1 c36
      exact hp  _ _  hI 
    · replace c36 := c_nle lit_3 tx1 c36
      refine ⟨vp_of tx1 (by omega) (by omega), ?_⟩
      intro w_2v28 ew_2v28
      have hIw_2v28 := ixs_A hI ew_2v28 (by decide)
      obtain ⟨z37, t38, f39⟩ := t_add tx1 lit_1
      first | replace f39 := f39 (by omega) | clear f39
      intro x1_3v29 ex1_3v29
      have tx1_3v29 : Ti x1_3v29 z37 := by rw [ex1_3v29]; exact t38
      exact ih _ _ _ tx1_3v29 hIw_2v28 (by omega) (by omega)
set_option maxHeartbeats 4000000 in
set_option maxRecDepth 100000 in
theorem sX10_beginAnew {T D : Int} {k : Nat} {post : Wd → Prop}  {w : Wd}   (hI : IX k T D w)  (hp : ∀ (w9 : Wd) (D9 : Int), IX k T D9 w9 → post w9) : pX10_beginAnew   post   w := by
  unfold pX10_beginAnew
  have hk := ix_k hI
  intro w_1v30 ew_1v30
  have hIw_1v30 := ixs_0_13 hI ew_1v30 lit_0 (by omega) (by omega)
  refine sX1_takeRules   (hI := hIw_1v30)   (hp := fun  w_2v31   hIw_2v31  => ?_)
  refine sX2_begin   (hI := hIw_2v31)   (hp := fun  w_3v32   hIw_3v32  => ?_)
  refine sX0_forget   (hI := hIw_3v32)   (hp := fun  w_4v33   hIw_4v33  => ?_)
  intro w_5v34 ew_5v34
  have hIw_5v34 := ixs_70_0 hIw_4v33 ew_5v34 lit_0 (by omega) (by omega)
  intro w_6v35 ew_6v35
  have hIw_6v35 := ixs_110_1 hIw_5v34 ew_6v35 lit_0 (by omega) (by omega)
  exact ⟨70000, sX10_beginAnew_52    (hp := hp) 70000 _ _ _ lit_0 hIw_6v35 (by omega) (by omega)⟩
set_option maxHeartbeats 4000000 in
set_option maxRecDepth 100000 in
theorem sX6_fail {T D : Int} {k : Nat} {post : Wd → Prop} {x1 : Int32} {zx1 : Int} {w : Wd}  (tx1 : Ti x1 zx1) (hI : IX k T D w) (h0 : zx1 ≠ 0) (hp : ∀ (w9 : Wd), IX k T D w9 → (¬ (w9.1 30 2) = (0 : Int32)) → post w9) : pX6_fail   post  x1 w := by
  unfold pX6_fail
  have hk := ix_k hI
  obtain ⟨z40, t41⟩ := t_any (w.1 30 2)
  refine ⟨fun c42 => ?_, fun c42 => ?_⟩
  · replace c42 := c_neq t41 lit_0 c42
    exact hp  _   hI (cq_neq t41 lit_0 (by omega))
  · replace c42 := c_eq t41 lit_0 c42
    obtain ⟨z43, t44⟩ := t_any (w.1 30 5)
    refine ⟨fun c45 => ?_, fun c45 => ?_⟩
    · replace c45 := c_neq t44 lit_23 c45
      unfold pX6_fail_22
      intro w_1v36 ew_1v36
      have hIw_1v36 := ixs_n hI ew_1v36 (by unfold nX; omega)
      obtain ⟨z47, t48⟩ := t_any (w.1 30 4)
      have t46 : Ti (w_1v36.1 30 4) z47 := by rw [ew_1v36, sI_ne (by omega)]; exact t48
      refine ⟨fun c49 => ?_, fun c49 => ?_⟩
      · replace c49 := c_lt t46 lit_0 c49
        intro w_3v37 ew_3v37
        have hIw_3v37 := ixs_n hIw_1v36 ew_3v37 (by unfold nX; omega)
        have t51 : Ti (w_1v36.1 30 2) zx1 := by rw [ew_1v36, sI_at]; exact tx1
        have t50 : Ti (w_3v37.1 30 2) zx1 := by rw [ew_3v37, sI_ne (by omega)]; exact t51
        exact hp  _   hIw_3v37 (cq_neq t50 lit_0 (by omega))
      · replace c49 := c_nlt t46 lit_0 c49
        obtain ⟨z53, t54⟩ := t_any (w.1 20 3)
        have f55 := ixg_20_3 hI t54
        have t52 : Ti (w_1v36.1 20 3) z53 := by rw [ew_1v36, sI_ne (by omega)]; exact t54
        refine ⟨fun c56 => ?_, fun c56 => ?_⟩
        · replace c56 := c_le t52 t46 c56
          intro w_5v38 ew_5v38
          have hIw_5v38 := ixs_n hIw_1v36 ew_5v38 (by unfold nX; omega)
          have t58 : Ti (w_1v36.1 30 2) zx1 := by rw [ew_1v36, sI_at]; exact tx1
          have t57 : Ti (w_5v38.1 30 2) zx1 := by rw [ew_5v38, sI_ne (by omega)]; exact t58
          exact hp  _   hIw_5v38 (cq_neq t57 lit_0 (by omega))
        · replace c56 := c_nle t52 t46 c56
          refine ⟨vp_of t46 (by omega) (by omega), ?_⟩
          intro w_6v39 ew_6v39
          have hIw_6v39 := ixs_n hIw_1v36 ew_6v39 (by unfold nX; omega)
          have t60 : Ti (w_1v36.1 30 2) zx1 := by rw [ew_1v36, sI_at]; exact tx1
          have t59 : Ti (w_6v39.1 30 2) zx1 := by rw [ew_6v39, sI_ne (by omega)]; exact t60
          exact hp  _   hIw_6v39 (cq_neq t59 lit_0 (by omega))
    · replace c45 := c_eq t44 lit_23 c45
      unfold pX6_fail_22
      intro w_1v40 ew_1v40
      have hIw_1v40 := ixs_n hI ew_1v40 (by unfold nX; omega)
      obtain ⟨z62, t63⟩ := t_any (w.1 30 4)
      have t61 : Ti (w_1v40.1 30 4) z62 := by rw [ew_1v40, sI_ne (by omega)]; exact t63
      refine ⟨fun c64 => ?_, fun c64 => ?_⟩
      · replace c64 := c_lt t61 lit_0 c64
        intro w_3v41 ew_3v41
        have hIw_3v41 := ixs_n hIw_1v40 ew_3v41 (by unfold nX; omega)
        have t66 : Ti (w_1v40.1 30 2) 1 := by rw [ew_1v40, sI_at]; exact lit_1
        have t65 : Ti (w_3v41.1 30 2) 1 := by rw [ew_3v41, sI_ne (by omega)]; exact t66
        exact hp  _   hIw_3v41 (cq_neq t65 lit_0 (by omega))
      · replace c64 := c_nlt t61 lit_0 c64
        obtain ⟨z68, t69⟩ := t_any (w.1 20 3)
        have f70 := ixg_20_3 hI t69
        have t67 : Ti (w_1v40.1 20 3) z68 := by rw [ew_1v40, sI_ne (by omega)]; exact t69
        refine ⟨fun c71 => ?_, fun c71 => ?_⟩
        · replace c71 := c_le t67 t61 c71
          intro w_5v42 ew_5v42
          have hIw_5v42 := ixs_n hIw_1v40 ew_5v42 (by unfold nX; omega)
          have t73 : Ti (w_1v40.1 30 2) 1 := by rw [ew_1v40, sI_at]; exact lit_1
          have t72 : Ti (w_5v42.1 30 2) 1 := by rw [ew_5v42, sI_ne (by omega)]; exact t73
          exact hp  _   hIw_5v42 (cq_neq t72 lit_0 (by omega))
        · replace c71 := c_nle t67 t61 c71
          refine ⟨vp_of t61 (by omega) (by omega), ?_⟩
          intro w_6v43 ew_6v43
          have hIw_6v43 := ixs_n hIw_1v40 ew_6v43 (by unfold nX; omega)
          have t75 : Ti (w_1v40.1 30 2) 1 := by rw [ew_1v40, sI_at]; exact lit_1
          have t74 : Ti (w_6v43.1 30 2) 1 := by rw [ew_6v43, sI_ne (by omega)]; exact t75
          exact hp  _   hIw_6v43 (cq_neq t74 lit_0 (by omega))
set_option maxHeartbeats 4000000 in
set_option maxRecDepth 100000 in
theorem sX6_take {T D : Int} {k : Nat} {post : Wd → Prop}  {w : Wd}   (hI : IX k T D w)  (hp : ∀ (w9 : Wd), IX k T D w9 → post w9) : pX6_take   post   w := by
  unfold pX6_take
  have hk := ix_k hI
  intro w_1v44 ew_1v44
  have hIw_1v44 := ixs_n hI ew_1v44 (by unfold nX; omega)
  obtain ⟨z77, t78⟩ := t_any (w.1 30 4)
  obtain ⟨z79, t80, f81⟩ := t_add t78 lit_1
  first | replace f81 := f81 (by omega) | clear f81
  have t76 : Ti (w_1v44.1 30 4) z79 := by rw [ew_1v44, sI_at]; exact t80
  refine ⟨fun c82 => ?_, fun c82 => ?_⟩
  · replace c82 := c_lt t76 lit_0 c82
    unfold pX6_take_35
    unfold pX6_take_36
    refine ⟨fun c83 => ?_, fun c83 => ?_⟩
    · replace c83 := c_eq lit_0 lit_0 c83
      unfold pX6_take_59
      intro w_1v45 ew_1v45
      have hIw_1v45 := ixs_n hIw_1v44 ew_1v45 (by unfold nX; omega)
      refine ⟨fun c84 => ?_, fun c84 => ?_⟩
      · replace c84 := c_eq lit_0 lit_0 c84
        intro w_3v46 ew_3v46
        have hIw_3v46 := ixs_J hIw_1v45 ew_3v46
        exact hp  _   hIw_3v46 
      · replace c84 := c_neq lit_0 lit_0 c84
        have t85 : Ti (w_1v45.1 30 4) z79 := by rw [ew_1v45, sI_ne (by omega)]; exact t76
        refine ⟨vp_of t85 (by omega) (by omega), ?_⟩
        intro w_4v47 ew_4v47
        have hIw_4v47 := ixs_J hIw_1v45 ew_4v47
        exact hp  _   hIw_4v47 
    · replace c83 := c_neq lit_0 lit_0 c83
      refine ⟨vp_of t76 (by omega) (by omega), ?_⟩
      unfold pX6_take_59
      intro w_1v48 ew_1v48
      have hIw_1v48 := ixs_n hIw_1v44 ew_1v48 (by unfold nX; omega)
      refine ⟨fun c86 => ?_, fun c86 => ?_⟩
      · replace c86 := c_eq lit_0 lit_0 c86
        intro w_3v49 ew_3v49
        have hIw_3v49 := ixs_J hIw_1v48 ew_3v49
        exact hp  _   hIw_3v49 
      · replace c86 := c_neq lit_0 lit_0 c86
        have t87 : Ti (w_1v48.1 30 4) z79 := by rw [ew_1v48, sI_ne (by omega)]; exact t76
        refine ⟨vp_of t87 (by omega) (by omega), ?_⟩
        intro w_4v50 ew_4v50
        have hIw_4v50 := ixs_J hIw_1v48 ew_4v50
        exact hp  _   hIw_4v50 
  · replace c82 := c_nlt t76 lit_0 c82
    obtain ⟨z89, t90⟩ := t_any (w.1 20 3)
    have f91 := ixg_20_3 hI t90
    have t88 : Ti (w_1v44.1 20 3) z89 := by rw [ew_1v44, sI_ne (by omega)]; exact t90
    refine ⟨fun c92 => ?_, fun c92 => ?_⟩
    · replace c92 := c_le t88 t76 c92
      unfold pX6_take_35
      unfold pX6_take_36
      refine ⟨fun c93 => ?_, fun c93 => ?_⟩
      · replace c93 := c_eq lit_0 lit_0 c93
        unfold pX6_take_59
        intro w_1v51 ew_1v51
        have hIw_1v51 := ixs_n hIw_1v44 ew_1v51 (by unfold nX; omega)
        refine ⟨fun c94 => ?_, fun c94 => ?_⟩
        · replace c94 := c_eq lit_0 lit_0 c94
          intro w_3v52 ew_3v52
          have hIw_3v52 := ixs_J hIw_1v51 ew_3v52
          exact hp  _   hIw_3v52 
        · replace c94 := c_neq lit_0 lit_0 c94
          have t95 : Ti (w_1v51.1 30 4) z79 := by rw [ew_1v51, sI_ne (by omega)]; exact t76
          refine ⟨vp_of t95 (by omega) (by omega), ?_⟩
          intro w_4v53 ew_4v53
          have hIw_4v53 := ixs_J hIw_1v51 ew_4v53
          exact hp  _   hIw_4v53 
      · replace c93 := c_neq lit_0 lit_0 c93
        refine ⟨vp_of t76 (by omega) (by omega), ?_⟩
        unfold pX6_take_59
        intro w_1v54 ew_1v54
        have hIw_1v54 := ixs_n hIw_1v44 ew_1v54 (by unfold nX; omega)
        refine ⟨fun c96 => ?_, fun c96 => ?_⟩
        · replace c96 := c_eq lit_0 lit_0 c96
          intro w_3v55 ew_3v55
          have hIw_3v55 := ixs_J hIw_1v54 ew_3v55
          exact hp  _   hIw_3v55 
        · replace c96 := c_neq lit_0 lit_0 c96
          have t97 : Ti (w_1v54.1 30 4) z79 := by rw [ew_1v54, sI_ne (by omega)]; exact t76
          refine ⟨vp_of t97 (by omega) (by omega), ?_⟩
          intro w_4v56 ew_4v56
          have hIw_4v56 := ixs_J hIw_1v54 ew_4v56
          exact hp  _   hIw_4v56 
    · replace c92 := c_nle t88 t76 c92
      unfold pX6_take_36
      refine ⟨fun c98 => ?_, fun c98 => ?_⟩
      · replace c98 := c_eq lit_1 lit_0 c98
        unfold pX6_take_59
        intro w_1v57 ew_1v57
        have hIw_1v57 := ixs_n hIw_1v44 ew_1v57 (by unfold nX; omega)
        refine ⟨fun c99 => ?_, fun c99 => ?_⟩
        · replace c99 := c_eq lit_1 lit_0 c99
          intro w_3v58 ew_3v58
          have hIw_3v58 := ixs_J hIw_1v57 ew_3v58
          exact hp  _   hIw_3v58 
        · replace c99 := c_neq lit_1 lit_0 c99
          have t100 : Ti (w_1v57.1 30 4) z79 := by rw [ew_1v57, sI_ne (by omega)]; exact t76
          refine ⟨vp_of t100 (by omega) (by omega), ?_⟩
          intro w_4v59 ew_4v59
          have hIw_4v59 := ixs_J hIw_1v57 ew_4v59
          exact hp  _   hIw_4v59 
      · replace c98 := c_neq lit_1 lit_0 c98
        refine ⟨vp_of t76 (by omega) (by omega), ?_⟩
        unfold pX6_take_59
        intro w_1v60 ew_1v60
        have hIw_1v60 := ixs_n hIw_1v44 ew_1v60 (by unfold nX; omega)
        refine ⟨fun c101 => ?_, fun c101 => ?_⟩
        · replace c101 := c_eq lit_1 lit_0 c101
          intro w_3v61 ew_3v61
          have hIw_3v61 := ixs_J hIw_1v60 ew_3v61
          exact hp  _   hIw_3v61 
        · replace c101 := c_neq lit_1 lit_0 c101
          have t102 : Ti (w_1v60.1 30 4) z79 := by rw [ew_1v60, sI_ne (by omega)]; exact t76
          refine ⟨vp_of t102 (by omega) (by omega), ?_⟩
          intro w_4v62 ew_4v62
          have hIw_4v62 := ixs_J hIw_1v60 ew_4v62
          exact hp  _   hIw_4v62 
set_option maxHeartbeats 4000000 in
set_option maxRecDepth 100000 in
theorem sX6_expect {T D : Int} {k : Nat} {post : Wd → Prop} {x1 : Int32} {zx1 : Int} {w : Wd}  (tx1 : Ti x1 zx1) (hI : IX k T D w)  (hp : ∀ (w9 : Wd), IX k T D w9 → post w9) : pX6_expect   post  x1 w := by
  unfold pX6_expect
  have hk := ix_k hI
  obtain ⟨z103, t104⟩ := t_any (w.1 30 2)
  refine ⟨fun c105 => ?_, fun c105 => ?_⟩
  · replace c105 := c_neq t104 lit_0 c105
    refine sX6_fail   (hI := hI) (tx1 := lit_2) (h0 := (by omega)) (hp := fun  w_2v63   hIw_2v63 p106 => ?_)
    obtain ⟨z107, t108⟩ := t_any (w_2v63.1 30 2)
    have f109 := c_neq t108 lit_0 p106
    exact hp  _   hIw_2v63 
  · replace c105 := c_eq t104 lit_0 c105
    obtain ⟨z110, t111⟩ := t_any (w.1 30 5)
    refine ⟨fun c112 => ?_, fun c112 => ?_⟩
    · replace c112 := c_neq t111 tx1 c112
      refine sX6_fail   (hI := hI) (tx1 := lit_2) (h0 := (by omega)) (hp := fun  w_4v64   hIw_4v64 p113 => ?_)
      obtain ⟨z114, t115⟩ := t_any (w_4v64.1 30 2)
      have f116 := c_neq t115 lit_0 p113
      exact hp  _   hIw_4v64 
    · replace c112 := c_eq t111 tx1 c112
      refine sX6_take   (hI := hI)   (hp := fun  w_5v65   hIw_5v65  => ?_)
      exact hp  _   hIw_5v65 
set_option maxHeartbeats 4000000 in
set_option maxRecDepth 100000 in
theorem sX6_mayBegin {T D : Int} {k : Nat} {post : Int32 → Wd → Prop} {x1 : Int32} {zx1 : Int} {w : Wd}  (tx1 : Ti x1 zx1) (hI : IX k T D w)  (hp : ∀ (r : Int32) (zr : Int), Ti r zr → post r w) : pX6_mayBegin   post  x1 w := by
  unfold pX6_mayBegin
  have hk := ix_k hI
  refine ⟨fun c117 => ?_, fun c117 => ?_, fun c117 => ?_, fun c117 => ?_, fun c117 => ?_, fun c117 => ?_, fun c117 => ?_, fun c117 => ?_⟩
  · rw [show x1.toInt = zx1 from tx1] at c117
    exact hp _ _ lit_0 
  · rw [show x1.toInt = zx1 from tx1] at c117
    obtain ⟨z118, t119, f120⟩ := t_and (x := ((w.1 30 7) >>> (x1 &&& 31))) lit_1 (by decide)
    refine ⟨fun c121 => ?_, fun c121 => ?_⟩
    · replace c121 := c_neq t119 lit_0 c121
      exact hp _ _ lit_0 
    · replace c121 := c_eq t119 lit_0 c121
      exact hp _ _ lit_1 
  · rw [show x1.toInt = zx1 from tx1] at c117
    obtain ⟨z122, t123⟩ := t_any (w.1 30 7)
    refine ⟨fun c124 => ?_, fun c124 => ?_⟩
    · replace c124 := c_neq t123 lit_0 c124
      exact hp _ _ lit_0 
    · replace c124 := c_eq t123 lit_0 c124
      exact hp _ _ lit_1 
  · rw [show x1.toInt = zx1 from tx1] at c117
    obtain ⟨z125, t126, f127⟩ := t_and (x := ((w.1 30 7) >>> (x1 &&& 31))) lit_1 (by decide)
    refine ⟨fun c128 => ?_, fun c128 => ?_⟩
    · replace c128 := c_neq t126 lit_0 c128
      exact hp _ _ lit_0 
    · replace c128 := c_eq t126 lit_0 c128
      exact hp _ _ lit_1 
  · rw [show x1.toInt = zx1 from tx1] at c117
    obtain ⟨z129, t130⟩ := t_any (w.1 (rl (w.2.2.2.2 2)) 2)
    have f131 := ixg_r2 hI t130
    refine ⟨fun c132 => ?_, fun c132 => ?_⟩
    · replace c132 := c_le lit_4 t130 c132
      exact hp _ _ lit_0 
    · replace c132 := c_nle lit_4 t130 c132
      exact hp _ _ lit_1 
  · rw [show x1.toInt = zx1 from tx1] at c117
    exact hp _ _ lit_0 
  · rw [show x1.toInt = zx1 from tx1] at c117
    exact hp _ _ lit_0 
  · rw [show x1.toInt = zx1 from tx1] at c117
    obtain ⟨z133, t134, f135⟩ := t_and (x := ((w.1 30 7) >>> (x1 &&& 31))) lit_1 (by decide)
    refine ⟨fun c136 => ?_, fun c136 => ?_⟩
    · replace c136 := c_neq t134 lit_0 c136
      exact hp _ _ lit_0 
    · replace c136 := c_eq t134 lit_0 c136
      exact hp _ _ lit_1 
set_option maxHeartbeats 4000000 in
set_option maxRecDepth 100000 in
theorem sX6_readNumber {T D : Int} {k : Nat} {post : Int32 → Wd → Prop} {x1 : Int32} {zx1 : Int} {x2 : Int32} {zx2 : Int} {w : Wd}  (tx1 : Ti x1 zx1) (tx2 : Ti x2 zx2) (hI : IX k T D w) (h0 : zx1 ≤ zx2) (hp : ∀ (r : Int32) (zr : Int) (w9 : Wd), Ti r zr → IX k T D w9 → (zx1 ≤ zr ∧ zr ≤ zx2) → post r w9) : pX6_readNumber   post  x1 x2 w := by
  unfold pX6_readNumber
  have hk := ix_k hI
  obtain ⟨z137, t138⟩ := t_any (((w.2.2.1 30 6)).toInt32)
  intro x3_1v66 ex3_1v66
  have tx3_1v66 : Ti x3_1v66 z137 := by rw [ex3_1v66]; exact t138
  obtain ⟨z139, t140⟩ := t_any (w.1 30 5)
  refine ⟨fun c141 => ?_, fun c141 => ?_⟩
  · replace c141 := c_eq t140 lit_21 c141
    refine ⟨fun c142 => ?_, fun c142 => ?_⟩
    · replace c142 := c_lt tx3_1v66 tx1 c142
      unfold pX6_readNumber_33
      refine sX6_fail   (hI := hI) (tx1 := lit_4) (h0 := (by omega)) (hp := fun  w_1v68   hIw_1v68 p143 => ?_)
      obtain ⟨z144, t145⟩ := t_any (w_1v68.1 30 2)
      have f146 := c_neq t145 lit_0 p143
      unfold pX6_readNumber_38
      refine ⟨fun c147 => ?_, fun c147 => ?_⟩
      · replace c147 := c_eq t145 lit_0 c147
        refine sX6_take   (hI := hIw_1v68)   (hp := fun  w_2v69   hIw_2v69  => ?_)
        exact hp _ _ _  tx3_1v66 hIw_2v69 (by omega)
      · replace c147 := c_neq t145 lit_0 c147
        exact hp _ _ _  tx1 hIw_1v68 (by omega)
    · replace c142 := c_nlt tx3_1v66 tx1 c142
      refine ⟨fun c148 => ?_, fun c148 => ?_⟩
      · replace c148 := c_le tx3_1v66 tx2 c148
        unfold pX6_readNumber_38
        obtain ⟨z149, t150⟩ := t_any (w.1 30 2)
        refine ⟨fun c151 => ?_, fun c151 => ?_⟩
        · replace c151 := c_eq t150 lit_0 c151
          refine sX6_take   (hI := hI)   (hp := fun  w_2v70   hIw_2v70  => ?_)
          exact hp _ _ _  tx3_1v66 hIw_2v70 (by omega)
        · replace c151 := c_neq t150 lit_0 c151
          exact hp _ _ _  tx1 hI (by omega)
      · replace c148 := c_nle tx3_1v66 tx2 c148
        unfold pX6_readNumber_33
        refine sX6_fail   (hI := hI) (tx1 := lit_4) (h0 := (by omega)) (hp := fun  w_1v71   hIw_1v71 p152 => ?_)
        obtain ⟨z153, t154⟩ := t_any (w_1v71.1 30 2)
        have f155 := c_neq t154 lit_0 p152
        unfold pX6_readNumber_38
        refine ⟨fun c156 => ?_, fun c156 => ?_⟩
        · replace c156 := c_eq t154 lit_0 c156
          refine sX6_take   (hI := hIw_1v71)   (hp := fun  w_2v72   hIw_2v72  => ?_)
          exact hp _ _ _  tx3_1v66 hIw_2v72 (by omega)
        · replace c156 := c_neq t154 lit_0 c156
          exact hp _ _ _  tx1 hIw_1v71 (by omega)
  · replace c141 := c_neq t140 lit_21 c141
    refine sX6_fail   (hI := hI) (tx1 := lit_2) (h0 := (by omega)) (hp := fun  w_5v67   hIw_5v67 p157 => ?_)
    obtain ⟨z158, t159⟩ := t_any (w_5v67.1 30 2)
    have f160 := c_neq t159 lit_0 p157
    unfold pX6_readNumber_38
    refine ⟨fun c161 => ?_, fun c161 => ?_⟩
    · replace c161 := c_eq t159 lit_0 c161
      refine sX6_take   (hI := hIw_5v67)   (hp := fun  w_2v73   hIw_2v73  => ?_)
      exact hp _ _ _  tx3_1v66 hIw_2v73 (by omega)
    · replace c161 := c_neq t159 lit_0 c161
      exact hp _ _ _  tx1 hIw_5v67 (by omega)
set_option maxHeartbeats 4000000 in
set_option maxRecDepth 100000 in
theorem sX6_readFirst_2 {T D : Int} {k : Nat} {post : Wd → Prop}   (hp : ∀ (w9 : Wd), IX k T D w9 → post w9) : ∀ (n : Nat) (x1 : Int32) (zx1 : Int) (w : Wd), Ti x1 zx1 → IX k T D w → (0 ≤ zx1 ∧ zx1 ≤ 13) → (14 - zx1) < (n : Int) → pX6_readFirst_2   post  n x1 w := by
  intro n
  induction n with
  | zero =>
    intro x1 zx1 w tx1 hI h0 hm
    exact absurd hm (by omega)
  | succ n ih =>
    intro x1 zx1 w tx1 hI h0 hm
    unfold pX6_readFirst_2
    have hk := ix_k hI
    refine ⟨fun c162 => ?_, fun c162 => ?_⟩
    · replace c162 := c_lt lit_12 tx1 c162
      exact hp  _   hI 
    · replace c162 := c_nlt lit_12 tx1 c162
      obtain ⟨z163, t164⟩ := t_any (w.1 30 2)
      refine ⟨fun c165 => ?_, fun c165 => ?_⟩
      · replace c165 := c_neq t164 lit_0 c165
        exact hp  _   hI 
      · replace c165 := c_eq t164 lit_0 c165
        refine ⟨fun c166 => ?_, fun c166 => ?_⟩
        · replace c166 := c_eq tx1 lit_0 c166
          unfold pX6_readFirst_28
          obtain ⟨z167, t168⟩ := t_any (((w.2.2.1 30 6)).toInt32)
          intro x2_1v74 ex2_1v74
          have tx2_1v74 : Ti x2_1v74 z167 := by rw [ex2_1v74]; exact t168
          obtain ⟨z169, t170⟩ := t_any (w.1 30 5)
          refine ⟨fun c171 => ?_, fun c171 => ?_⟩
          · replace c171 := c_neq t170 lit_21 c171
            unfold pX6_readFirst_74
            obtain ⟨z172, t173⟩ := t_any (w.1 (rl (w.2.2.2.2 2)) 0)
            have f174 := ixg_r0 hI t173
            obtain ⟨z175, t176, f177⟩ := t_sub t173 lit_1
            first | replace f177 := f177 (by omega) | clear f177
            refine sX6_readNumber   (hI := hI) (tx1 := lit_0) (tx2 := t176) (h0 := (by omega)) (hp := fun r_1v76 zr_1v76 w_2v77  tr_1v76 hIw_2v77 p178 => ?_)
            intro w_3v78 ew_3v78
            have hIw_3v78 := ixs_n hIw_2v77 ew_3v78 (by have q := rl_or (w.2.2.2.2 2); unfold nX; omega)
            obtain ⟨z179, t180, f181⟩ := t_add tx1 lit_1
            first | replace f181 := f181 (by omega) | clear f181
            intro x1_4v79 ex1_4v79
            have tx1_4v79 : Ti x1_4v79 z179 := by rw [ex1_4v79]; exact t180
            exact ih _ _ _ tx1_4v79 hIw_3v78 (by omega) (by omega)
          · replace c171 := c_eq t170 lit_21 c171
            obtain ⟨z182, t183⟩ := t_any (w.1 (rl (w.2.2.2.2 2)) 0)
            have f184 := ixg_r0 hI t183
            refine ⟨fun c185 => ?_, fun c185 => ?_⟩
            · replace c185 := c_le t183 tx2_1v74 c185
              unfold pX6_readFirst_74
              obtain ⟨z186, t187, f188⟩ := t_sub t183 lit_1
              first | replace f188 := f188 (by omega) | clear f188
              refine sX6_readNumber   (hI := hI) (tx1 := lit_0) (tx2 := t187) (h0 := (by omega)) (hp := fun r_1v80 zr_1v80 w_2v81  tr_1v80 hIw_2v81 p189 => ?_)
              intro w_3v82 ew_3v82
              have hIw_3v82 := ixs_n hIw_2v81 ew_3v82 (by have q := rl_or (w.2.2.2.2 2); unfold nX; omega)
              obtain ⟨z190, t191, f192⟩ := t_add tx1 lit_1
              first | replace f192 := f192 (by omega) | clear f192
              intro x1_4v83 ex1_4v83
              have tx1_4v83 : Ti x1_4v83 z190 := by rw [ex1_4v83]; exact t191
              exact ih _ _ _ tx1_4v83 hIw_3v82 (by omega) (by omega)
            · replace c185 := c_nle t183 tx2_1v74 c185
              obtain ⟨z193, t194, f195⟩ := t_and (x := ((w.1 (rl (w.2.2.2.2 2)) 1) >>> (x2_1v74 &&& 31))) lit_1 (by decide)
              refine ⟨fun c196 => ?_, fun c196 => ?_⟩
              · replace c196 := c_eq t194 lit_0 c196
                unfold pX6_readFirst_74
                obtain ⟨z197, t198, f199⟩ := t_sub t183 lit_1
                first | replace f199 := f199 (by omega) | clear f199
                refine sX6_readNumber   (hI := hI) (tx1 := lit_0) (tx2 := t198) (h0 := (by omega)) (hp := fun r_1v84 zr_1v84 w_2v85  tr_1v84 hIw_2v85 p200 => ?_)
                intro w_3v86 ew_3v86
                have hIw_3v86 := ixs_n hIw_2v85 ew_3v86 (by have q := rl_or (w.2.2.2.2 2); unfold nX; omega)
                obtain ⟨z201, t202, f203⟩ := t_add tx1 lit_1
                first | replace f203 := f203 (by omega) | clear f203
                intro x1_4v87 ex1_4v87
                have tx1_4v87 : Ti x1_4v87 z201 := by rw [ex1_4v87]; exact t202
                exact ih _ _ _ tx1_4v87 hIw_3v86 (by omega) (by omega)
              · replace c196 := c_neq t194 lit_0 c196
                refine sX6_fail   (hI := hI) (tx1 := lit_3) (h0 := (by omega)) (hp := fun  w_5v75   hIw_5v75 p204 => ?_)
                obtain ⟨z205, t206⟩ := t_any (w_5v75.1 30 2)
                have f207 := c_neq t206 lit_0 p204
                exact hp  _   hIw_5v75 
        · replace c166 := c_neq tx1 lit_0 c166
          obtain ⟨z208, t209⟩ := t_any (w.1 30 5)
          refine ⟨fun c210 => ?_, fun c210 => ?_⟩
          · replace c210 := c_neq t209 lit_21 c210
            exact hp  _   hI 
          · replace c210 := c_eq t209 lit_21 c210
            unfold pX6_readFirst_28
            obtain ⟨z211, t212⟩ := t_any (((w.2.2.1 30 6)).toInt32)
            intro x2_1v88 ex2_1v88
            have tx2_1v88 : Ti x2_1v88 z211 := by rw [ex2_1v88]; exact t212
            refine ⟨fun c213 => ?_, fun c213 => ?_⟩
            · replace c213 := c_neq t209 lit_21 c213
              unfold pX6_readFirst_74
              obtain ⟨z214, t215⟩ := t_any (w.1 (rl (w.2.2.2.2 2)) 0)
              have f216 := ixg_r0 hI t215
              obtain ⟨z217, t218, f219⟩ := t_sub t215 lit_1
              first | replace f219 := f219 (by omega) | clear f219
              refine sX6_readNumber   (hI := hI) (tx1 := lit_0) (tx2 := t218) (h0 := (by omega)) (hp := fun r_1v90 zr_1v90 w_2v91  tr_1v90 hIw_2v91 p220 => ?_)
              intro w_3v92 ew_3v92
              have hIw_3v92 := ixs_n hIw_2v91 ew_3v92 (by have q := rl_or (w.2.2.2.2 2); unfold nX; omega)
              obtain ⟨z221, t222, f223⟩ := t_add tx1 lit_1
              first | replace f223 := f223 (by omega) | clear f223
              intro x1_4v93 ex1_4v93
              have tx1_4v93 : Ti x1_4v93 z221 := by rw [ex1_4v93]; exact t222
              exact ih _ _ _ tx1_4v93 hIw_3v92 (by omega) (by omega)
            · replace c213 := c_eq t209 lit_21 c213
              obtain ⟨z224, t225⟩ := t_any (w.1 (rl (w.2.2.2.2 2)) 0)
              have f226 := ixg_r0 hI t225
              refine ⟨fun c227 => ?_, fun c227 => ?_⟩
              · replace c227 := c_le t225 tx2_1v88 c227
                unfold pX6_readFirst_74
                obtain ⟨z228, t229, f230⟩ := t_sub t225 lit_1
                first | replace f230 := f230 (by omega) | clear f230
                refine sX6_readNumber   (hI := hI) (tx1 := lit_0) (tx2 := t229) (h0 := (by omega)) (hp := fun r_1v94 zr_1v94 w_2v95  tr_1v94 hIw_2v95 p231 => ?_)
                intro w_3v96 ew_3v96
                have hIw_3v96 := ixs_n hIw_2v95 ew_3v96 (by have q := rl_or (w.2.2.2.2 2); unfold nX; omega)
                obtain ⟨z232, t233, f234⟩ := t_add tx1 lit_1
                first | replace f234 := f234 (by omega) | clear f234
                intro x1_4v97 ex1_4v97
                have tx1_4v97 : Ti x1_4v97 z232 := by rw [ex1_4v97]; exact t233
                exact ih _ _ _ tx1_4v97 hIw_3v96 (by omega) (by omega)
              · replace c227 := c_nle t225 tx2_1v88 c227
                obtain ⟨z235, t236, f237⟩ := t_and (x := ((w.1 (rl (w.2.2.2.2 2)) 1) >>> (x2_1v88 &&& 31))) lit_1 (by decide)
                refine ⟨fun c238 => ?_, fun c238 => ?_⟩
                · replace c238 := c_eq t236 lit_0 c238
                  unfold pX6_readFirst_74
                  obtain ⟨z239, t240, f241⟩ := t_sub t225 lit_1
                  first | replace f241 := f241 (by omega) | clear f241
                  refine sX6_readNumber   (hI := hI) (tx1 := lit_0) (tx2 := t240) (h0 := (by omega)) (hp := fun r_1v98 zr_1v98 w_2v99  tr_1v98 hIw_2v99 p242 => ?_)
                  intro w_3v100 ew_3v100
                  have hIw_3v100 := ixs_n hIw_2v99 ew_3v100 (by have q := rl_or (w.2.2.2.2 2); unfold nX; omega)
                  obtain ⟨z243, t244, f245⟩ := t_add tx1 lit_1
                  first | replace f245 := f245 (by omega) | clear f245
                  intro x1_4v101 ex1_4v101
                  have tx1_4v101 : Ti x1_4v101 z243 := by rw [ex1_4v101]; exact t244
                  exact ih _ _ _ tx1_4v101 hIw_3v100 (by omega) (by omega)
                · replace c238 := c_neq t236 lit_0 c238
                  refine sX6_fail   (hI := hI) (tx1 := lit_3) (h0 := (by omega)) (hp := fun  w_5v89   hIw_5v89 p246 => ?_)
                  obtain ⟨z247, t248⟩ := t_any (w_5v89.1 30 2)
                  have f249 := c_neq t248 lit_0 p246
                  exact hp  _   hIw_5v89 
set_option maxHeartbeats 4000000 in
set_option maxRecDepth 100000 in
theorem sX6_readFirst {T D : Int} {k : Nat} {post : Wd → Prop}  {w : Wd}   (hI : IX k T D w)  (hp : ∀ (w9 : Wd), IX k T D w9 → post w9) : pX6_readFirst   post   w := by
  unfold pX6_readFirst
  have hk := ix_k hI
  exact ⟨70000, sX6_readFirst_2    (hp := hp) 70000 _ _ _ lit_0 hI (by omega) (by omega)⟩
set_option maxHeartbeats 4000000 in
set_option maxRecDepth 100000 in
theorem sX7_addCode {T D : Int} {k : Nat} {post : Wd → Prop} {b : Bool} {x1 : Int32} {zx1 : Int} {w : Wd}  (tx1 : Ti x1 zx1) (hI : IX k T D w)  (hp : ∀ (w9 : Wd), IX k T D w9 → post w9) : pX7_addCode   post b x1 w := by
  unfold pX7_addCode
  have hk := ix_k hI
  obtain ⟨z250, t251⟩ := t_any (w.1 (rl b) 9)
  have f252 := ixg_r9 hI t251
  refine ⟨fun c253 => ?_, fun c253 => ?_⟩
  · replace c253 := c_lt t251 lit_0 c253
    exact hp  _   hI 
  · replace c253 := c_nlt t251 lit_0 c253
    refine ⟨fun c254 => ?_, fun c254 => ?_⟩
    · replace c254 := c_le lit_1600 t251 c254
      exact hp  _   hI 
    · replace c254 := c_nle lit_1600 t251 c254
      refine ⟨vp_of t251 (by omega) (by omega), ?_⟩
      intro w_3v102 ew_3v102
      have hIw_3v102 := ixs_A hI ew_3v102 (by have q := rl_or b; omega)
      intro w_4v103 ew_4v103
      have t255 : Ti (w_3v102.1 (rl b) 9) z250 := by rw [e1_A ew_3v102]; exact t251
      obtain ⟨z256, t257, f258⟩ := t_add t255 lit_1
      first | replace f258 := f258 (by omega) | clear f258
      have hIw_4v103 := ixs_r9 hIw_3v102 ew_4v103 t257 (by omega) (by omega)
      exact hp  _   hIw_4v103 
set_option maxHeartbeats 4000000 in
set_option maxRecDepth 100000 in
theorem sX8_rankOf {T D : Int} {k : Nat} {post : Int32 → Wd → Prop} {x0 : Int32} {zx0 : Int} {w : Wd}  (tx0 : Ti x0 zx0) (hI : IX k T D w)  (hp : ∀ (r : Int32) (zr : Int), Ti r zr → post r w) : pX8_rankOf   post  x0 w := by
  unfold pX8_rankOf
  have hk := ix_k hI
  refine ⟨fun c259 => ?_, fun c259 => ?_⟩
  · rw [show x0.toInt = zx0 from tx0] at c259
    exact hp _ _ lit_0 
  · rw [show x0.toInt = zx0 from tx0] at c259
    refine ⟨fun c260 => ?_, fun c260 => ?_⟩
    · rw [show x0.toInt = zx0 from tx0] at c260
      exact hp _ _ lit_1 
    · rw [show x0.toInt = zx0 from tx0] at c260
      refine ⟨fun c261 => ?_, fun c261 => ?_⟩
      · rw [show x0.toInt = zx0 from tx0] at c261
        exact hp _ _ lit_4 
      · rw [show x0.toInt = zx0 from tx0] at c261
        refine ⟨fun c262 => ?_, fun c262 => ?_⟩
        · rw [show x0.toInt = zx0 from tx0] at c262
          exact hp _ _ lit_4 
        · rw [show x0.toInt = zx0 from tx0] at c262
          refine ⟨fun c263 => ?_, fun c263 => ?_⟩
          · rw [show x0.toInt = zx0 from tx0] at c263
            exact hp _ _ lit_3 
          · rw [show x0.toInt = zx0 from tx0] at c263
            refine ⟨fun c264 => ?_, fun c264 => ?_⟩
            · rw [show x0.toInt = zx0 from tx0] at c264
              exact hp _ _ lit_3 
            · rw [show x0.toInt = zx0 from tx0] at c264
              refine ⟨fun c265 => ?_, fun c265 => ?_⟩
              · rw [show x0.toInt = zx0 from tx0] at c265
                exact hp _ _ lit_4 
              · rw [show x0.toInt = zx0 from tx0] at c265
                refine ⟨fun c266 => ?_, fun c266 => ?_⟩
                · rw [show x0.toInt = zx0 from tx0] at c266
                  exact hp _ _ lit_2 
                · rw [show x0.toInt = zx0 from tx0] at c266
                  refine ⟨fun c267 => ?_, fun c267 => ?_⟩
                  · rw [show x0.toInt = zx0 from tx0] at c267
                    exact hp _ _ lit_2 
                  · rw [show x0.toInt = zx0 from tx0] at c267
                    refine ⟨fun c268 => ?_, fun c268 => ?_⟩
                    · rw [show x0.toInt = zx0 from tx0] at c268
                      exact hp _ _ lit_2 
                    · rw [show x0.toInt = zx0 from tx0] at c268
                      exact hp _ _ lit_m1 
set_option maxHeartbeats 4000000 in
set_option maxRecDepth 100000 in
theorem sX7_addUse {T D : Int} {k : Nat} {post : Wd → Prop} {b : Bool} {x1 : Int32} {zx1 : Int} {w : Wd}  (tx1 : Ti x1 zx1) (hI : IX k T D w)  (hp : ∀ (w9 : Wd), IX k T D w9 → post w9) : pX7_addUse   post b x1 w := by
  unfold pX7_addUse
  have hk := ix_k hI
  obtain ⟨z269, t270⟩ := t_any (w.1 (rl b) 2)
  have f271 := ixg_r2 hI t270
  refine ⟨fun c272 => ?_, fun c272 => ?_⟩
  · replace c272 := c_le t270 lit_0 c272
    exact hp  _   hI 
  · replace c272 := c_nle t270 lit_0 c272
    refine ⟨fun c273 => ?_, fun c273 => ?_⟩
    · replace c273 := c_lt lit_4 t270 c273
      exact hp  _   hI 
    · replace c273 := c_nlt lit_4 t270 c273
      obtain ⟨z274, t275, f276⟩ := t_sub t270 lit_1
      first | replace f276 := f276 (by omega) | clear f276
      refine ⟨vp_of t275 (by omega) (by omega), ?_⟩
      refine ⟨vp_of t275 (by omega) (by omega), ?_⟩
      intro w_3v104 ew_3v104
      have hIw_3v104 := ixs_A hI ew_3v104 (by have q := rl_or b; omega)
      exact hp  _   hIw_3v104 
set_option maxHeartbeats 4000000 in
set_option maxRecDepth 100000 in
theorem sX6_readPart_62 {T D : Int} {k : Nat} {qX6_readPart : (Wd → Prop) → Int32 → Int32 → Wd → Prop} {qX6_readNot : (Wd → Prop) → Int32 → Wd → Prop} {qX6_readUnit : (Wd → Prop) → Int32 → Wd → Prop} {Mq : Int} {post : Wd → Prop}  (hqX6_readPart : ∀ (post : Wd → Prop) (x1 : Int32) (x2 : Int32) (zx1 : Int) (zx2 : Int) (w : Wd), Ti x1 zx1 → Ti x2 zx2 → IX k T D w → (0 ≤ zx1 ∧ zx1 ≤ 5) → (0 ≤ zx2 ∧ zx2 ≤ 7) → (8 * (8 - zx2) + 6 - zx1) < Mq → (∀ (w9 : Wd), IX k T D w9 → post w9) → qX6_readPart post x1 x2 w) (hqX6_readNot : ∀ (post : Wd → Prop) (x1 : Int32) (zx1 : Int) (w : Wd), Ti x1 zx1 → IX k T D w → (0 ≤ zx1 ∧ zx1 ≤ 7) → (8 * (8 - zx1)) < Mq → (∀ (w9 : Wd), IX k T D w9 → post w9) → qX6_readNot post x1 w) (hqX6_readUnit : ∀ (post : Wd → Prop) (x1 : Int32) (zx1 : Int) (w : Wd), Ti x1 zx1 → IX k T D w → (0 ≤ zx1 ∧ zx1 ≤ 7) → (8 * (8 - zx1)) < Mq → (∀ (w9 : Wd), IX k T D w9 → post w9) → qX6_readUnit post x1 w) (hp : ∀ (w9 : Wd), IX k T D w9 → post w9) : ∀ (n : Nat) (x1 : Int32) (x2 : Int32) (x3 : Int32) (x4 : Int32) (zx1 : Int) (zx2 : Int) (zx3 : Int) (zx4 : Int) (w : Wd), Ti x1 zx1 → Ti x2 zx2 → Ti x3 zx3 → Ti x4 zx4 → IX k T D w → (0 ≤ zx4 ∧ zx4 ≤ 30) → (0 ≤ zx1 ∧ zx1 ≤ 4) → (0 ≤ zx2 ∧ zx2 ≤ 7) → (zx3 ≤ 30) → ((8 * (8 - zx2) + 6 - zx1) ≤ Mq) → (31 - zx4) < (n : Int) → pX6_readPart_62  qX6_readPart qX6_readNot qX6_readUnit post  n x1 x2 x3 x4 w := by
  intro n
  induction n with
  | zero =>
    intro x1 x2 x3 x4 zx1 zx2 zx3 zx4 w tx1 tx2 tx3 tx4 hI h0 h1 h2 h3 h4 hm
    exact absurd hm (by omega)
  | succ n ih =>
    intro x1 x2 x3 x4 zx1 zx2 zx3 zx4 w tx1 tx2 tx3 tx4 hI h0 h1 h2 h3 h4 hm
    unfold pX6_readPart_62
    have hk := ix_k hI
    refine ⟨fun c277 => ?_, fun c277 => ?_⟩
    · replace c277 := c_le tx3 tx4 c277
      exact hp  _   hI 
    · replace c277 := c_nle tx3 tx4 c277
      obtain ⟨z278, t279⟩ := t_any (w.1 30 2)
      refine ⟨fun c280 => ?_, fun c280 => ?_⟩
      · replace c280 := c_neq t279 lit_0 c280
        exact hp  _   hI 
      · replace c280 := c_eq t279 lit_0 c280
        obtain ⟨z281, t282⟩ := t_any (w.1 30 5)
        refine sX8_rankOf   (hI := hI) (tx0 := t282)  (hp := fun r_3v105 zr_3v105 tr_3v105 => ?_)
        refine ⟨fun c283 => ?_, fun c283 => ?_⟩
        · replace c283 := c_neq tr_3v105 tx1 c283
          exact hp  _   hI 
        · replace c283 := c_eq tr_3v105 tx1 c283
          intro x5_6v112 ex5_6v112
          have tx5_6v112 : Ti x5_6v112 z281 := by rw [ex5_6v112]; exact t282
          refine sX6_take   (hI := hI)   (hp := fun  w_7v113   hIw_7v113  => ?_)
          obtain ⟨z284, t285, f286⟩ := t_add tx1 lit_1
          first | replace f286 := f286 (by omega) | clear f286
          refine hqX6_readPart _ _ _ _ _ _ t285 tx2 hIw_7v113 (by omega) (by omega) (by omega) (fun  w_8v114   hIw_8v114  => ?_)
          refine sX7_addCode   (hI := hIw_8v114) (tx1 := tx5_6v112)  (hp := fun  w_9v115   hIw_9v115  => ?_)
          obtain ⟨z287, t288, f289⟩ := t_add tx4 lit_1
          first | replace f289 := f289 (by omega) | clear f289
          intro x4_10v116 ex4_10v116
          have tx4_10v116 : Ti x4_10v116 z287 := by rw [ex4_10v116]; exact t288
          exact ih _ _ _ _ _ _ _ _ _ tx1 tx2 tx3 tx4_10v116 hIw_9v115 (by omega) (by omega) (by omega) (by omega) (by omega) (by omega)
set_option maxHeartbeats 4000000 in
set_option maxRecDepth 100000 in
theorem sX6_readPart {T D : Int} {k : Nat} {qX6_readPart : (Wd → Prop) → Int32 → Int32 → Wd → Prop} {qX6_readNot : (Wd → Prop) → Int32 → Wd → Prop} {qX6_readUnit : (Wd → Prop) → Int32 → Wd → Prop} {Mq : Int} {post : Wd → Prop} {x1 : Int32} {zx1 : Int} {x2 : Int32} {zx2 : Int} {w : Wd} (hqX6_readPart : ∀ (post : Wd → Prop) (x1 : Int32) (x2 : Int32) (zx1 : Int) (zx2 : Int) (w : Wd), Ti x1 zx1 → Ti x2 zx2 → IX k T D w → (0 ≤ zx1 ∧ zx1 ≤ 5) → (0 ≤ zx2 ∧ zx2 ≤ 7) → (8 * (8 - zx2) + 6 - zx1) < Mq → (∀ (w9 : Wd), IX k T D w9 → post w9) → qX6_readPart post x1 x2 w) (hqX6_readNot : ∀ (post : Wd → Prop) (x1 : Int32) (zx1 : Int) (w : Wd), Ti x1 zx1 → IX k T D w → (0 ≤ zx1 ∧ zx1 ≤ 7) → (8 * (8 - zx1)) < Mq → (∀ (w9 : Wd), IX k T D w9 → post w9) → qX6_readNot post x1 w) (hqX6_readUnit : ∀ (post : Wd → Prop) (x1 : Int32) (zx1 : Int) (w : Wd), Ti x1 zx1 → IX k T D w → (0 ≤ zx1 ∧ zx1 ≤ 7) → (8 * (8 - zx1)) < Mq → (∀ (w9 : Wd), IX k T D w9 → post w9) → qX6_readUnit post x1 w) (tx1 : Ti x1 zx1) (tx2 : Ti x2 zx2) (hI : IX k T D w) (h0 : 0 ≤ zx1 ∧ zx1 ≤ 5) (h1 : 0 ≤ zx2 ∧ zx2 ≤ 7) (h2 : (8 * (8 - zx2) + 6 - zx1) ≤ Mq) (hp : ∀ (w9 : Wd), IX k T D w9 → post w9) : pX6_readPart  qX6_readPart qX6_readNot qX6_readUnit post  x1 x2 w := by
  unfold pX6_readPart
  have hk := ix_k hI
  obtain ⟨z290, t291⟩ := t_any (w.1 30 2)
  refine ⟨fun c292 => ?_, fun c292 => ?_⟩
  · replace c292 := c_eq t291 lit_0 c292
    refine ⟨fun c293 => ?_, fun c293 => ?_⟩
    · replace c293 := c_lt tx1 lit_5 c293
      refine ⟨fun c294 => ?_, fun c294 => ?_⟩
      · replace c294 := c_neq tx1 lit_2 c294
        unfold pX6_readPart_39
        obtain ⟨z295, t296, f297⟩ := t_add tx1 lit_1
        first | replace f297 := f297 (by omega) | clear f297
        refine hqX6_readPart _ _ _ _ _ _ t296 tx2 hI (by omega) (by omega) (by omega) (fun  w_1v119   hIw_1v119  => ?_)
        refine ⟨fun c298 => ?_, fun c298 => ?_⟩
        · replace c298 := c_neq tx1 lit_2 c298
          unfold pX6_readPart_58
          exact ⟨70000, sX6_readPart_62   (hqX6_readPart := hqX6_readPart) (hqX6_readNot := hqX6_readNot) (hqX6_readUnit := hqX6_readUnit) (hp := hp) 70000 _ _ _ _ _ _ _ _ _ tx1 tx2 lit_30 lit_0 hIw_1v119 (by omega) (by omega) (by omega) (by omega) (by omega) (by omega)⟩
        · replace c298 := c_eq tx1 lit_2 c298
          unfold pX6_readPart_58
          exact ⟨70000, sX6_readPart_62   (hqX6_readPart := hqX6_readPart) (hqX6_readNot := hqX6_readNot) (hqX6_readUnit := hqX6_readUnit) (hp := hp) 70000 _ _ _ _ _ _ _ _ _ tx1 tx2 lit_1 lit_0 hIw_1v119 (by omega) (by omega) (by omega) (by omega) (by omega) (by omega)⟩
      · replace c294 := c_eq tx1 lit_2 c294
        obtain ⟨z299, t300⟩ := t_any (w.1 30 5)
        refine ⟨fun c301 => ?_, fun c301 => ?_⟩
        · replace c301 := c_neq t300 lit_16 c301
          unfold pX6_readPart_39
          obtain ⟨z302, t303, f304⟩ := t_add tx1 lit_1
          first | replace f304 := f304 (by omega) | clear f304
          refine hqX6_readPart _ _ _ _ _ _ t303 tx2 hI (by omega) (by omega) (by omega) (fun  w_1v120   hIw_1v120  => ?_)
          refine ⟨fun c305 => ?_, fun c305 => ?_⟩
          · replace c305 := c_neq tx1 lit_2 c305
            unfold pX6_readPart_58
            exact ⟨70000, sX6_readPart_62   (hqX6_readPart := hqX6_readPart) (hqX6_readNot := hqX6_readNot) (hqX6_readUnit := hqX6_readUnit) (hp := hp) 70000 _ _ _ _ _ _ _ _ _ tx1 tx2 lit_30 lit_0 hIw_1v120 (by omega) (by omega) (by omega) (by omega) (by omega) (by omega)⟩
          · replace c305 := c_eq tx1 lit_2 c305
            unfold pX6_readPart_58
            exact ⟨70000, sX6_readPart_62   (hqX6_readPart := hqX6_readPart) (hqX6_readNot := hqX6_readNot) (hqX6_readUnit := hqX6_readUnit) (hp := hp) 70000 _ _ _ _ _ _ _ _ _ tx1 tx2 lit_1 lit_0 hIw_1v120 (by omega) (by omega) (by omega) (by omega) (by omega) (by omega)⟩
        · replace c301 := c_eq t300 lit_16 c301
          refine hqX6_readNot _ _ _ _ tx2 hI (by omega) (by omega) (fun  w_5v117   hIw_5v117  => ?_)
          exact hp  _   hIw_5v117 
    · replace c293 := c_nlt tx1 lit_5 c293
      refine hqX6_readUnit _ _ _ _ tx2 hI (by omega) (by omega) (fun  w_6v118   hIw_6v118  => ?_)
      exact hp  _   hIw_6v118 
  · replace c292 := c_neq t291 lit_0 c292
    exact hp  _   hI 
set_option maxHeartbeats 4000000 in
set_option maxRecDepth 100000 in
theorem sX6_readNot {T D : Int} {k : Nat} {qX6_readPart : (Wd → Prop) → Int32 → Int32 → Wd → Prop} {qX6_readNot : (Wd → Prop) → Int32 → Wd → Prop} {qX6_readUnit : (Wd → Prop) → Int32 → Wd → Prop} {Mq : Int} {post : Wd → Prop} {x1 : Int32} {zx1 : Int} {w : Wd} (hqX6_readPart : ∀ (post : Wd → Prop) (x1 : Int32) (x2 : Int32) (zx1 : Int) (zx2 : Int) (w : Wd), Ti x1 zx1 → Ti x2 zx2 → IX k T D w → (0 ≤ zx1 ∧ zx1 ≤ 5) → (0 ≤ zx2 ∧ zx2 ≤ 7) → (8 * (8 - zx2) + 6 - zx1) < Mq → (∀ (w9 : Wd), IX k T D w9 → post w9) → qX6_readPart post x1 x2 w) (hqX6_readNot : ∀ (post : Wd → Prop) (x1 : Int32) (zx1 : Int) (w : Wd), Ti x1 zx1 → IX k T D w → (0 ≤ zx1 ∧ zx1 ≤ 7) → (8 * (8 - zx1)) < Mq → (∀ (w9 : Wd), IX k T D w9 → post w9) → qX6_readNot post x1 w) (hqX6_readUnit : ∀ (post : Wd → Prop) (x1 : Int32) (zx1 : Int) (w : Wd), Ti x1 zx1 → IX k T D w → (0 ≤ zx1 ∧ zx1 ≤ 7) → (8 * (8 - zx1)) < Mq → (∀ (w9 : Wd), IX k T D w9 → post w9) → qX6_readUnit post x1 w) (tx1 : Ti x1 zx1) (hI : IX k T D w) (h0 : 0 ≤ zx1 ∧ zx1 ≤ 7) (h1 : (8 * (8 - zx1)) ≤ Mq) (hp : ∀ (w9 : Wd), IX k T D w9 → post w9) : pX6_readNot  qX6_readPart qX6_readNot qX6_readUnit post  x1 w := by
  unfold pX6_readNot
  have hk := ix_k hI
  refine ⟨fun c306 => ?_, fun c306 => ?_⟩
  · replace c306 := c_lt tx1 lit_7 c306
    refine sX6_take   (hI := hI)   (hp := fun  w_2v121   hIw_2v121  => ?_)
    obtain ⟨z307, t308, f309⟩ := t_add tx1 lit_1
    first | replace f309 := f309 (by omega) | clear f309
    refine hqX6_readPart _ _ _ _ _ _ lit_2 t308 hIw_2v121 (by omega) (by omega) (by omega) (fun  w_3v122   hIw_3v122  => ?_)
    refine sX7_addCode   (hI := hIw_3v122) (tx1 := lit_16)  (hp := fun  w_4v123   hIw_4v123  => ?_)
    exact hp  _   hIw_4v123 
  · replace c306 := c_nlt tx1 lit_7 c306
    refine sX6_fail   (hI := hI) (tx1 := lit_2) (h0 := (by omega)) (hp := fun  w_5v124   hIw_5v124 p310 => ?_)
    obtain ⟨z311, t312⟩ := t_any (w_5v124.1 30 2)
    have f313 := c_neq t312 lit_0 p310
    exact hp  _   hIw_5v124 
set_option maxHeartbeats 4000000 in
set_option maxRecDepth 100000 in
theorem sX6_readUnit {T D : Int} {k : Nat} {qX6_readPart : (Wd → Prop) → Int32 → Int32 → Wd → Prop} {qX6_readNot : (Wd → Prop) → Int32 → Wd → Prop} {qX6_readUnit : (Wd → Prop) → Int32 → Wd → Prop} {Mq : Int} {post : Wd → Prop} {x1 : Int32} {zx1 : Int} {w : Wd} (hqX6_readPart : ∀ (post : Wd → Prop) (x1 : Int32) (x2 : Int32) (zx1 : Int) (zx2 : Int) (w : Wd), Ti x1 zx1 → Ti x2 zx2 → IX k T D w → (0 ≤ zx1 ∧ zx1 ≤ 5) → (0 ≤ zx2 ∧ zx2 ≤ 7) → (8 * (8 - zx2) + 6 - zx1) < Mq → (∀ (w9 : Wd), IX k T D w9 → post w9) → qX6_readPart post x1 x2 w) (hqX6_readNot : ∀ (post : Wd → Prop) (x1 : Int32) (zx1 : Int) (w : Wd), Ti x1 zx1 → IX k T D w → (0 ≤ zx1 ∧ zx1 ≤ 7) → (8 * (8 - zx1)) < Mq → (∀ (w9 : Wd), IX k T D w9 → post w9) → qX6_readNot post x1 w) (hqX6_readUnit : ∀ (post : Wd → Prop) (x1 : Int32) (zx1 : Int) (w : Wd), Ti x1 zx1 → IX k T D w → (0 ≤ zx1 ∧ zx1 ≤ 7) → (8 * (8 - zx1)) < Mq → (∀ (w9 : Wd), IX k T D w9 → post w9) → qX6_readUnit post x1 w) (tx1 : Ti x1 zx1) (hI : IX k T D w) (h0 : 0 ≤ zx1 ∧ zx1 ≤ 7) (h1 : (8 * (8 - zx1)) ≤ Mq) (hp : ∀ (w9 : Wd), IX k T D w9 → post w9) : pX6_readUnit  qX6_readPart qX6_readNot qX6_readUnit post  x1 w := by
  unfold pX6_readUnit
  have hk := ix_k hI
  obtain ⟨z314, t315⟩ := t_any (w.1 30 5)
  intro x2_1v125 ex2_1v125
  have tx2_1v125 : Ti x2_1v125 z314 := by rw [ex2_1v125]; exact t315
  obtain ⟨z316, t317⟩ := t_any (((w.2.2.1 30 6)).toInt32)
  intro x3_2v126 ex3_2v126
  have tx3_2v126 : Ti x3_2v126 z316 := by rw [ex3_2v126]; exact t317
  refine ⟨fun c318 => ?_, fun c318 => ?_⟩
  · replace c318 := c_eq tx2_1v125 lit_21 c318
    unfold pX6_readUnit_33
    unfold pX6_readUnit_38
    refine ⟨fun c319 => ?_, fun c319 => ?_⟩
    · replace c319 := c_neq tx2_1v125 lit_40 c319
      unfold pX6_readUnit_56
      unfold pX6_readUnit_57
      refine ⟨fun c320 => ?_, fun c320 => ?_⟩
      · replace c320 := c_eq lit_1 lit_0 c320
        refine sX6_fail   (hI := hI) (tx1 := lit_2) (h0 := (by omega)) (hp := fun  w_2v127   hIw_2v127 p321 => ?_)
        obtain ⟨z322, t323⟩ := t_any (w_2v127.1 30 2)
        have f324 := c_neq t323 lit_0 p321
        exact hp  _   hIw_2v127 
      · replace c320 := c_neq lit_1 lit_0 c320
        refine ⟨fun c325 => ?_, fun c325 => ?_⟩
        · replace c325 := c_neq lit_0 lit_0 c325
          refine sX6_fail   (hI := hI) (tx1 := lit_2) (h0 := (by omega)) (hp := fun  w_4v128   hIw_4v128 p326 => ?_)
          obtain ⟨z327, t328⟩ := t_any (w_4v128.1 30 2)
          have f329 := c_neq t328 lit_0 p326
          exact hp  _   hIw_4v128 
        · replace c325 := c_eq lit_0 lit_0 c325
          obtain ⟨z330, t331⟩ := t_any (w.1 30 8)
          refine ⟨fun c332 => ?_, fun c332 => ?_⟩
          · replace c332 := c_le lit_30 t331 c332
            refine sX6_fail   (hI := hI) (tx1 := lit_2) (h0 := (by omega)) (hp := fun  w_6v129   hIw_6v129 p333 => ?_)
            obtain ⟨z334, t335⟩ := t_any (w_6v129.1 30 2)
            have f336 := c_neq t335 lit_0 p333
            exact hp  _   hIw_6v129 
          · replace c332 := c_nle lit_30 t331 c332
            obtain ⟨z337, t338⟩ := t_any (w.1 (rl (w.2.2.2.2 2)) 5)
            refine ⟨fun c339 => ?_, fun c339 => ?_⟩
            · replace c339 := c_lt t338 lit_90 c339
              intro w_8v130 ew_8v130
              have hIw_8v130 := ixs_n hI ew_8v130 (by unfold nX; omega)
              intro w_9v131 ew_9v131
              have hIw_9v131 := ixs_n hIw_8v130 ew_9v131 (by have q := rl_or (w_8v130.2.2.2.2 2); unfold nX; omega)
              refine sX6_take   (hI := hIw_9v131)   (hp := fun  w_10v132   hIw_10v132  => ?_)
              refine ⟨fun c340 => ?_, fun c340 => ?_⟩
              · replace c340 := c_neq tx2_1v125 lit_40 c340
                refine ⟨fun c341 => ?_, fun c341 => ?_⟩
                · replace c341 := c_neq tx2_1v125 lit_21 c341
                  refine sX7_addCode   (hI := hIw_10v132) (tx1 := tx2_1v125)  (hp := fun  w_13v133   hIw_13v133  => ?_)
                  refine sX7_addUse   (hI := hIw_13v133) (tx1 := tx2_1v125)  (hp := fun  w_14v134   hIw_14v134  => ?_)
                  exact hp  _   hIw_14v134 
                · replace c341 := c_eq tx2_1v125 lit_21 c341
                  obtain ⟨z342, t343, f344⟩ := t_add lit_128 tx3_2v126
                  first | replace f344 := f344 (by omega) | clear f344
                  refine sX7_addCode   (hI := hIw_10v132) (tx1 := t343)  (hp := fun  w_15v135   hIw_15v135  => ?_)
                  exact hp  _   hIw_15v135 
              · replace c340 := c_eq tx2_1v125 lit_40 c340
                obtain ⟨z345, t346, f347⟩ := t_add tx1 lit_1
                first | replace f347 := f347 (by omega) | clear f347
                refine hqX6_readPart _ _ _ _ _ _ lit_0 t346 hIw_10v132 (by omega) (by omega) (by omega) (fun  w_16v136   hIw_16v136  => ?_)
                refine sX6_expect   (hI := hIw_16v136) (tx1 := lit_41)  (hp := fun  w_17v137   hIw_17v137  => ?_)
                exact hp  _   hIw_17v137 
            · replace c339 := c_nlt t338 lit_90 c339
              refine sX6_fail   (hI := hI) (tx1 := lit_2) (h0 := (by omega)) (hp := fun  w_18v138   hIw_18v138 p348 => ?_)
              obtain ⟨z349, t350⟩ := t_any (w_18v138.1 30 2)
              have f351 := c_neq t350 lit_0 p348
              exact hp  _   hIw_18v138 
    · replace c319 := c_eq tx2_1v125 lit_40 c319
      refine ⟨fun c352 => ?_, fun c352 => ?_⟩
      · replace c352 := c_lt tx1 lit_7 c352
        unfold pX6_readUnit_56
        unfold pX6_readUnit_57
        refine ⟨fun c353 => ?_, fun c353 => ?_⟩
        · replace c353 := c_eq lit_1 lit_0 c353
          refine sX6_fail   (hI := hI) (tx1 := lit_2) (h0 := (by omega)) (hp := fun  w_2v139   hIw_2v139 p354 => ?_)
          obtain ⟨z355, t356⟩ := t_any (w_2v139.1 30 2)
          have f357 := c_neq t356 lit_0 p354
          exact hp  _   hIw_2v139 
        · replace c353 := c_neq lit_1 lit_0 c353
          refine ⟨fun c358 => ?_, fun c358 => ?_⟩
          · replace c358 := c_neq lit_0 lit_0 c358
            refine sX6_fail   (hI := hI) (tx1 := lit_2) (h0 := (by omega)) (hp := fun  w_4v140   hIw_4v140 p359 => ?_)
            obtain ⟨z360, t361⟩ := t_any (w_4v140.1 30 2)
            have f362 := c_neq t361 lit_0 p359
            exact hp  _   hIw_4v140 
          · replace c358 := c_eq lit_0 lit_0 c358
            obtain ⟨z363, t364⟩ := t_any (w.1 30 8)
            refine ⟨fun c365 => ?_, fun c365 => ?_⟩
            · replace c365 := c_le lit_30 t364 c365
              refine sX6_fail   (hI := hI) (tx1 := lit_2) (h0 := (by omega)) (hp := fun  w_6v141   hIw_6v141 p366 => ?_)
              obtain ⟨z367, t368⟩ := t_any (w_6v141.1 30 2)
              have f369 := c_neq t368 lit_0 p366
              exact hp  _   hIw_6v141 
            · replace c365 := c_nle lit_30 t364 c365
              obtain ⟨z370, t371⟩ := t_any (w.1 (rl (w.2.2.2.2 2)) 5)
              refine ⟨fun c372 => ?_, fun c372 => ?_⟩
              · replace c372 := c_lt t371 lit_90 c372
                intro w_8v142 ew_8v142
                have hIw_8v142 := ixs_n hI ew_8v142 (by unfold nX; omega)
                intro w_9v143 ew_9v143
                have hIw_9v143 := ixs_n hIw_8v142 ew_9v143 (by have q := rl_or (w_8v142.2.2.2.2 2); unfold nX; omega)
                refine sX6_take   (hI := hIw_9v143)   (hp := fun  w_10v144   hIw_10v144  => ?_)
                refine ⟨fun c373 => ?_, fun c373 => ?_⟩
                · replace c373 := c_neq tx2_1v125 lit_40 c373
                  refine ⟨fun c374 => ?_, fun c374 => ?_⟩
                  · replace c374 := c_neq tx2_1v125 lit_21 c374
                    refine sX7_addCode   (hI := hIw_10v144) (tx1 := tx2_1v125)  (hp := fun  w_13v145   hIw_13v145  => ?_)
                    refine sX7_addUse   (hI := hIw_13v145) (tx1 := tx2_1v125)  (hp := fun  w_14v146   hIw_14v146  => ?_)
                    exact hp  _   hIw_14v146 
                  · replace c374 := c_eq tx2_1v125 lit_21 c374
                    obtain ⟨z375, t376, f377⟩ := t_add lit_128 tx3_2v126
                    first | replace f377 := f377 (by omega) | clear f377
                    refine sX7_addCode   (hI := hIw_10v144) (tx1 := t376)  (hp := fun  w_15v147   hIw_15v147  => ?_)
                    exact hp  _   hIw_15v147 
                · replace c373 := c_eq tx2_1v125 lit_40 c373
                  obtain ⟨z378, t379, f380⟩ := t_add tx1 lit_1
                  first | replace f380 := f380 (by omega) | clear f380
                  refine hqX6_readPart _ _ _ _ _ _ lit_0 t379 hIw_10v144 (by omega) (by omega) (by omega) (fun  w_16v148   hIw_16v148  => ?_)
                  refine sX6_expect   (hI := hIw_16v148) (tx1 := lit_41)  (hp := fun  w_17v149   hIw_17v149  => ?_)
                  exact hp  _   hIw_17v149 
              · replace c372 := c_nlt t371 lit_90 c372
                refine sX6_fail   (hI := hI) (tx1 := lit_2) (h0 := (by omega)) (hp := fun  w_18v150   hIw_18v150 p381 => ?_)
                obtain ⟨z382, t383⟩ := t_any (w_18v150.1 30 2)
                have f384 := c_neq t383 lit_0 p381
                exact hp  _   hIw_18v150 
      · replace c352 := c_nlt tx1 lit_7 c352
        unfold pX6_readUnit_57
        refine ⟨fun c385 => ?_, fun c385 => ?_⟩
        · replace c385 := c_eq lit_1 lit_0 c385
          refine sX6_fail   (hI := hI) (tx1 := lit_2) (h0 := (by omega)) (hp := fun  w_2v151   hIw_2v151 p386 => ?_)
          obtain ⟨z387, t388⟩ := t_any (w_2v151.1 30 2)
          have f389 := c_neq t388 lit_0 p386
          exact hp  _   hIw_2v151 
        · replace c385 := c_neq lit_1 lit_0 c385
          refine ⟨fun c390 => ?_, fun c390 => ?_⟩
          · replace c390 := c_neq lit_1 lit_0 c390
            refine sX6_fail   (hI := hI) (tx1 := lit_2) (h0 := (by omega)) (hp := fun  w_4v152   hIw_4v152 p391 => ?_)
            obtain ⟨z392, t393⟩ := t_any (w_4v152.1 30 2)
            have f394 := c_neq t393 lit_0 p391
            exact hp  _   hIw_4v152 
          · replace c390 := c_eq lit_1 lit_0 c390
            obtain ⟨z395, t396⟩ := t_any (w.1 30 8)
            refine ⟨fun c397 => ?_, fun c397 => ?_⟩
            · replace c397 := c_le lit_30 t396 c397
              refine sX6_fail   (hI := hI) (tx1 := lit_2) (h0 := (by omega)) (hp := fun  w_6v153   hIw_6v153 p398 => ?_)
              obtain ⟨z399, t400⟩ := t_any (w_6v153.1 30 2)
              have f401 := c_neq t400 lit_0 p398
              exact hp  _   hIw_6v153 
            · replace c397 := c_nle lit_30 t396 c397
              obtain ⟨z402, t403⟩ := t_any (w.1 (rl (w.2.2.2.2 2)) 5)
              refine ⟨fun c404 => ?_, fun c404 => ?_⟩
              · replace c404 := c_lt t403 lit_90 c404
                intro w_8v154 ew_8v154
                have hIw_8v154 := ixs_n hI ew_8v154 (by unfold nX; omega)
                intro w_9v155 ew_9v155
                have hIw_9v155 := ixs_n hIw_8v154 ew_9v155 (by have q := rl_or (w_8v154.2.2.2.2 2); unfold nX; omega)
                refine sX6_take   (hI := hIw_9v155)   (hp := fun  w_10v156   hIw_10v156  => ?_)
                refine ⟨fun c405 => ?_, fun c405 => ?_⟩
                · replace c405 := c_neq tx2_1v125 lit_40 c405
                  refine ⟨fun c406 => ?_, fun c406 => ?_⟩
                  · replace c406 := c_neq tx2_1v125 lit_21 c406
                    refine sX7_addCode   (hI := hIw_10v156) (tx1 := tx2_1v125)  (hp := fun  w_13v157   hIw_13v157  => ?_)
                    refine sX7_addUse   (hI := hIw_13v157) (tx1 := tx2_1v125)  (hp := fun  w_14v158   hIw_14v158  => ?_)
                    exact hp  _   hIw_14v158 
                  · replace c406 := c_eq tx2_1v125 lit_21 c406
                    obtain ⟨z407, t408, f409⟩ := t_add lit_128 tx3_2v126
                    first | replace f409 := f409 (by omega) | clear f409
                    refine sX7_addCode   (hI := hIw_10v156) (tx1 := t408)  (hp := fun  w_15v159   hIw_15v159  => ?_)
                    exact hp  _   hIw_15v159 
                · replace c405 := c_eq tx2_1v125 lit_40 c405
                  obtain ⟨z410, t411, f412⟩ := t_add tx1 lit_1
                  first | replace f412 := f412 (by omega) | clear f412
                  refine hqX6_readPart _ _ _ _ _ _ lit_0 t411 hIw_10v156 (by omega) (by omega) (by omega) (fun  w_16v160   hIw_16v160  => ?_)
                  refine sX6_expect   (hI := hIw_16v160) (tx1 := lit_41)  (hp := fun  w_17v161   hIw_17v161  => ?_)
                  exact hp  _   hIw_17v161 
              · replace c404 := c_nlt t403 lit_90 c404
                refine sX6_fail   (hI := hI) (tx1 := lit_2) (h0 := (by omega)) (hp := fun  w_18v162   hIw_18v162 p413 => ?_)
                obtain ⟨z414, t415⟩ := t_any (w_18v162.1 30 2)
                have f416 := c_neq t415 lit_0 p413
                exact hp  _   hIw_18v162 
  · replace c318 := c_neq tx2_1v125 lit_21 c318
    refine ⟨fun c417 => ?_, fun c417 => ?_⟩
    · replace c417 := c_eq tx2_1v125 lit_40 c417
      unfold pX6_readUnit_33
      unfold pX6_readUnit_38
      refine ⟨fun c418 => ?_, fun c418 => ?_⟩
      · replace c418 := c_neq tx2_1v125 lit_40 c418
        unfold pX6_readUnit_56
        unfold pX6_readUnit_57
        refine ⟨fun c419 => ?_, fun c419 => ?_⟩
        · replace c419 := c_eq lit_1 lit_0 c419
          refine sX6_fail   (hI := hI) (tx1 := lit_2) (h0 := (by omega)) (hp := fun  w_2v163   hIw_2v163 p420 => ?_)
          obtain ⟨z421, t422⟩ := t_any (w_2v163.1 30 2)
          have f423 := c_neq t422 lit_0 p420
          exact hp  _   hIw_2v163 
        · replace c419 := c_neq lit_1 lit_0 c419
          refine ⟨fun c424 => ?_, fun c424 => ?_⟩
          · replace c424 := c_neq lit_0 lit_0 c424
            refine sX6_fail   (hI := hI) (tx1 := lit_2) (h0 := (by omega)) (hp := fun  w_4v164   hIw_4v164 p425 => ?_)
            obtain ⟨z426, t427⟩ := t_any (w_4v164.1 30 2)
            have f428 := c_neq t427 lit_0 p425
            exact hp  _   hIw_4v164 
          · replace c424 := c_eq lit_0 lit_0 c424
            obtain ⟨z429, t430⟩ := t_any (w.1 30 8)
            refine ⟨fun c431 => ?_, fun c431 => ?_⟩
            · replace c431 := c_le lit_30 t430 c431
              refine sX6_fail   (hI := hI) (tx1 := lit_2) (h0 := (by omega)) (hp := fun  w_6v165   hIw_6v165 p432 => ?_)
              obtain ⟨z433, t434⟩ := t_any (w_6v165.1 30 2)
              have f435 := c_neq t434 lit_0 p432
              exact hp  _   hIw_6v165 
            · replace c431 := c_nle lit_30 t430 c431
              obtain ⟨z436, t437⟩ := t_any (w.1 (rl (w.2.2.2.2 2)) 5)
              refine ⟨fun c438 => ?_, fun c438 => ?_⟩
              · replace c438 := c_lt t437 lit_90 c438
                intro w_8v166 ew_8v166
                have hIw_8v166 := ixs_n hI ew_8v166 (by unfold nX; omega)
                intro w_9v167 ew_9v167
                have hIw_9v167 := ixs_n hIw_8v166 ew_9v167 (by have q := rl_or (w_8v166.2.2.2.2 2); unfold nX; omega)
                refine sX6_take   (hI := hIw_9v167)   (hp := fun  w_10v168   hIw_10v168  => ?_)
                refine ⟨fun c439 => ?_, fun c439 => ?_⟩
                · replace c439 := c_neq tx2_1v125 lit_40 c439
                  refine ⟨fun c440 => ?_, fun c440 => ?_⟩
                  · replace c440 := c_neq tx2_1v125 lit_21 c440
                    refine sX7_addCode   (hI := hIw_10v168) (tx1 := tx2_1v125)  (hp := fun  w_13v169   hIw_13v169  => ?_)
                    refine sX7_addUse   (hI := hIw_13v169) (tx1 := tx2_1v125)  (hp := fun  w_14v170   hIw_14v170  => ?_)
                    exact hp  _   hIw_14v170 
                  · replace c440 := c_eq tx2_1v125 lit_21 c440
                    obtain ⟨z441, t442, f443⟩ := t_add lit_128 tx3_2v126
                    first | replace f443 := f443 (by omega) | clear f443
                    refine sX7_addCode   (hI := hIw_10v168) (tx1 := t442)  (hp := fun  w_15v171   hIw_15v171  => ?_)
                    exact hp  _   hIw_15v171 
                · replace c439 := c_eq tx2_1v125 lit_40 c439
                  obtain ⟨z444, t445, f446⟩ := t_add tx1 lit_1
                  first | replace f446 := f446 (by omega) | clear f446
                  refine hqX6_readPart _ _ _ _ _ _ lit_0 t445 hIw_10v168 (by omega) (by omega) (by omega) (fun  w_16v172   hIw_16v172  => ?_)
                  refine sX6_expect   (hI := hIw_16v172) (tx1 := lit_41)  (hp := fun  w_17v173   hIw_17v173  => ?_)
                  exact hp  _   hIw_17v173 
              · replace c438 := c_nlt t437 lit_90 c438
                refine sX6_fail   (hI := hI) (tx1 := lit_2) (h0 := (by omega)) (hp := fun  w_18v174   hIw_18v174 p447 => ?_)
                obtain ⟨z448, t449⟩ := t_any (w_18v174.1 30 2)
                have f450 := c_neq t449 lit_0 p447
                exact hp  _   hIw_18v174 
      · replace c418 := c_eq tx2_1v125 lit_40 c418
        refine ⟨fun c451 => ?_, fun c451 => ?_⟩
        · replace c451 := c_lt tx1 lit_7 c451
          unfold pX6_readUnit_56
          unfold pX6_readUnit_57
          refine ⟨fun c452 => ?_, fun c452 => ?_⟩
          · replace c452 := c_eq lit_1 lit_0 c452
            refine sX6_fail   (hI := hI) (tx1 := lit_2) (h0 := (by omega)) (hp := fun  w_2v175   hIw_2v175 p453 => ?_)
            obtain ⟨z454, t455⟩ := t_any (w_2v175.1 30 2)
            have f456 := c_neq t455 lit_0 p453
            exact hp  _   hIw_2v175 
          · replace c452 := c_neq lit_1 lit_0 c452
            refine ⟨fun c457 => ?_, fun c457 => ?_⟩
            · replace c457 := c_neq lit_0 lit_0 c457
              refine sX6_fail   (hI := hI) (tx1 := lit_2) (h0 := (by omega)) (hp := fun  w_4v176   hIw_4v176 p458 => ?_)
              obtain ⟨z459, t460⟩ := t_any (w_4v176.1 30 2)
              have f461 := c_neq t460 lit_0 p458
              exact hp  _   hIw_4v176 
            · replace c457 := c_eq lit_0 lit_0 c457
              obtain ⟨z462, t463⟩ := t_any (w.1 30 8)
              refine ⟨fun c464 => ?_, fun c464 => ?_⟩
              · replace c464 := c_le lit_30 t463 c464
                refine sX6_fail   (hI := hI) (tx1 := lit_2) (h0 := (by omega)) (hp := fun  w_6v177   hIw_6v177 p465 => ?_)
                obtain ⟨z466, t467⟩ := t_any (w_6v177.1 30 2)
                have f468 := c_neq t467 lit_0 p465
                exact hp  _   hIw_6v177 
              · replace c464 := c_nle lit_30 t463 c464
                obtain ⟨z469, t470⟩ := t_any (w.1 (rl (w.2.2.2.2 2)) 5)
                refine ⟨fun c471 => ?_, fun c471 => ?_⟩
                · replace c471 := c_lt t470 lit_90 c471
                  intro w_8v178 ew_8v178
                  have hIw_8v178 := ixs_n hI ew_8v178 (by unfold nX; omega)
                  intro w_9v179 ew_9v179
                  have hIw_9v179 := ixs_n hIw_8v178 ew_9v179 (by have q := rl_or (w_8v178.2.2.2.2 2); unfold nX; omega)
                  refine sX6_take   (hI := hIw_9v179)   (hp := fun  w_10v180   hIw_10v180  => ?_)
                  refine ⟨fun c472 => ?_, fun c472 => ?_⟩
                  · replace c472 := c_neq tx2_1v125 lit_40 c472
                    refine ⟨fun c473 => ?_, fun c473 => ?_⟩
                    · replace c473 := c_neq tx2_1v125 lit_21 c473
                      refine sX7_addCode   (hI := hIw_10v180) (tx1 := tx2_1v125)  (hp := fun  w_13v181   hIw_13v181  => ?_)
                      refine sX7_addUse   (hI := hIw_13v181) (tx1 := tx2_1v125)  (hp := fun  w_14v182   hIw_14v182  => ?_)
                      exact hp  _   hIw_14v182 
                    · replace c473 := c_eq tx2_1v125 lit_21 c473
                      obtain ⟨z474, t475, f476⟩ := t_add lit_128 tx3_2v126
                      first | replace f476 := f476 (by omega) | clear f476
                      refine sX7_addCode   (hI := hIw_10v180) (tx1 := t475)  (hp := fun  w_15v183   hIw_15v183  => ?_)
                      exact hp  _   hIw_15v183 
                  · replace c472 := c_eq tx2_1v125 lit_40 c472
                    obtain ⟨z477, t478, f479⟩ := t_add tx1 lit_1
                    first | replace f479 := f479 (by omega) | clear f479
                    refine hqX6_readPart _ _ _ _ _ _ lit_0 t478 hIw_10v180 (by omega) (by omega) (by omega) (fun  w_16v184   hIw_16v184  => ?_)
                    refine sX6_expect   (hI := hIw_16v184) (tx1 := lit_41)  (hp := fun  w_17v185   hIw_17v185  => ?_)
                    exact hp  _   hIw_17v185 
                · replace c471 := c_nlt t470 lit_90 c471
                  refine sX6_fail   (hI := hI) (tx1 := lit_2) (h0 := (by omega)) (hp := fun  w_18v186   hIw_18v186 p480 => ?_)
                  obtain ⟨z481, t482⟩ := t_any (w_18v186.1 30 2)
                  have f483 := c_neq t482 lit_0 p480
                  exact hp  _   hIw_18v186 
        · replace c451 := c_nlt tx1 lit_7 c451
          unfold pX6_readUnit_57
          refine ⟨fun c484 => ?_, fun c484 => ?_⟩
          · replace c484 := c_eq lit_1 lit_0 c484
            refine sX6_fail   (hI := hI) (tx1 := lit_2) (h0 := (by omega)) (hp := fun  w_2v187   hIw_2v187 p485 => ?_)
            obtain ⟨z486, t487⟩ := t_any (w_2v187.1 30 2)
            have f488 := c_neq t487 lit_0 p485
            exact hp  _   hIw_2v187 
          · replace c484 := c_neq lit_1 lit_0 c484
            refine ⟨fun c489 => ?_, fun c489 => ?_⟩
            · replace c489 := c_neq lit_1 lit_0 c489
              refine sX6_fail   (hI := hI) (tx1 := lit_2) (h0 := (by omega)) (hp := fun  w_4v188   hIw_4v188 p490 => ?_)
              obtain ⟨z491, t492⟩ := t_any (w_4v188.1 30 2)
              have f493 := c_neq t492 lit_0 p490
              exact hp  _   hIw_4v188 
            · replace c489 := c_eq lit_1 lit_0 c489
              obtain ⟨z494, t495⟩ := t_any (w.1 30 8)
              refine ⟨fun c496 => ?_, fun c496 => ?_⟩
              · replace c496 := c_le lit_30 t495 c496
                refine sX6_fail   (hI := hI) (tx1 := lit_2) (h0 := (by omega)) (hp := fun  w_6v189   hIw_6v189 p497 => ?_)
                obtain ⟨z498, t499⟩ := t_any (w_6v189.1 30 2)
                have f500 := c_neq t499 lit_0 p497
                exact hp  _   hIw_6v189 
              · replace c496 := c_nle lit_30 t495 c496
                obtain ⟨z501, t502⟩ := t_any (w.1 (rl (w.2.2.2.2 2)) 5)
                refine ⟨fun c503 => ?_, fun c503 => ?_⟩
                · replace c503 := c_lt t502 lit_90 c503
                  intro w_8v190 ew_8v190
                  have hIw_8v190 := ixs_n hI ew_8v190 (by unfold nX; omega)
                  intro w_9v191 ew_9v191
                  have hIw_9v191 := ixs_n hIw_8v190 ew_9v191 (by have q := rl_or (w_8v190.2.2.2.2 2); unfold nX; omega)
                  refine sX6_take   (hI := hIw_9v191)   (hp := fun  w_10v192   hIw_10v192  => ?_)
                  refine ⟨fun c504 => ?_, fun c504 => ?_⟩
                  · replace c504 := c_neq tx2_1v125 lit_40 c504
                    refine ⟨fun c505 => ?_, fun c505 => ?_⟩
                    · replace c505 := c_neq tx2_1v125 lit_21 c505
                      refine sX7_addCode   (hI := hIw_10v192) (tx1 := tx2_1v125)  (hp := fun  w_13v193   hIw_13v193  => ?_)
                      refine sX7_addUse   (hI := hIw_13v193) (tx1 := tx2_1v125)  (hp := fun  w_14v194   hIw_14v194  => ?_)
                      exact hp  _   hIw_14v194 
                    · replace c505 := c_eq tx2_1v125 lit_21 c505
                      obtain ⟨z506, t507, f508⟩ := t_add lit_128 tx3_2v126
                      first | replace f508 := f508 (by omega) | clear f508
                      refine sX7_addCode   (hI := hIw_10v192) (tx1 := t507)  (hp := fun  w_15v195   hIw_15v195  => ?_)
                      exact hp  _   hIw_15v195 
                  · replace c504 := c_eq tx2_1v125 lit_40 c504
                    obtain ⟨z509, t510, f511⟩ := t_add tx1 lit_1
                    first | replace f511 := f511 (by omega) | clear f511
                    refine hqX6_readPart _ _ _ _ _ _ lit_0 t510 hIw_10v192 (by omega) (by omega) (by omega) (fun  w_16v196   hIw_16v196  => ?_)
                    refine sX6_expect   (hI := hIw_16v196) (tx1 := lit_41)  (hp := fun  w_17v197   hIw_17v197  => ?_)
                    exact hp  _   hIw_17v197 
                · replace c503 := c_nlt t502 lit_90 c503
                  refine sX6_fail   (hI := hI) (tx1 := lit_2) (h0 := (by omega)) (hp := fun  w_18v198   hIw_18v198 p512 => ?_)
                  obtain ⟨z513, t514⟩ := t_any (w_18v198.1 30 2)
                  have f515 := c_neq t514 lit_0 p512
                  exact hp  _   hIw_18v198 
    · replace c417 := c_neq tx2_1v125 lit_40 c417
      refine ⟨fun c516 => ?_, fun c516 => ?_⟩
      · replace c516 := c_lt tx2_1v125 lit_0 c516
        unfold pX6_readUnit_37
        unfold pX6_readUnit_38
        refine ⟨fun c517 => ?_, fun c517 => ?_⟩
        · replace c517 := c_neq tx2_1v125 lit_40 c517
          unfold pX6_readUnit_56
          unfold pX6_readUnit_57
          refine ⟨fun c518 => ?_, fun c518 => ?_⟩
          · replace c518 := c_eq lit_0 lit_0 c518
            refine sX6_fail   (hI := hI) (tx1 := lit_2) (h0 := (by omega)) (hp := fun  w_2v199   hIw_2v199 p519 => ?_)
            obtain ⟨z520, t521⟩ := t_any (w_2v199.1 30 2)
            have f522 := c_neq t521 lit_0 p519
            exact hp  _   hIw_2v199 
          · replace c518 := c_neq lit_0 lit_0 c518
            refine ⟨fun c523 => ?_, fun c523 => ?_⟩
            · replace c523 := c_neq lit_0 lit_0 c523
              refine sX6_fail   (hI := hI) (tx1 := lit_2) (h0 := (by omega)) (hp := fun  w_4v200   hIw_4v200 p524 => ?_)
              obtain ⟨z525, t526⟩ := t_any (w_4v200.1 30 2)
              have f527 := c_neq t526 lit_0 p524
              exact hp  _   hIw_4v200 
            · replace c523 := c_eq lit_0 lit_0 c523
              obtain ⟨z528, t529⟩ := t_any (w.1 30 8)
              refine ⟨fun c530 => ?_, fun c530 => ?_⟩
              · replace c530 := c_le lit_30 t529 c530
                refine sX6_fail   (hI := hI) (tx1 := lit_2) (h0 := (by omega)) (hp := fun  w_6v201   hIw_6v201 p531 => ?_)
                obtain ⟨z532, t533⟩ := t_any (w_6v201.1 30 2)
                have f534 := c_neq t533 lit_0 p531
                exact hp  _   hIw_6v201 
              · replace c530 := c_nle lit_30 t529 c530
                obtain ⟨z535, t536⟩ := t_any (w.1 (rl (w.2.2.2.2 2)) 5)
                refine ⟨fun c537 => ?_, fun c537 => ?_⟩
                · replace c537 := c_lt t536 lit_90 c537
                  intro w_8v202 ew_8v202
                  have hIw_8v202 := ixs_n hI ew_8v202 (by unfold nX; omega)
                  intro w_9v203 ew_9v203
                  have hIw_9v203 := ixs_n hIw_8v202 ew_9v203 (by have q := rl_or (w_8v202.2.2.2.2 2); unfold nX; omega)
                  refine sX6_take   (hI := hIw_9v203)   (hp := fun  w_10v204   hIw_10v204  => ?_)
                  refine ⟨fun c538 => ?_, fun c538 => ?_⟩
                  · replace c538 := c_neq tx2_1v125 lit_40 c538
                    refine ⟨fun c539 => ?_, fun c539 => ?_⟩
                    · replace c539 := c_neq tx2_1v125 lit_21 c539
                      refine sX7_addCode   (hI := hIw_10v204) (tx1 := tx2_1v125)  (hp := fun  w_13v205   hIw_13v205  => ?_)
                      refine sX7_addUse   (hI := hIw_13v205) (tx1 := tx2_1v125)  (hp := fun  w_14v206   hIw_14v206  => ?_)
                      exact hp  _   hIw_14v206 
                    · replace c539 := c_eq tx2_1v125 lit_21 c539
                      obtain ⟨z540, t541, f542⟩ := t_add lit_128 tx3_2v126
                      first | replace f542 := f542 (by omega) | clear f542
                      refine sX7_addCode   (hI := hIw_10v204) (tx1 := t541)  (hp := fun  w_15v207   hIw_15v207  => ?_)
                      exact hp  _   hIw_15v207 
                  · replace c538 := c_eq tx2_1v125 lit_40 c538
                    obtain ⟨z543, t544, f545⟩ := t_add tx1 lit_1
                    first | replace f545 := f545 (by omega) | clear f545
                    refine hqX6_readPart _ _ _ _ _ _ lit_0 t544 hIw_10v204 (by omega) (by omega) (by omega) (fun  w_16v208   hIw_16v208  => ?_)
                    refine sX6_expect   (hI := hIw_16v208) (tx1 := lit_41)  (hp := fun  w_17v209   hIw_17v209  => ?_)
                    exact hp  _   hIw_17v209 
                · replace c537 := c_nlt t536 lit_90 c537
                  refine sX6_fail   (hI := hI) (tx1 := lit_2) (h0 := (by omega)) (hp := fun  w_18v210   hIw_18v210 p546 => ?_)
                  obtain ⟨z547, t548⟩ := t_any (w_18v210.1 30 2)
                  have f549 := c_neq t548 lit_0 p546
                  exact hp  _   hIw_18v210 
        · replace c517 := c_eq tx2_1v125 lit_40 c517
          refine ⟨fun c550 => ?_, fun c550 => ?_⟩
          · replace c550 := c_lt tx1 lit_7 c550
            unfold pX6_readUnit_56
            unfold pX6_readUnit_57
            refine ⟨fun c551 => ?_, fun c551 => ?_⟩
            · replace c551 := c_eq lit_0 lit_0 c551
              refine sX6_fail   (hI := hI) (tx1 := lit_2) (h0 := (by omega)) (hp := fun  w_2v211   hIw_2v211 p552 => ?_)
              obtain ⟨z553, t554⟩ := t_any (w_2v211.1 30 2)
              have f555 := c_neq t554 lit_0 p552
              exact hp  _   hIw_2v211 
            · replace c551 := c_neq lit_0 lit_0 c551
              refine ⟨fun c556 => ?_, fun c556 => ?_⟩
              · replace c556 := c_neq lit_0 lit_0 c556
                refine sX6_fail   (hI := hI) (tx1 := lit_2) (h0 := (by omega)) (hp := fun  w_4v212   hIw_4v212 p557 => ?_)
                obtain ⟨z558, t559⟩ := t_any (w_4v212.1 30 2)
                have f560 := c_neq t559 lit_0 p557
                exact hp  _   hIw_4v212 
              · replace c556 := c_eq lit_0 lit_0 c556
                obtain ⟨z561, t562⟩ := t_any (w.1 30 8)
                refine ⟨fun c563 => ?_, fun c563 => ?_⟩
                · replace c563 := c_le lit_30 t562 c563
                  refine sX6_fail   (hI := hI) (tx1 := lit_2) (h0 := (by omega)) (hp := fun  w_6v213   hIw_6v213 p564 => ?_)
                  obtain ⟨z565, t566⟩ := t_any (w_6v213.1 30 2)
                  have f567 := c_neq t566 lit_0 p564
                  exact hp  _   hIw_6v213 
                · replace c563 := c_nle lit_30 t562 c563
                  obtain ⟨z568, t569⟩ := t_any (w.1 (rl (w.2.2.2.2 2)) 5)
                  refine ⟨fun c570 => ?_, fun c570 => ?_⟩
                  · replace c570 := c_lt t569 lit_90 c570
                    intro w_8v214 ew_8v214
                    have hIw_8v214 := ixs_n hI ew_8v214 (by unfold nX; omega)
                    intro w_9v215 ew_9v215
                    have hIw_9v215 := ixs_n hIw_8v214 ew_9v215 (by have q := rl_or (w_8v214.2.2.2.2 2); unfold nX; omega)
                    refine sX6_take   (hI := hIw_9v215)   (hp := fun  w_10v216   hIw_10v216  => ?_)
                    refine ⟨fun c571 => ?_, fun c571 => ?_⟩
                    · replace c571 := c_neq tx2_1v125 lit_40 c571
                      refine ⟨fun c572 => ?_, fun c572 => ?_⟩
                      · replace c572 := c_neq tx2_1v125 lit_21 c572
                        refine sX7_addCode   (hI := hIw_10v216) (tx1 := tx2_1v125)  (hp := fun  w_13v217   hIw_13v217  => ?_)
                        refine sX7_addUse   (hI := hIw_13v217) (tx1 := tx2_1v125)  (hp := fun  w_14v218   hIw_14v218  => ?_)
                        exact hp  _   hIw_14v218 
                      · replace c572 := c_eq tx2_1v125 lit_21 c572
                        obtain ⟨z573, t574, f575⟩ := t_add lit_128 tx3_2v126
                        first | replace f575 := f575 (by omega) | clear f575
                        refine sX7_addCode   (hI := hIw_10v216) (tx1 := t574)  (hp := fun  w_15v219   hIw_15v219  => ?_)
                        exact hp  _   hIw_15v219 
                    · replace c571 := c_eq tx2_1v125 lit_40 c571
                      obtain ⟨z576, t577, f578⟩ := t_add tx1 lit_1
                      first | replace f578 := f578 (by omega) | clear f578
                      refine hqX6_readPart _ _ _ _ _ _ lit_0 t577 hIw_10v216 (by omega) (by omega) (by omega) (fun  w_16v220   hIw_16v220  => ?_)
                      refine sX6_expect   (hI := hIw_16v220) (tx1 := lit_41)  (hp := fun  w_17v221   hIw_17v221  => ?_)
                      exact hp  _   hIw_17v221 
                  · replace c570 := c_nlt t569 lit_90 c570
                    refine sX6_fail   (hI := hI) (tx1 := lit_2) (h0 := (by omega)) (hp := fun  w_18v222   hIw_18v222 p579 => ?_)
                    obtain ⟨z580, t581⟩ := t_any (w_18v222.1 30 2)
                    have f582 := c_neq t581 lit_0 p579
                    exact hp  _   hIw_18v222 
          · replace c550 := c_nlt tx1 lit_7 c550
            unfold pX6_readUnit_57
            refine ⟨fun c583 => ?_, fun c583 => ?_⟩
            · replace c583 := c_eq lit_0 lit_0 c583
              refine sX6_fail   (hI := hI) (tx1 := lit_2) (h0 := (by omega)) (hp := fun  w_2v223   hIw_2v223 p584 => ?_)
              obtain ⟨z585, t586⟩ := t_any (w_2v223.1 30 2)
              have f587 := c_neq t586 lit_0 p584
              exact hp  _   hIw_2v223 
            · replace c583 := c_neq lit_0 lit_0 c583
              refine ⟨fun c588 => ?_, fun c588 => ?_⟩
              · replace c588 := c_neq lit_1 lit_0 c588
                refine sX6_fail   (hI := hI) (tx1 := lit_2) (h0 := (by omega)) (hp := fun  w_4v224   hIw_4v224 p589 => ?_)
                obtain ⟨z590, t591⟩ := t_any (w_4v224.1 30 2)
                have f592 := c_neq t591 lit_0 p589
                exact hp  _   hIw_4v224 
              · replace c588 := c_eq lit_1 lit_0 c588
                obtain ⟨z593, t594⟩ := t_any (w.1 30 8)
                refine ⟨fun c595 => ?_, fun c595 => ?_⟩
                · replace c595 := c_le lit_30 t594 c595
                  refine sX6_fail   (hI := hI) (tx1 := lit_2) (h0 := (by omega)) (hp := fun  w_6v225   hIw_6v225 p596 => ?_)
                  obtain ⟨z597, t598⟩ := t_any (w_6v225.1 30 2)
                  have f599 := c_neq t598 lit_0 p596
                  exact hp  _   hIw_6v225 
                · replace c595 := c_nle lit_30 t594 c595
                  obtain ⟨z600, t601⟩ := t_any (w.1 (rl (w.2.2.2.2 2)) 5)
                  refine ⟨fun c602 => ?_, fun c602 => ?_⟩
                  · replace c602 := c_lt t601 lit_90 c602
                    intro w_8v226 ew_8v226
                    have hIw_8v226 := ixs_n hI ew_8v226 (by unfold nX; omega)
                    intro w_9v227 ew_9v227
                    have hIw_9v227 := ixs_n hIw_8v226 ew_9v227 (by have q := rl_or (w_8v226.2.2.2.2 2); unfold nX; omega)
                    refine sX6_take   (hI := hIw_9v227)   (hp := fun  w_10v228   hIw_10v228  => ?_)
                    refine ⟨fun c603 => ?_, fun c603 => ?_⟩
                    · replace c603 := c_neq tx2_1v125 lit_40 c603
                      refine ⟨fun c604 => ?_, fun c604 => ?_⟩
                      · replace c604 := c_neq tx2_1v125 lit_21 c604
                        refine sX7_addCode   (hI := hIw_10v228) (tx1 := tx2_1v125)  (hp := fun  w_13v229   hIw_13v229  => ?_)
                        refine sX7_addUse   (hI := hIw_13v229) (tx1 := tx2_1v125)  (hp := fun  w_14v230   hIw_14v230  => ?_)
                        exact hp  _   hIw_14v230 
                      · replace c604 := c_eq tx2_1v125 lit_21 c604
                        obtain ⟨z605, t606, f607⟩ := t_add lit_128 tx3_2v126
                        first | replace f607 := f607 (by omega) | clear f607
                        refine sX7_addCode   (hI := hIw_10v228) (tx1 := t606)  (hp := fun  w_15v231   hIw_15v231  => ?_)
                        exact hp  _   hIw_15v231 
                    · replace c603 := c_eq tx2_1v125 lit_40 c603
                      obtain ⟨z608, t609, f610⟩ := t_add tx1 lit_1
                      first | replace f610 := f610 (by omega) | clear f610
                      refine hqX6_readPart _ _ _ _ _ _ lit_0 t609 hIw_10v228 (by omega) (by omega) (by omega) (fun  w_16v232   hIw_16v232  => ?_)
                      refine sX6_expect   (hI := hIw_16v232) (tx1 := lit_41)  (hp := fun  w_17v233   hIw_17v233  => ?_)
                      exact hp  _   hIw_17v233 
                  · replace c602 := c_nlt t601 lit_90 c602
                    refine sX6_fail   (hI := hI) (tx1 := lit_2) (h0 := (by omega)) (hp := fun  w_18v234   hIw_18v234 p611 => ?_)
                    obtain ⟨z612, t613⟩ := t_any (w_18v234.1 30 2)
                    have f614 := c_neq t613 lit_0 p611
                    exact hp  _   hIw_18v234 
      · replace c516 := c_nlt tx2_1v125 lit_0 c516
        refine ⟨fun c615 => ?_, fun c615 => ?_⟩
        · replace c615 := c_le lit_8 tx2_1v125 c615
          unfold pX6_readUnit_37
          unfold pX6_readUnit_38
          refine ⟨fun c616 => ?_, fun c616 => ?_⟩
          · replace c616 := c_neq tx2_1v125 lit_40 c616
            unfold pX6_readUnit_56
            unfold pX6_readUnit_57
            refine ⟨fun c617 => ?_, fun c617 => ?_⟩
            · replace c617 := c_eq lit_0 lit_0 c617
              refine sX6_fail   (hI := hI) (tx1 := lit_2) (h0 := (by omega)) (hp := fun  w_2v235   hIw_2v235 p618 => ?_)
              obtain ⟨z619, t620⟩ := t_any (w_2v235.1 30 2)
              have f621 := c_neq t620 lit_0 p618
              exact hp  _   hIw_2v235 
            · replace c617 := c_neq lit_0 lit_0 c617
              refine ⟨fun c622 => ?_, fun c622 => ?_⟩
              · replace c622 := c_neq lit_0 lit_0 c622
                refine sX6_fail   (hI := hI) (tx1 := lit_2) (h0 := (by omega)) (hp := fun  w_4v236   hIw_4v236 p623 => ?_)
                obtain ⟨z624, t625⟩ := t_any (w_4v236.1 30 2)
                have f626 := c_neq t625 lit_0 p623
                exact hp  _   hIw_4v236 
              · replace c622 := c_eq lit_0 lit_0 c622
                obtain ⟨z627, t628⟩ := t_any (w.1 30 8)
                refine ⟨fun c629 => ?_, fun c629 => ?_⟩
                · replace c629 := c_le lit_30 t628 c629
                  refine sX6_fail   (hI := hI) (tx1 := lit_2) (h0 := (by omega)) (hp := fun  w_6v237   hIw_6v237 p630 => ?_)
                  obtain ⟨z631, t632⟩ := t_any (w_6v237.1 30 2)
                  have f633 := c_neq t632 lit_0 p630
                  exact hp  _   hIw_6v237 
                · replace c629 := c_nle lit_30 t628 c629
                  obtain ⟨z634, t635⟩ := t_any (w.1 (rl (w.2.2.2.2 2)) 5)
                  refine ⟨fun c636 => ?_, fun c636 => ?_⟩
                  · replace c636 := c_lt t635 lit_90 c636
                    intro w_8v238 ew_8v238
                    have hIw_8v238 := ixs_n hI ew_8v238 (by unfold nX; omega)
                    intro w_9v239 ew_9v239
                    have hIw_9v239 := ixs_n hIw_8v238 ew_9v239 (by have q := rl_or (w_8v238.2.2.2.2 2); unfold nX; omega)
                    refine sX6_take   (hI := hIw_9v239)   (hp := fun  w_10v240   hIw_10v240  => ?_)
                    refine ⟨fun c637 => ?_, fun c637 => ?_⟩
                    · replace c637 := c_neq tx2_1v125 lit_40 c637
                      refine ⟨fun c638 => ?_, fun c638 => ?_⟩
                      · replace c638 := c_neq tx2_1v125 lit_21 c638
                        refine sX7_addCode   (hI := hIw_10v240) (tx1 := tx2_1v125)  (hp := fun  w_13v241   hIw_13v241  => ?_)
                        refine sX7_addUse   (hI := hIw_13v241) (tx1 := tx2_1v125)  (hp := fun  w_14v242   hIw_14v242  => ?_)
                        exact hp  _   hIw_14v242 
                      · replace c638 := c_eq tx2_1v125 lit_21 c638
                        obtain ⟨z639, t640, f641⟩ := t_add lit_128 tx3_2v126
                        first | replace f641 := f641 (by omega) | clear f641
                        refine sX7_addCode   (hI := hIw_10v240) (tx1 := t640)  (hp := fun  w_15v243   hIw_15v243  => ?_)
                        exact hp  _   hIw_15v243 
                    · replace c637 := c_eq tx2_1v125 lit_40 c637
                      obtain ⟨z642, t643, f644⟩ := t_add tx1 lit_1
                      first | replace f644 := f644 (by omega) | clear f644
                      refine hqX6_readPart _ _ _ _ _ _ lit_0 t643 hIw_10v240 (by omega) (by omega) (by omega) (fun  w_16v244   hIw_16v244  => ?_)
                      refine sX6_expect   (hI := hIw_16v244) (tx1 := lit_41)  (hp := fun  w_17v245   hIw_17v245  => ?_)
                      exact hp  _   hIw_17v245 
                  · replace c636 := c_nlt t635 lit_90 c636
                    refine sX6_fail   (hI := hI) (tx1 := lit_2) (h0 := (by omega)) (hp := fun  w_18v246   hIw_18v246 p645 => ?_)
                    obtain ⟨z646, t647⟩ := t_any (w_18v246.1 30 2)
                    have f648 := c_neq t647 lit_0 p645
                    exact hp  _   hIw_18v246 
          · replace c616 := c_eq tx2_1v125 lit_40 c616
            refine ⟨fun c649 => ?_, fun c649 => ?_⟩
            · replace c649 := c_lt tx1 lit_7 c649
              unfold pX6_readUnit_56
              unfold pX6_readUnit_57
              refine ⟨fun c650 => ?_, fun c650 => ?_⟩
              · replace c650 := c_eq lit_0 lit_0 c650
                refine sX6_fail   (hI := hI) (tx1 := lit_2) (h0 := (by omega)) (hp := fun  w_2v247   hIw_2v247 p651 => ?_)
                obtain ⟨z652, t653⟩ := t_any (w_2v247.1 30 2)
                have f654 := c_neq t653 lit_0 p651
                exact hp  _   hIw_2v247 
              · replace c650 := c_neq lit_0 lit_0 c650
                refine ⟨fun c655 => ?_, fun c655 => ?_⟩
                · replace c655 := c_neq lit_0 lit_0 c655
                  refine sX6_fail   (hI := hI) (tx1 := lit_2) (h0 := (by omega)) (hp := fun  w_4v248   hIw_4v248 p656 => ?_)
                  obtain ⟨z657, t658⟩ := t_any (w_4v248.1 30 2)
                  have f659 := c_neq t658 lit_0 p656
                  exact hp  _   hIw_4v248 
                · replace c655 := c_eq lit_0 lit_0 c655
                  obtain ⟨z660, t661⟩ := t_any (w.1 30 8)
                  refine ⟨fun c662 => ?_, fun c662 => ?_⟩
                  · replace c662 := c_le lit_30 t661 c662
                    refine sX6_fail   (hI := hI) (tx1 := lit_2) (h0 := (by omega)) (hp := fun  w_6v249   hIw_6v249 p663 => ?_)
                    obtain ⟨z664, t665⟩ := t_any (w_6v249.1 30 2)
                    have f666 := c_neq t665 lit_0 p663
                    exact hp  _   hIw_6v249 
                  · replace c662 := c_nle lit_30 t661 c662
                    obtain ⟨z667, t668⟩ := t_any (w.1 (rl (w.2.2.2.2 2)) 5)
                    refine ⟨fun c669 => ?_, fun c669 => ?_⟩
                    · replace c669 := c_lt t668 lit_90 c669
                      intro w_8v250 ew_8v250
                      have hIw_8v250 := ixs_n hI ew_8v250 (by unfold nX; omega)
                      intro w_9v251 ew_9v251
                      have hIw_9v251 := ixs_n hIw_8v250 ew_9v251 (by have q := rl_or (w_8v250.2.2.2.2 2); unfold nX; omega)
                      refine sX6_take   (hI := hIw_9v251)   (hp := fun  w_10v252   hIw_10v252  => ?_)
                      refine ⟨fun c670 => ?_, fun c670 => ?_⟩
                      · replace c670 := c_neq tx2_1v125 lit_40 c670
                        refine ⟨fun c671 => ?_, fun c671 => ?_⟩
                        · replace c671 := c_neq tx2_1v125 lit_21 c671
                          refine sX7_addCode   (hI := hIw_10v252) (tx1 := tx2_1v125)  (hp := fun  w_13v253   hIw_13v253  => ?_)
                          refine sX7_addUse   (hI := hIw_13v253) (tx1 := tx2_1v125)  (hp := fun  w_14v254   hIw_14v254  => ?_)
                          exact hp  _   hIw_14v254 
                        · replace c671 := c_eq tx2_1v125 lit_21 c671
                          obtain ⟨z672, t673, f674⟩ := t_add lit_128 tx3_2v126
                          first | replace f674 := f674 (by omega) | clear f674
                          refine sX7_addCode   (hI := hIw_10v252) (tx1 := t673)  (hp := fun  w_15v255   hIw_15v255  => ?_)
                          exact hp  _   hIw_15v255 
                      · replace c670 := c_eq tx2_1v125 lit_40 c670
                        obtain ⟨z675, t676, f677⟩ := t_add tx1 lit_1
                        first | replace f677 := f677 (by omega) | clear f677
                        refine hqX6_readPart _ _ _ _ _ _ lit_0 t676 hIw_10v252 (by omega) (by omega) (by omega) (fun  w_16v256   hIw_16v256  => ?_)
                        refine sX6_expect   (hI := hIw_16v256) (tx1 := lit_41)  (hp := fun  w_17v257   hIw_17v257  => ?_)
                        exact hp  _   hIw_17v257 
                    · replace c669 := c_nlt t668 lit_90 c669
                      refine sX6_fail   (hI := hI) (tx1 := lit_2) (h0 := (by omega)) (hp := fun  w_18v258   hIw_18v258 p678 => ?_)
                      obtain ⟨z679, t680⟩ := t_any (w_18v258.1 30 2)
                      have f681 := c_neq t680 lit_0 p678
                      exact hp  _   hIw_18v258 
            · replace c649 := c_nlt tx1 lit_7 c649
              unfold pX6_readUnit_57
              refine ⟨fun c682 => ?_, fun c682 => ?_⟩
              · replace c682 := c_eq lit_0 lit_0 c682
                refine sX6_fail   (hI := hI) (tx1 := lit_2) (h0 := (by omega)) (hp := fun  w_2v259   hIw_2v259 p683 => ?_)
                obtain ⟨z684, t685⟩ := t_any (w_2v259.1 30 2)
                have f686 := c_neq t685 lit_0 p683
                exact hp  _   hIw_2v259 
              · replace c682 := c_neq lit_0 lit_0 c682
                refine ⟨fun c687 => ?_, fun c687 => ?_⟩
                · replace c687 := c_neq lit_1 lit_0 c687
                  refine sX6_fail   (hI := hI) (tx1 := lit_2) (h0 := (by omega)) (hp := fun  w_4v260   hIw_4v260 p688 => ?_)
                  obtain ⟨z689, t690⟩ := t_any (w_4v260.1 30 2)
                  have f691 := c_neq t690 lit_0 p688
                  exact hp  _   hIw_4v260 
                · replace c687 := c_eq lit_1 lit_0 c687
                  obtain ⟨z692, t693⟩ := t_any (w.1 30 8)
                  refine ⟨fun c694 => ?_, fun c694 => ?_⟩
                  · replace c694 := c_le lit_30 t693 c694
                    refine sX6_fail   (hI := hI) (tx1 := lit_2) (h0 := (by omega)) (hp := fun  w_6v261   hIw_6v261 p695 => ?_)
                    obtain ⟨z696, t697⟩ := t_any (w_6v261.1 30 2)
                    have f698 := c_neq t697 lit_0 p695
                    exact hp  _   hIw_6v261 
                  · replace c694 := c_nle lit_30 t693 c694
                    obtain ⟨z699, t700⟩ := t_any (w.1 (rl (w.2.2.2.2 2)) 5)
                    refine ⟨fun c701 => ?_, fun c701 => ?_⟩
                    · replace c701 := c_lt t700 lit_90 c701
                      intro w_8v262 ew_8v262
                      have hIw_8v262 := ixs_n hI ew_8v262 (by unfold nX; omega)
                      intro w_9v263 ew_9v263
                      have hIw_9v263 := ixs_n hIw_8v262 ew_9v263 (by have q := rl_or (w_8v262.2.2.2.2 2); unfold nX; omega)
                      refine sX6_take   (hI := hIw_9v263)   (hp := fun  w_10v264   hIw_10v264  => ?_)
                      refine ⟨fun c702 => ?_, fun c702 => ?_⟩
                      · replace c702 := c_neq tx2_1v125 lit_40 c702
                        refine ⟨fun c703 => ?_, fun c703 => ?_⟩
                        · replace c703 := c_neq tx2_1v125 lit_21 c703
                          refine sX7_addCode   (hI := hIw_10v264) (tx1 := tx2_1v125)  (hp := fun  w_13v265   hIw_13v265  => ?_)
                          refine sX7_addUse   (hI := hIw_13v265) (tx1 := tx2_1v125)  (hp := fun  w_14v266   hIw_14v266  => ?_)
                          exact hp  _   hIw_14v266 
                        · replace c703 := c_eq tx2_1v125 lit_21 c703
                          obtain ⟨z704, t705, f706⟩ := t_add lit_128 tx3_2v126
                          first | replace f706 := f706 (by omega) | clear f706
                          refine sX7_addCode   (hI := hIw_10v264) (tx1 := t705)  (hp := fun  w_15v267   hIw_15v267  => ?_)
                          exact hp  _   hIw_15v267 
                      · replace c702 := c_eq tx2_1v125 lit_40 c702
                        obtain ⟨z707, t708, f709⟩ := t_add tx1 lit_1
                        first | replace f709 := f709 (by omega) | clear f709
                        refine hqX6_readPart _ _ _ _ _ _ lit_0 t708 hIw_10v264 (by omega) (by omega) (by omega) (fun  w_16v268   hIw_16v268  => ?_)
                        refine sX6_expect   (hI := hIw_16v268) (tx1 := lit_41)  (hp := fun  w_17v269   hIw_17v269  => ?_)
                        exact hp  _   hIw_17v269 
                    · replace c701 := c_nlt t700 lit_90 c701
                      refine sX6_fail   (hI := hI) (tx1 := lit_2) (h0 := (by omega)) (hp := fun  w_18v270   hIw_18v270 p710 => ?_)
                      obtain ⟨z711, t712⟩ := t_any (w_18v270.1 30 2)
                      have f713 := c_neq t712 lit_0 p710
                      exact hp  _   hIw_18v270 
        · replace c615 := c_nle lit_8 tx2_1v125 c615
          unfold pX6_readUnit_33
          unfold pX6_readUnit_38
          refine ⟨fun c714 => ?_, fun c714 => ?_⟩
          · replace c714 := c_neq tx2_1v125 lit_40 c714
            unfold pX6_readUnit_56
            unfold pX6_readUnit_57
            refine ⟨fun c715 => ?_, fun c715 => ?_⟩
            · replace c715 := c_eq lit_1 lit_0 c715
              refine sX6_fail   (hI := hI) (tx1 := lit_2) (h0 := (by omega)) (hp := fun  w_2v271   hIw_2v271 p716 => ?_)
              obtain ⟨z717, t718⟩ := t_any (w_2v271.1 30 2)
              have f719 := c_neq t718 lit_0 p716
              exact hp  _   hIw_2v271 
            · replace c715 := c_neq lit_1 lit_0 c715
              refine ⟨fun c720 => ?_, fun c720 => ?_⟩
              · replace c720 := c_neq lit_0 lit_0 c720
                refine sX6_fail   (hI := hI) (tx1 := lit_2) (h0 := (by omega)) (hp := fun  w_4v272   hIw_4v272 p721 => ?_)
                obtain ⟨z722, t723⟩ := t_any (w_4v272.1 30 2)
                have f724 := c_neq t723 lit_0 p721
                exact hp  _   hIw_4v272 
              · replace c720 := c_eq lit_0 lit_0 c720
                obtain ⟨z725, t726⟩ := t_any (w.1 30 8)
                refine ⟨fun c727 => ?_, fun c727 => ?_⟩
                · replace c727 := c_le lit_30 t726 c727
                  refine sX6_fail   (hI := hI) (tx1 := lit_2) (h0 := (by omega)) (hp := fun  w_6v273   hIw_6v273 p728 => ?_)
                  obtain ⟨z729, t730⟩ := t_any (w_6v273.1 30 2)
                  have f731 := c_neq t730 lit_0 p728
                  exact hp  _   hIw_6v273 
                · replace c727 := c_nle lit_30 t726 c727
                  obtain ⟨z732, t733⟩ := t_any (w.1 (rl (w.2.2.2.2 2)) 5)
                  refine ⟨fun c734 => ?_, fun c734 => ?_⟩
                  · replace c734 := c_lt t733 lit_90 c734
                    intro w_8v274 ew_8v274
                    have hIw_8v274 := ixs_n hI ew_8v274 (by unfold nX; omega)
                    intro w_9v275 ew_9v275
                    have hIw_9v275 := ixs_n hIw_8v274 ew_9v275 (by have q := rl_or (w_8v274.2.2.2.2 2); unfold nX; omega)
                    refine sX6_take   (hI := hIw_9v275)   (hp := fun  w_10v276   hIw_10v276  => ?_)
                    refine ⟨fun c735 => ?_, fun c735 => ?_⟩
                    · replace c735 := c_neq tx2_1v125 lit_40 c735
                      refine ⟨fun c736 => ?_, fun c736 => ?_⟩
                      · replace c736 := c_neq tx2_1v125 lit_21 c736
                        refine sX7_addCode   (hI := hIw_10v276) (tx1 := tx2_1v125)  (hp := fun  w_13v277   hIw_13v277  => ?_)
                        refine sX7_addUse   (hI := hIw_13v277) (tx1 := tx2_1v125)  (hp := fun  w_14v278   hIw_14v278  => ?_)
                        exact hp  _   hIw_14v278 
                      · replace c736 := c_eq tx2_1v125 lit_21 c736
                        obtain ⟨z737, t738, f739⟩ := t_add lit_128 tx3_2v126
                        first | replace f739 := f739 (by omega) | clear f739
                        refine sX7_addCode   (hI := hIw_10v276) (tx1 := t738)  (hp := fun  w_15v279   hIw_15v279  => ?_)
                        exact hp  _   hIw_15v279 
                    · replace c735 := c_eq tx2_1v125 lit_40 c735
                      obtain ⟨z740, t741, f742⟩ := t_add tx1 lit_1
                      first | replace f742 := f742 (by omega) | clear f742
                      refine hqX6_readPart _ _ _ _ _ _ lit_0 t741 hIw_10v276 (by omega) (by omega) (by omega) (fun  w_16v280   hIw_16v280  => ?_)
                      refine sX6_expect   (hI := hIw_16v280) (tx1 := lit_41)  (hp := fun  w_17v281   hIw_17v281  => ?_)
                      exact hp  _   hIw_17v281 
                  · replace c734 := c_nlt t733 lit_90 c734
                    refine sX6_fail   (hI := hI) (tx1 := lit_2) (h0 := (by omega)) (hp := fun  w_18v282   hIw_18v282 p743 => ?_)
                    obtain ⟨z744, t745⟩ := t_any (w_18v282.1 30 2)
                    have f746 := c_neq t745 lit_0 p743
                    exact hp  _   hIw_18v282 
          · replace c714 := c_eq tx2_1v125 lit_40 c714
            refine ⟨fun c747 => ?_, fun c747 => ?_⟩
            · replace c747 := c_lt tx1 lit_7 c747
              unfold pX6_readUnit_56
              unfold pX6_readUnit_57
              refine ⟨fun c748 => ?_, fun c748 => ?_⟩
              · replace c748 := c_eq lit_1 lit_0 c748
                refine sX6_fail   (hI := hI) (tx1 := lit_2) (h0 := (by omega)) (hp := fun  w_2v283   hIw_2v283 p749 => ?_)
                obtain ⟨z750, t751⟩ := t_any (w_2v283.1 30 2)
                have f752 := c_neq t751 lit_0 p749
                exact hp  _   hIw_2v283 
              · replace c748 := c_neq lit_1 lit_0 c748
                refine ⟨fun c753 => ?_, fun c753 => ?_⟩
                · replace c753 := c_neq lit_0 lit_0 c753
                  refine sX6_fail   (hI := hI) (tx1 := lit_2) (h0 := (by omega)) (hp := fun  w_4v284   hIw_4v284 p754 => ?_)
                  obtain ⟨z755, t756⟩ := t_any (w_4v284.1 30 2)
                  have f757 := c_neq t756 lit_0 p754
                  exact hp  _   hIw_4v284 
                · replace c753 := c_eq lit_0 lit_0 c753
                  obtain ⟨z758, t759⟩ := t_any (w.1 30 8)
                  refine ⟨fun c760 => ?_, fun c760 => ?_⟩
                  · replace c760 := c_le lit_30 t759 c760
                    refine sX6_fail   (hI := hI) (tx1 := lit_2) (h0 := (by omega)) (hp := fun  w_6v285   hIw_6v285 p761 => ?_)
                    obtain ⟨z762, t763⟩ := t_any (w_6v285.1 30 2)
                    have f764 := c_neq t763 lit_0 p761
                    exact hp  _   hIw_6v285 
                  · replace c760 := c_nle lit_30 t759 c760
                    obtain ⟨z765, t766⟩ := t_any (w.1 (rl (w.2.2.2.2 2)) 5)
                    refine ⟨fun c767 => ?_, fun c767 => ?_⟩
                    · replace c767 := c_lt t766 lit_90 c767
                      intro w_8v286 ew_8v286
                      have hIw_8v286 := ixs_n hI ew_8v286 (by unfold nX; omega)
                      intro w_9v287 ew_9v287
                      have hIw_9v287 := ixs_n hIw_8v286 ew_9v287 (by have q := rl_or (w_8v286.2.2.2.2 2); unfold nX; omega)
                      refine sX6_take   (hI := hIw_9v287)   (hp := fun  w_10v288   hIw_10v288  => ?_)
                      refine ⟨fun c768 => ?_, fun c768 => ?_⟩
                      · replace c768 := c_neq tx2_1v125 lit_40 c768
                        refine ⟨fun c769 => ?_, fun c769 => ?_⟩
                        · replace c769 := c_neq tx2_1v125 lit_21 c769
                          refine sX7_addCode   (hI := hIw_10v288) (tx1 := tx2_1v125)  (hp := fun  w_13v289   hIw_13v289  => ?_)
                          refine sX7_addUse   (hI := hIw_13v289) (tx1 := tx2_1v125)  (hp := fun  w_14v290   hIw_14v290  => ?_)
                          exact hp  _   hIw_14v290 
                        · replace c769 := c_eq tx2_1v125 lit_21 c769
                          obtain ⟨z770, t771, f772⟩ := t_add lit_128 tx3_2v126
                          first | replace f772 := f772 (by omega) | clear f772
                          refine sX7_addCode   (hI := hIw_10v288) (tx1 := t771)  (hp := fun  w_15v291   hIw_15v291  => ?_)
                          exact hp  _   hIw_15v291 
                      · replace c768 := c_eq tx2_1v125 lit_40 c768
                        obtain ⟨z773, t774, f775⟩ := t_add tx1 lit_1
                        first | replace f775 := f775 (by omega) | clear f775
                        refine hqX6_readPart _ _ _ _ _ _ lit_0 t774 hIw_10v288 (by omega) (by omega) (by omega) (fun  w_16v292   hIw_16v292  => ?_)
                        refine sX6_expect   (hI := hIw_16v292) (tx1 := lit_41)  (hp := fun  w_17v293   hIw_17v293  => ?_)
                        exact hp  _   hIw_17v293 
                    · replace c767 := c_nlt t766 lit_90 c767
                      refine sX6_fail   (hI := hI) (tx1 := lit_2) (h0 := (by omega)) (hp := fun  w_18v294   hIw_18v294 p776 => ?_)
                      obtain ⟨z777, t778⟩ := t_any (w_18v294.1 30 2)
                      have f779 := c_neq t778 lit_0 p776
                      exact hp  _   hIw_18v294 
            · replace c747 := c_nlt tx1 lit_7 c747
              unfold pX6_readUnit_57
              refine ⟨fun c780 => ?_, fun c780 => ?_⟩
              · replace c780 := c_eq lit_1 lit_0 c780
                refine sX6_fail   (hI := hI) (tx1 := lit_2) (h0 := (by omega)) (hp := fun  w_2v295   hIw_2v295 p781 => ?_)
                obtain ⟨z782, t783⟩ := t_any (w_2v295.1 30 2)
                have f784 := c_neq t783 lit_0 p781
                exact hp  _   hIw_2v295 
              · replace c780 := c_neq lit_1 lit_0 c780
                refine ⟨fun c785 => ?_, fun c785 => ?_⟩
                · replace c785 := c_neq lit_1 lit_0 c785
                  refine sX6_fail   (hI := hI) (tx1 := lit_2) (h0 := (by omega)) (hp := fun  w_4v296   hIw_4v296 p786 => ?_)
                  obtain ⟨z787, t788⟩ := t_any (w_4v296.1 30 2)
                  have f789 := c_neq t788 lit_0 p786
                  exact hp  _   hIw_4v296 
                · replace c785 := c_eq lit_1 lit_0 c785
                  obtain ⟨z790, t791⟩ := t_any (w.1 30 8)
                  refine ⟨fun c792 => ?_, fun c792 => ?_⟩
                  · replace c792 := c_le lit_30 t791 c792
                    refine sX6_fail   (hI := hI) (tx1 := lit_2) (h0 := (by omega)) (hp := fun  w_6v297   hIw_6v297 p793 => ?_)
                    obtain ⟨z794, t795⟩ := t_any (w_6v297.1 30 2)
                    have f796 := c_neq t795 lit_0 p793
                    exact hp  _   hIw_6v297 
                  · replace c792 := c_nle lit_30 t791 c792
                    obtain ⟨z797, t798⟩ := t_any (w.1 (rl (w.2.2.2.2 2)) 5)
                    refine ⟨fun c799 => ?_, fun c799 => ?_⟩
                    · replace c799 := c_lt t798 lit_90 c799
                      intro w_8v298 ew_8v298
                      have hIw_8v298 := ixs_n hI ew_8v298 (by unfold nX; omega)
                      intro w_9v299 ew_9v299
                      have hIw_9v299 := ixs_n hIw_8v298 ew_9v299 (by have q := rl_or (w_8v298.2.2.2.2 2); unfold nX; omega)
                      refine sX6_take   (hI := hIw_9v299)   (hp := fun  w_10v300   hIw_10v300  => ?_)
                      refine ⟨fun c800 => ?_, fun c800 => ?_⟩
                      · replace c800 := c_neq tx2_1v125 lit_40 c800
                        refine ⟨fun c801 => ?_, fun c801 => ?_⟩
                        · replace c801 := c_neq tx2_1v125 lit_21 c801
                          refine sX7_addCode   (hI := hIw_10v300) (tx1 := tx2_1v125)  (hp := fun  w_13v301   hIw_13v301  => ?_)
                          refine sX7_addUse   (hI := hIw_13v301) (tx1 := tx2_1v125)  (hp := fun  w_14v302   hIw_14v302  => ?_)
                          exact hp  _   hIw_14v302 
                        · replace c801 := c_eq tx2_1v125 lit_21 c801
                          obtain ⟨z802, t803, f804⟩ := t_add lit_128 tx3_2v126
                          first | replace f804 := f804 (by omega) | clear f804
                          refine sX7_addCode   (hI := hIw_10v300) (tx1 := t803)  (hp := fun  w_15v303   hIw_15v303  => ?_)
                          exact hp  _   hIw_15v303 
                      · replace c800 := c_eq tx2_1v125 lit_40 c800
                        obtain ⟨z805, t806, f807⟩ := t_add tx1 lit_1
                        first | replace f807 := f807 (by omega) | clear f807
                        refine hqX6_readPart _ _ _ _ _ _ lit_0 t806 hIw_10v300 (by omega) (by omega) (by omega) (fun  w_16v304   hIw_16v304  => ?_)
                        refine sX6_expect   (hI := hIw_16v304) (tx1 := lit_41)  (hp := fun  w_17v305   hIw_17v305  => ?_)
                        exact hp  _   hIw_17v305 
                    · replace c799 := c_nlt t798 lit_90 c799
                      refine sX6_fail   (hI := hI) (tx1 := lit_2) (h0 := (by omega)) (hp := fun  w_18v306   hIw_18v306 p808 => ?_)
                      obtain ⟨z809, t810⟩ := t_any (w_18v306.1 30 2)
                      have f811 := c_neq t810 lit_0 p808
                      exact hp  _   hIw_18v306 
theorem sd9X6_readPart {T D : Int} {k : Nat} : ∀ (d : Nat), (∀ (post : Wd → Prop) (x1 x2 : Int32) (zx1 zx2 : Int) (w : Wd), Ti x1 zx1 → Ti x2 zx2 → IX k T D w → (0 ≤ zx1 ∧ zx1 ≤ 5) → (0 ≤ zx2 ∧ zx2 ≤ 7) → (8 * (8 - zx2) + 6 - zx1) < (d : Int) → (∀ (w9 : Wd), IX k T D w9 → post w9) → (d9X6_readPart d).1 post x1 x2 w) ∧ (∀ (post : Wd → Prop) (x1 : Int32) (zx1 : Int) (w : Wd), Ti x1 zx1 → IX k T D w → (0 ≤ zx1 ∧ zx1 ≤ 7) → (8 * (8 - zx1)) < (d : Int) → (∀ (w9 : Wd), IX k T D w9 → post w9) → (d9X6_readPart d).2.1 post x1 w) ∧ (∀ (post : Wd → Prop) (x1 : Int32) (zx1 : Int) (w : Wd), Ti x1 zx1 → IX k T D w → (0 ≤ zx1 ∧ zx1 ≤ 7) → (8 * (8 - zx1)) < (d : Int) → (∀ (w9 : Wd), IX k T D w9 → post w9) → (d9X6_readPart d).2.2 post x1 w) := by
  intro d
  induction d with
  | zero =>
    refine ⟨?_, ?_, ?_⟩
    · intro post x1 x2 zx1 zx2 w tx1 tx2 hI h0 h1 hm hp
      exact absurd hm (by omega)
    · intro post x1 zx1 w tx1 hI h0 hm hp
      exact absurd hm (by omega)
    · intro post x1 zx1 w tx1 hI h0 hm hp
      exact absurd hm (by omega)
  | succ d ih =>
    obtain ⟨i1, i2, i3⟩ := ih
    refine ⟨?_, ?_, ?_⟩
    · intro post x1 x2 zx1 zx2 w tx1 tx2 hI h0 h1 hm hp
      show pX6_readPart (d9X6_readPart d).1 (d9X6_readPart d).2.1 (d9X6_readPart d).2.2 post x1 x2 w
      exact sX6_readPart (tx1 := tx1) (tx2 := tx2) (Mq := (d : Int)) (hqX6_readPart := i1) (hqX6_readNot := i2) (hqX6_readUnit := i3) (hI := hI) (h0 := h0) (h1 := h1) (h2 := (by omega)) (hp := hp)
    · intro post x1 zx1 w tx1 hI h0 hm hp
      show pX6_readNot (d9X6_readPart d).1 (d9X6_readPart d).2.1 (d9X6_readPart d).2.2 post x1 w
      exact sX6_readNot (tx1 := tx1) (Mq := (d : Int)) (hqX6_readPart := i1) (hqX6_readNot := i2) (hqX6_readUnit := i3) (hI := hI) (h0 := h0) (h1 := (by omega)) (hp := hp)
    · intro post x1 zx1 w tx1 hI h0 hm hp
      show pX6_readUnit (d9X6_readPart d).1 (d9X6_readPart d).2.1 (d9X6_readPart d).2.2 post x1 w
      exact sX6_readUnit (tx1 := tx1) (Mq := (d : Int)) (hqX6_readPart := i1) (hqX6_readNot := i2) (hqX6_readUnit := i3) (hI := hI) (h0 := h0) (h1 := (by omega)) (hp := hp)
theorem sdX6_readPart {T D : Int} {k d : Nat} {post : Wd → Prop} {x1 x2 : Int32} {zx1 zx2 : Int} {w : Wd} (tx1 : Ti x1 zx1) (tx2 : Ti x2 zx2) (hI : IX k T D w) (h0 : 0 ≤ zx1 ∧ zx1 ≤ 5) (h1 : 0 ≤ zx2 ∧ zx2 ≤ 7) (hm : (8 * (8 - zx2) + 6 - zx1) < (d : Int)) (hp : ∀ (w9 : Wd), IX k T D w9 → post w9) : dX6_readPart d post x1 x2 w := (sd9X6_readPart d).1 post x1 x2 _ _ w tx1 tx2 hI h0 h1 hm hp
set_option maxHeartbeats 4000000 in
set_option maxRecDepth 100000 in
theorem sX7_addHand {T D : Int} {k : Nat} {post : Wd → Prop} {b : Bool} {x1 : Int64} {w : Wd}   (hI : IX k T D w)  (hp : ∀ (w9 : Wd), IX k T D w9 → post w9) : pX7_addHand   post b x1 w := by
  unfold pX7_addHand
  have hk := ix_k hI
  obtain ⟨z812, t813⟩ := t_any (w.1 (rl b) 2)
  have f814 := ixg_r2 hI t813
  refine ⟨fun c815 => ?_, fun c815 => ?_⟩
  · replace c815 := c_lt t813 lit_0 c815
    exact hp  _   hI 
  · replace c815 := c_nlt t813 lit_0 c815
    refine ⟨fun c816 => ?_, fun c816 => ?_⟩
    · replace c816 := c_le lit_4 t813 c816
      exact hp  _   hI 
    · replace c816 := c_nle lit_4 t813 c816
      refine ⟨vp_of t813 (by omega) (by omega), ?_⟩
      intro w_3v307 ew_3v307
      have hIw_3v307 := ixs_B hI ew_3v307
      have t817 : Ti (w_3v307.1 (rl b) 2) z812 := by rw [e1_B ew_3v307]; exact t813
      refine ⟨vp_of t817 (by omega) (by omega), ?_⟩
      intro w_4v308 ew_4v308
      have hIw_4v308 := ixs_A hIw_3v307 ew_4v308 (by have q := rl_or b; omega)
      intro w_5v309 ew_5v309
      have t818 : Ti (w_4v308.1 (rl b) 2) z812 := by rw [e1_A ew_4v308]; exact t817
      obtain ⟨z819, t820, f821⟩ := t_add t818 lit_1
      first | replace f821 := f821 (by omega) | clear f821
      have hIw_5v309 := ixs_r2 hIw_4v308 ew_5v309 t820 (by omega) (by omega)
      exact hp  _   hIw_5v309 
set_option maxHeartbeats 4000000 in
set_option maxRecDepth 100000 in
theorem sX7_endFormula {T D : Int} {k : Nat} {post : Wd → Prop} {b : Bool}  {w : Wd}   (hI : IX k T D w)  (hp : ∀ (w9 : Wd), IX k T D w9 → post w9) : pX7_endFormula   post b  w := by
  unfold pX7_endFormula
  have hk := ix_k hI
  obtain ⟨z822, t823⟩ := t_any (w.1 (rl b) 11)
  refine ⟨fun c824 => ?_, fun c824 => ?_⟩
  · replace c824 := c_lt t823 lit_0 c824
    exact hp  _   hI 
  · replace c824 := c_nlt t823 lit_0 c824
    obtain ⟨z825, t826, f827⟩ := t_sub lit_9 lit_1
    first | replace f827 := f827 (by omega) | clear f827
    refine ⟨fun c828 => ?_, fun c828 => ?_⟩
    · replace c828 := c_le t826 t823 c828
      exact hp  _   hI 
    · replace c828 := c_nle t826 t823 c828
      intro w_3v310 ew_3v310
      have hIw_3v310 := ixs_n hI ew_3v310 (by have q := rl_or b; unfold nX; omega)
      obtain ⟨z830, t831, f832⟩ := t_add t823 lit_1
      first | replace f832 := f832 (by omega) | clear f832
      have t829 : Ti (w_3v310.1 (rl b) 11) z830 := by rw [ew_3v310, sI_at]; exact t831
      refine ⟨vp_of t829 (by omega) (by omega), ?_⟩
      intro w_4v311 ew_4v311
      have hIw_4v311 := ixs_A hIw_3v310 ew_4v311 (by have q := rl_or b; omega)
      exact hp  _   hIw_4v311 
set_option maxHeartbeats 4000000 in
set_option maxRecDepth 100000 in
theorem sX7_hasName_2 {T D : Int} {k : Nat} {post : Int32 → Wd → Prop} {b : Bool} {w : Wd}  (hp : ∀ (r : Int32) (zr : Int), Ti r zr → post r w) : ∀ (n : Nat) (x1 : Int64) (x3 : Int32) (zx3 : Int), Ti x3 zx3 → IX k T D w → (0 ≤ zx3 ∧ zx3 ≤ 4) → (5 - zx3) < (n : Int) → pX7_hasName_2   post b n x1 x3 w := by
  intro n
  induction n with
  | zero =>
    intro x1 x3 zx3  tx3 hI h0 hm
    exact absurd hm (by omega)
  | succ n ih =>
    intro x1 x3 zx3  tx3 hI h0 hm
    unfold pX7_hasName_2
    have hk := ix_k hI
    obtain ⟨z833, t834⟩ := t_any (w.1 (rl b) 2)
    have f835 := ixg_r2 hI t834
    refine ⟨fun c836 => ?_, fun c836 => ?_⟩
    · replace c836 := c_le t834 tx3 c836
      exact hp _ _ lit_0 
    · replace c836 := c_nle t834 tx3 c836
      refine ⟨fun c837 => ?_, fun c837 => ?_⟩
      · replace c837 := c_le lit_4 tx3 c837
        exact hp _ _ lit_0 
      · replace c837 := c_nle lit_4 tx3 c837
        refine ⟨vp_of tx3 (by omega) (by omega), ?_⟩
        refine ⟨fun c838 => ?_, fun c838 => ?_⟩
        · obtain ⟨z839, t840, f841⟩ := t_add tx3 lit_1
          first | replace f841 := f841 (by omega) | clear f841
          intro x3_4v312 ex3_4v312
          have tx3_4v312 : Ti x3_4v312 z839 := by rw [ex3_4v312]; exact t840
          exact ih _ _ _  tx3_4v312 hI (by omega) (by omega)
        · exact hp _ _ lit_1 
set_option maxHeartbeats 4000000 in
set_option maxRecDepth 100000 in
theorem sX7_hasName {T D : Int} {k : Nat} {post : Int32 → Wd → Prop} {b : Bool} {x1 : Int64} {w : Wd}   (hI : IX k T D w)  (hp : ∀ (r : Int32) (zr : Int), Ti r zr → post r w) : pX7_hasName   post b x1 w := by
  unfold pX7_hasName
  have hk := ix_k hI
  exact ⟨70000, sX7_hasName_2    (hp := hp) 70000 _ _ _  lit_0 hI (by omega) (by omega)⟩
set_option maxHeartbeats 4000000 in
set_option maxRecDepth 100000 in
theorem sX6_readHand_53 {T D : Int} {k : Nat} {post : Wd → Prop}   (hp : ∀ (w9 : Wd), IX k T D w9 → post w9) : ∀ (n : Nat) (x1 : Int32) (zx1 : Int) (w : Wd), Ti x1 zx1 → IX k T D w → (11 ≤ zx1 ∧ zx1 ≤ 13) → (14 - zx1) < (n : Int) → pX6_readHand_53   post  n x1 w := by
  intro n
  induction n with
  | zero =>
    intro x1 zx1 w tx1 hI h0 hm
    exact absurd hm (by omega)
  | succ n ih =>
    intro x1 zx1 w tx1 hI h0 hm
    unfold pX6_readHand_53
    have hk := ix_k hI
    refine ⟨fun c842 => ?_, fun c842 => ?_⟩
    · replace c842 := c_lt lit_12 tx1 c842
      exact hp  _   hI 
    · replace c842 := c_nlt lit_12 tx1 c842
      refine sX6_expect   (hI := hI) (tx1 := tx1)  (hp := fun  w_2v313   hIw_2v313  => ?_)
      intro w_3v314 ew_3v314
      have hIw_3v314 := ixs_n hIw_2v313 ew_3v314 (by unfold nX; omega)
      refine sdX6_readPart lit_0 lit_0 hIw_3v314 (by omega) (by omega) (by omega) (fun  w_4v315   hIw_4v315  => ?_)
      refine sX7_endFormula   (hI := hIw_4v315)   (hp := fun  w_5v316   hIw_5v316  => ?_)
      obtain ⟨z843, t844, f845⟩ := t_add tx1 lit_1
      first | replace f845 := f845 (by omega) | clear f845
      intro x1_6v317 ex1_6v317
      have tx1_6v317 : Ti x1_6v317 z843 := by rw [ex1_6v317]; exact t844
      exact ih _ _ _ tx1_6v317 hIw_5v316 (by omega) (by omega)
set_option maxHeartbeats 4000000 in
set_option maxRecDepth 100000 in
theorem sX6_readHand {T D : Int} {k : Nat} {post : Wd → Prop}  {w : Wd}   (hI : IX k T D w)  (hp : ∀ (w9 : Wd), IX k T D w9 → post w9) : pX6_readHand   post   w := by
  unfold pX6_readHand
  have hk := ix_k hI
  obtain ⟨z846, t847⟩ := t_any (w.1 30 5)
  refine ⟨fun c848 => ?_, fun c848 => ?_⟩
  · replace c848 := c_eq t847 lit_20 c848
    refine sX7_hasName   (hI := hI)   (hp := fun r_2v318 zr_2v318 tr_2v318 => ?_)
    refine ⟨fun c849 => ?_, fun c849 => ?_⟩
    · replace c849 := c_eq tr_2v318 lit_0 c849
      refine sX7_addHand   (hI := hI)   (hp := fun  w_5v324   hIw_5v324  => ?_)
      refine sX6_take   (hI := hIw_5v324)   (hp := fun  w_6v325   hIw_6v325  => ?_)
      exact ⟨70000, sX6_readHand_53    (hp := hp) 70000 _ _ _ lit_11 hIw_6v325 (by omega) (by omega)⟩
    · replace c849 := c_neq tr_2v318 lit_0 c849
      refine sX6_fail   (hI := hI) (tx1 := lit_3) (h0 := (by omega)) (hp := fun  w_7v326   hIw_7v326 p850 => ?_)
      obtain ⟨z851, t852⟩ := t_any (w_7v326.1 30 2)
      have f853 := c_neq t852 lit_0 p850
      exact hp  _   hIw_7v326 
  · replace c848 := c_neq t847 lit_20 c848
    refine sX6_fail   (hI := hI) (tx1 := lit_2) (h0 := (by omega)) (hp := fun  w_8v323   hIw_8v323 p854 => ?_)
    obtain ⟨z855, t856⟩ := t_any (w_8v323.1 30 2)
    have f857 := c_neq t856 lit_0 p854
    exact hp  _   hIw_8v323 
set_option maxHeartbeats 4000000 in
set_option maxRecDepth 100000 in
theorem sX6_readLine {T D : Int} {k : Nat} {post : Wd → Prop}  {w : Wd}   (hI : IX k T D w)  (hp : ∀ (w9 : Wd), IX k T D w9 → post w9) : pX6_readLine   post   w := by
  unfold pX6_readLine
  have hk := ix_k hI
  obtain ⟨z858, t859⟩ := t_any (w.1 30 5)
  intro x1_1v327 ex1_1v327
  have tx1_1v327 : Ti x1_1v327 z858 := by rw [ex1_1v327]; exact t859
  refine sX6_mayBegin   (hI := hI) (tx1 := tx1_1v327)  (hp := fun r_2v328 zr_2v328 tr_2v328 => ?_)
  refine ⟨fun c860 => ?_, fun c860 => ?_⟩
  · replace c860 := c_neq tr_2v328 lit_0 c860
    intro w_5v357 ew_5v357
    have hIw_5v357 := ixs_n hI ew_5v357 (by unfold nX; omega)
    refine sX6_take   (hI := hIw_5v357)   (hp := fun  w_6v358   hIw_6v358  => ?_)
    refine ⟨fun c861 => ?_, fun c861 => ?_, fun c861 => ?_, fun c861 => ?_, fun c861 => ?_, fun c861 => ?_, fun c861 => ?_⟩
    · rw [show x1_1v327.toInt = z858 from tx1_1v327] at c861
      refine sX6_readNumber   (hI := hIw_6v358) (tx1 := lit_0) (tx2 := lit_999) (h0 := (by omega)) (hp := fun r_8v359 zr_8v359 w_9v360  tr_8v359 hIw_9v360 p862 => ?_)
      intro w_10v361 ew_10v361
      have hIw_10v361 := ixs_n hIw_9v360 ew_10v361 (by have q := rl_or (w_6v358.2.2.2.2 2); unfold nX; omega)
      refine sX6_expect   (hI := hIw_10v361) (tx1 := lit_59)  (hp := fun  w_11v362   hIw_11v362  => ?_)
      exact hp  _   hIw_11v362 
    · rw [show x1_1v327.toInt = z858 from tx1_1v327] at c861
      refine sX6_readNumber   (hI := hIw_6v358) (tx1 := lit_1) (tx2 := lit_12) (h0 := (by omega)) (hp := fun r_12v363 zr_12v363 w_13v364  tr_12v363 hIw_13v364 p863 => ?_)
      intro w_14v365 ew_14v365
      have hIw_14v365 := ixs_r0 hIw_13v364 ew_14v365 tr_12v363 (by omega) (by omega)
      refine sX6_expect   (hI := hIw_14v365) (tx1 := lit_59)  (hp := fun  w_15v366   hIw_15v366  => ?_)
      exact hp  _   hIw_15v366 
    · rw [show x1_1v327.toInt = z858 from tx1_1v327] at c861
      refine sX6_readFirst   (hI := hIw_6v358)   (hp := fun  w_16v367   hIw_16v367  => ?_)
      refine sX6_expect   (hI := hIw_16v367) (tx1 := lit_59)  (hp := fun  w_17v368   hIw_17v368  => ?_)
      exact hp  _   hIw_17v368 
    · rw [show x1_1v327.toInt = z858 from tx1_1v327] at c861
      refine sX6_readHand   (hI := hIw_6v358)   (hp := fun  w_18v369   hIw_18v369  => ?_)
      refine sX6_expect   (hI := hIw_18v369) (tx1 := lit_59)  (hp := fun  w_19v370   hIw_19v370  => ?_)
      exact hp  _   hIw_19v370 
    · rw [show x1_1v327.toInt = z858 from tx1_1v327] at c861
      refine sX6_readNumber   (hI := hIw_6v358) (tx1 := lit_0) (tx2 := lit_999) (h0 := (by omega)) (hp := fun r_20v371 zr_20v371 w_21v372  tr_20v371 hIw_21v372 p864 => ?_)
      intro w_22v373 ew_22v373
      have hIw_22v373 := ixs_n hIw_21v372 ew_22v373 (by have q := rl_or (w_6v358.2.2.2.2 2); unfold nX; omega)
      refine sX6_expect   (hI := hIw_22v373) (tx1 := lit_59)  (hp := fun  w_23v374   hIw_23v374  => ?_)
      exact hp  _   hIw_23v374 
    · rw [show x1_1v327.toInt = z858 from tx1_1v327] at c861
      refine sX6_readNumber   (hI := hIw_6v358) (tx1 := lit_0) (tx2 := lit_999) (h0 := (by omega)) (hp := fun r_24v375 zr_24v375 w_25v376  tr_24v375 hIw_25v376 p865 => ?_)
      intro w_26v377 ew_26v377
      have hIw_26v377 := ixs_n hIw_25v376 ew_26v377 (by have q := rl_or (w_6v358.2.2.2.2 2); unfold nX; omega)
      refine sX6_expect   (hI := hIw_26v377) (tx1 := lit_59)  (hp := fun  w_27v378   hIw_27v378  => ?_)
      exact hp  _   hIw_27v378 
    · rw [show x1_1v327.toInt = z858 from tx1_1v327] at c861
      refine sX6_readNumber   (hI := hIw_6v358) (tx1 := lit_0) (tx2 := lit_999) (h0 := (by omega)) (hp := fun r_28v379 zr_28v379 w_29v380  tr_28v379 hIw_29v380 p866 => ?_)
      intro w_30v381 ew_30v381
      have hIw_30v381 := ixs_n hIw_29v380 ew_30v381 (by have q := rl_or (w_6v358.2.2.2.2 2); unfold nX; omega)
      refine sX6_expect   (hI := hIw_30v381) (tx1 := lit_59)  (hp := fun  w_31v382   hIw_31v382  => ?_)
      exact hp  _   hIw_31v382 
  · replace c860 := c_eq tr_2v328 lit_0 c860
    refine sX6_fail   (hI := hI) (tx1 := lit_2) (h0 := (by omega)) (hp := fun  w_32v383   hIw_32v383 p867 => ?_)
    obtain ⟨z868, t869⟩ := t_any (w_32v383.1 30 2)
    have f870 := c_neq t869 lit_0 p867
    exact hp  _   hIw_32v383 
set_option maxHeartbeats 4000000 in
set_option maxRecDepth 100000 in
theorem sX7_clear {T D : Int} {k : Nat} {post : Wd → Prop} {b : Bool}  {w : Wd}   (hI : IX k T D w)  (hp : ∀ (w9 : Wd), IX k T D w9 → post w9) : pX7_clear   post b  w := by
  unfold pX7_clear
  have hk := ix_k hI
  intro w_1v384 ew_1v384
  have hIw_1v384 := ixs_r0 hI ew_1v384 lit_8 (by omega) (by omega)
  intro w_2v385 ew_2v385
  have hIw_2v385 := ixs_n hIw_1v384 ew_2v385 (by have q := rl_or b; unfold nX; omega)
  intro w_3v386 ew_3v386
  have hIw_3v386 := ixs_r2 hIw_2v385 ew_3v386 lit_0 (by omega) (by omega)
  intro w_4v387 ew_4v387
  have hIw_4v387 := ixs_n hIw_3v386 ew_4v387 (by have q := rl_or b; unfold nX; omega)
  intro w_5v388 ew_5v388
  have hIw_5v388 := ixs_n hIw_4v387 ew_5v388 (by have q := rl_or b; unfold nX; omega)
  intro w_6v389 ew_6v389
  have hIw_6v389 := ixs_n hIw_5v388 ew_6v389 (by have q := rl_or b; unfold nX; omega)
  intro w_7v390 ew_7v390
  have hIw_7v390 := ixs_r9 hIw_6v389 ew_7v390 lit_0 (by omega) (by omega)
  intro w_8v391 ew_8v391
  have hIw_8v391 := ixs_n hIw_7v390 ew_8v391 (by have q := rl_or b; unfold nX; omega)
  exact hp  _   hIw_8v391 
set_option maxHeartbeats 4000000 in
set_option maxRecDepth 100000 in
theorem sX6_read_38 {T D : Int} {k : Nat} {post : Int32 → Wd → Prop} {b1 : Bool}   (hp : ∀ (r : Int32) (zr : Int) (w9 : Wd), Ti r zr → IX k T D w9 → post r w9) : ∀ (n : Nat) (x2 : Int32) (zx2 : Int) (w : Wd), Ti x2 zx2 → IX k T D w → (0 ≤ zx2 ∧ zx2 ≤ 1600) → (1601 - zx2) < (n : Int) → pX6_read_38   post b1 n x2 w := by
  intro n
  induction n with
  | zero =>
    intro x2 zx2 w tx2 hI h0 hm
    exact absurd hm (by omega)
  | succ n ih =>
    intro x2 zx2 w tx2 hI h0 hm
    unfold pX6_read_38
    have hk := ix_k hI
    refine ⟨fun c871 => ?_, fun c871 => ?_⟩
    · replace c871 := c_le lit_1600 tx2 c871
      obtain ⟨z872, t873⟩ := t_any (w.1 30 2)
      exact hp _ _ _  t873 hI 
    · replace c871 := c_nle lit_1600 tx2 c871
      obtain ⟨z874, t875⟩ := t_any (w.1 30 2)
      refine ⟨fun c876 => ?_, fun c876 => ?_⟩
      · replace c876 := c_neq t875 lit_0 c876
        exact hp _ _ _  t875 hI 
      · replace c876 := c_eq t875 lit_0 c876
        obtain ⟨z877, t878⟩ := t_any (w.1 30 5)
        refine ⟨fun c879 => ?_, fun c879 => ?_⟩
        · replace c879 := c_eq t878 lit_22 c879
          exact hp _ _ _  t875 hI 
        · replace c879 := c_neq t878 lit_22 c879
          refine sX6_readLine   (hI := hI)   (hp := fun  w_4v392   hIw_4v392  => ?_)
          obtain ⟨z880, t881, f882⟩ := t_add tx2 lit_1
          first | replace f882 := f882 (by omega) | clear f882
          intro x2_5v393 ex2_5v393
          have tx2_5v393 : Ti x2_5v393 z880 := by rw [ex2_5v393]; exact t881
          exact ih _ _ _ tx2_5v393 hIw_4v392 (by omega) (by omega)
set_option maxHeartbeats 4000000 in
set_option maxRecDepth 100000 in
theorem sX6_read {T D : Int} {k : Nat} {post : Int32 → Wd → Prop} {b1 : Bool}  {w : Wd}   (hI : IX k T D w)  (hp : ∀ (r : Int32) (zr : Int) (w9 : Wd), Ti r zr → IX k T D w9 → post r w9) : pX6_read   post b1  w := by
  unfold pX6_read
  have hk := ix_k hI
  intro w_1v394 ew_1v394
  have hIw_1v394 := ixs_R hI ew_1v394
  refine sX7_clear   (hI := hIw_1v394)   (hp := fun  w_2v395   hIw_2v395  => ?_)
  intro w_3v396 ew_3v396
  have hIw_3v396 := ixs_n hIw_2v395 ew_3v396 (by unfold nX; omega)
  intro w_4v397 ew_4v397
  have hIw_4v397 := ixs_n hIw_3v396 ew_4v397 (by unfold nX; omega)
  intro w_5v398 ew_5v398
  have hIw_5v398 := ixs_n hIw_4v397 ew_5v398 (by unfold nX; omega)
  intro w_6v399 ew_6v399
  have hIw_6v399 := ixs_n hIw_5v398 ew_6v399 (by unfold nX; omega)
  refine sX6_take   (hI := hIw_6v399)   (hp := fun  w_7v400   hIw_7v400  => ?_)
  exact ⟨70000, sX6_read_38    (hp := hp) 70000 _ _ _ lit_0 hIw_7v400 (by omega) (by omega)⟩
set_option maxHeartbeats 4000000 in
set_option maxRecDepth 100000 in
theorem sX8_add {T D : Int} {k : Nat} {post : Wd → Prop} {x1 : Int32} {zx1 : Int} {x2 : Int32} {zx2 : Int} {x3 : Int64} {w : Wd}  (tx1 : Ti x1 zx1) (tx2 : Ti x2 zx2) (hI : IX k T D w)  (hp : ∀ (w9 : Wd), IX k T D w9 → post w9) : pX8_add   post  x1 x2 x3 w := by
  unfold pX8_add
  have hk := ix_k hI
  obtain ⟨z883, t884⟩ := t_any (w.1 20 3)
  have f885 := ixg_20_3 hI t884
  refine ⟨fun c886 => ?_, fun c886 => ?_⟩
  · replace c886 := c_lt t884 lit_0 c886
    exact hp  _   hI 
  · replace c886 := c_nlt t884 lit_0 c886
    refine ⟨fun c887 => ?_, fun c887 => ?_⟩
    · replace c887 := c_le lit_1602 t884 c887
      exact hp  _   hI 
    · replace c887 := c_nle lit_1602 t884 c887
      refine ⟨vp_of t884 (by omega) (by omega), ?_⟩
      intro w_3v401 ew_3v401
      have hIw_3v401 := ixs_A hI ew_3v401 (by decide)
      have t888 : Ti (w_3v401.1 20 3) z883 := by rw [e1_A ew_3v401]; exact t884
      refine ⟨vp_of t888 (by omega) (by omega), ?_⟩
      intro w_4v402 ew_4v402
      have hIw_4v402 := ixs_A hIw_3v401 ew_4v402 (by decide)
      have t889 : Ti (w_4v402.1 20 3) z883 := by rw [e1_A ew_4v402]; exact t888
      refine ⟨vp_of t889 (by omega) (by omega), ?_⟩
      intro w_5v403 ew_5v403
      have hIw_5v403 := ixs_B hIw_4v402 ew_5v403
      intro w_6v404 ew_6v404
      have t890 : Ti (w_5v403.1 20 3) z883 := by rw [e1_B ew_5v403]; exact t889
      obtain ⟨z891, t892, f893⟩ := t_add t890 lit_1
      first | replace f893 := f893 (by omega) | clear f893
      have hIw_6v404 := ixs_20_3 hIw_5v403 ew_6v404 t892 (by omega) (by omega)
      exact hp  _   hIw_6v404 
set_option maxHeartbeats 4000000 in
set_option maxRecDepth 100000 in
theorem sX8_isDigit {T D : Int} {k : Nat} {post : Int32 → Wd → Prop} {x0 : Int32} {zx0 : Int} {w : Wd}  (tx0 : Ti x0 zx0) (hI : IX k T D w)  (hp : ∀ (r : Int32) (zr : Int), Ti r zr → post r w) : pX8_isDigit   post  x0 w := by
  unfold pX8_isDigit
  have hk := ix_k hI
  refine ⟨fun c894 => ?_, fun c894 => ?_⟩
  · replace c894 := c_lt tx0 lit_48 c894
    exact hp _ _ lit_0 
  · replace c894 := c_nlt tx0 lit_48 c894
    refine ⟨fun c895 => ?_, fun c895 => ?_⟩
    · replace c895 := c_lt lit_57 tx0 c895
      exact hp _ _ lit_0 
    · replace c895 := c_nlt lit_57 tx0 c895
      exact hp _ _ lit_1 
set_option maxHeartbeats 4000000 in
set_option maxRecDepth 100000 in
theorem sX8_isLetter {T D : Int} {k : Nat} {post : Int32 → Wd → Prop} {x0 : Int32} {zx0 : Int} {w : Wd}  (tx0 : Ti x0 zx0) (hI : IX k T D w)  (hp : ∀ (r : Int32) (zr : Int), Ti r zr → post r w) : pX8_isLetter   post  x0 w := by
  unfold pX8_isLetter
  have hk := ix_k hI
  refine ⟨fun c896 => ?_, fun c896 => ?_⟩
  · replace c896 := c_lt tx0 lit_97 c896
    exact hp _ _ lit_0 
  · replace c896 := c_nlt tx0 lit_97 c896
    refine ⟨fun c897 => ?_, fun c897 => ?_⟩
    · replace c897 := c_lt lit_122 tx0 c897
      exact hp _ _ lit_0 
    · replace c897 := c_nlt lit_122 tx0 c897
      exact hp _ _ lit_1 
set_option maxHeartbeats 4000000 in
set_option maxRecDepth 100000 in
theorem sX8_splitNumber_6 {T D : Int} {k : Nat} {post : Int32 → Wd → Prop}   (hp : ∀ (r : Int32) (zr : Int) (w9 : Wd), Ti r zr → IX k T D w9 → post r w9) : ∀ (n : Nat) (x2 : Int32) (x3 : Int32) (x4 : Int32) (x5 : Int32) (zx2 : Int) (zx3 : Int) (zx4 : Int) (zx5 : Int) (w : Wd), Ti x2 zx2 → Ti x3 zx3 → Ti x4 zx4 → Ti x5 zx5 → IX k T D w → (0 ≤ zx5) → (zx5 ≤ 1000000) → (zx3 ≤ 1600) → (2000000 - zx5) < (n : Int) → pX8_splitNumber_6   post  n x2 x3 x4 x5 w := by
  intro n
  induction n with
  | zero =>
    intro x2 x3 x4 x5 zx2 zx3 zx4 zx5 w tx2 tx3 tx4 tx5 hI h0 h1 h2 hm
    exact absurd hm (by omega)
  | succ n ih =>
    intro x2 x3 x4 x5 zx2 zx3 zx4 zx5 w tx2 tx3 tx4 tx5 hI h0 h1 h2 hm
    unfold pX8_splitNumber_6
    have hk := ix_k hI
    refine ⟨fun c898 => ?_, fun c898 => ?_⟩
    · replace c898 := c_le tx3 tx5 c898
      unfold pX8_splitNumber_43
      obtain ⟨z899, t900, f901⟩ := t_sub tx5 tx2
      first | replace f901 := f901 (by omega) | clear f901
      refine ⟨fun c902 => ?_, fun c902 => ?_⟩
      · replace c902 := c_lt lit_4 t900 c902
        refine sX8_add   (hI := hI) (tx1 := lit_23) (tx2 := tx2)  (hp := fun  w_2v409   hIw_2v409  => ?_)
        exact hp _ _ _  tx3 hIw_2v409 
      · replace c902 := c_nlt lit_4 t900 c902
        refine ⟨fun c903 => ?_, fun c903 => ?_⟩
        · replace c903 := c_le tx3 tx5 c903
          refine sX8_add   (hI := hI) (tx1 := lit_21) (tx2 := tx2)  (hp := fun  w_4v410   hIw_4v410  => ?_)
          exact hp _ _ _  tx5 hIw_4v410 
        · replace c903 := c_nle tx3 tx5 c903
          refine ⟨vp_of tx5 (by omega) (by omega), ?_⟩
          obtain ⟨z904, t905⟩ := t_any (w.2.1 1 x5.toNatClampNeg)
          refine sX8_isLetter   (hI := hI) (tx0 := t905)  (hp := fun r_5v411 zr_5v411 tr_5v411 => ?_)
          refine ⟨fun c906 => ?_, fun c906 => ?_⟩
          · replace c906 := c_eq tr_5v411 lit_0 c906
            refine sX8_add   (hI := hI) (tx1 := lit_21) (tx2 := tx2)  (hp := fun  w_8v415   hIw_8v415  => ?_)
            exact hp _ _ _  tx5 hIw_8v415 
          · replace c906 := c_neq tr_5v411 lit_0 c906
            refine sX8_add   (hI := hI) (tx1 := lit_23) (tx2 := tx2)  (hp := fun  w_9v416   hIw_9v416  => ?_)
            exact hp _ _ _  tx3 hIw_9v416 
    · replace c898 := c_nle tx3 tx5 c898
      refine ⟨vp_of tx5 (by omega) (by omega), ?_⟩
      obtain ⟨z907, t908⟩ := t_any (w.2.1 1 x5.toNatClampNeg)
      refine sX8_isDigit   (hI := hI) (tx0 := t908)  (hp := fun r_2v405 zr_2v405 tr_2v405 => ?_)
      refine ⟨fun c909 => ?_, fun c909 => ?_⟩
      · replace c909 := c_eq tr_2v405 lit_0 c909
        unfold pX8_splitNumber_43
        obtain ⟨z910, t911, f912⟩ := t_sub tx5 tx2
        first | replace f912 := f912 (by omega) | clear f912
        refine ⟨fun c913 => ?_, fun c913 => ?_⟩
        · replace c913 := c_lt lit_4 t911 c913
          refine sX8_add   (hI := hI) (tx1 := lit_23) (tx2 := tx2)  (hp := fun  w_2v419   hIw_2v419  => ?_)
          exact hp _ _ _  tx3 hIw_2v419 
        · replace c913 := c_nlt lit_4 t911 c913
          refine ⟨fun c914 => ?_, fun c914 => ?_⟩
          · replace c914 := c_le tx3 tx5 c914
            refine sX8_add   (hI := hI) (tx1 := lit_21) (tx2 := tx2)  (hp := fun  w_4v420   hIw_4v420  => ?_)
            exact hp _ _ _  tx5 hIw_4v420 
          · replace c914 := c_nle tx3 tx5 c914
            refine ⟨vp_of tx5 (by omega) (by omega), ?_⟩
            refine sX8_isLetter   (hI := hI) (tx0 := t908)  (hp := fun r_5v421 zr_5v421 tr_5v421 => ?_)
            refine ⟨fun c915 => ?_, fun c915 => ?_⟩
            · replace c915 := c_eq tr_5v421 lit_0 c915
              refine sX8_add   (hI := hI) (tx1 := lit_21) (tx2 := tx2)  (hp := fun  w_8v425   hIw_8v425  => ?_)
              exact hp _ _ _  tx5 hIw_8v425 
            · replace c915 := c_neq tr_5v421 lit_0 c915
              refine sX8_add   (hI := hI) (tx1 := lit_23) (tx2 := tx2)  (hp := fun  w_9v426   hIw_9v426  => ?_)
              exact hp _ _ _  tx3 hIw_9v426 
      · replace c909 := c_neq tr_2v405 lit_0 c909
        refine ⟨vp_of tx5 (by omega) (by omega), ?_⟩
        obtain ⟨z916, t917, f918⟩ := t_mul tx4 lit_10
        first | replace f918 := f918 (by omega) | clear f918
        obtain ⟨z919, t920, f921⟩ := t_add t917 t908
        first | replace f921 := f921 (by omega) | clear f921
        obtain ⟨z922, t923, f924⟩ := t_sub t920 lit_48
        first | replace f924 := f924 (by omega) | clear f924
        intro x4_5v417 ex4_5v417
        have tx4_5v417 : Ti x4_5v417 z922 := by rw [ex4_5v417]; exact t923
        obtain ⟨z925, t926, f927⟩ := t_add tx5 lit_1
        first | replace f927 := f927 (by omega) | clear f927
        intro x5_6v418 ex5_6v418
        have tx5_6v418 : Ti x5_6v418 z925 := by rw [ex5_6v418]; exact t926
        exact ih _ _ _ _ _ _ _ _ _ tx2 tx3 tx4_5v417 tx5_6v418 hI (by omega) (by omega) (by omega) (by omega)
set_option maxHeartbeats 4000000 in
set_option maxRecDepth 100000 in
theorem sX8_splitNumber {T D : Int} {k : Nat} {post : Int32 → Wd → Prop} {x2 : Int32} {zx2 : Int} {x3 : Int32} {zx3 : Int} {w : Wd}  (tx2 : Ti x2 zx2) (tx3 : Ti x3 zx3) (hI : IX k T D w) (h0 : 0 ≤ zx2) (h1 : zx2 ≤ 1600) (h2 : zx3 ≤ 1600) (hp : ∀ (r : Int32) (zr : Int) (w9 : Wd), Ti r zr → IX k T D w9 → post r w9) : pX8_splitNumber   post  x2 x3 w := by
  unfold pX8_splitNumber
  have hk := ix_k hI
  exact ⟨3000000, sX8_splitNumber_6    (hp := hp) 3000000 _ _ _ _ _ _ _ _ _ tx2 tx3 lit_0 tx2 hI (by omega) (by omega) (by omega) (by omega)⟩
