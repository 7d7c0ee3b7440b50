set_option maxHeartbeats 4000000 in
set_option maxRecDepth 100000 in
theorem sX9_seek {T D : Int} {k : Nat} {post : Int32 → Wd → Prop} {x1 : Int32} {zx1 : Int} {x2 : Int32} {zx2 : Int} {w : Wd}  (tx1 : Ti x1 zx1) (tx2 : Ti x2 zx2) (hI : IX k T D w) (h0 : 0 ≤ zx2) (hp : ∀ (r : Int32) (zr : Int) (w9 : Wd), Ti r zr → IX k T D w9 → post r w9) : pX9_seek   post  x1 x2 w := by
  unfold pX9_seek
  have hk := ix_k hI
  intro w_1v1430 ew_1v1430
  have hIw_1v1430 := ixs_n hI ew_1v1430 (by unfold nX; omega)
  intro w_2v1431 ew_2v1431
  obtain ⟨z2851, t2852, f2853⟩ := t_ite lit_4096 tx2 lit_4096 tx2
  have hIw_2v1431 := ixs_60_4 hIw_1v1430 ew_2v1431 t2852 (by omega) (by omega)
  exact ⟨70000, sX9_seek_18   (hp := hp) 70000 _ _ _ lit_0 hIw_2v1431 (by omega) (by omega)⟩
set_option maxHeartbeats 4000000 in
set_option maxRecDepth 100000 in
theorem sX10_wax {T D : Int} {k : Nat} {post : Int32 → Wd → Prop} {x1 : Int32} {zx1 : Int} {w : Wd}  (tx1 : Ti x1 zx1) (hI : IX k T D w)  (hp : ∀ (r : Int32) (zr : Int) (w9 : Wd), Ti r zr → IX k T D w9 → post r w9) : pX10_wax   post  x1 w := by
  unfold pX10_wax
  have hk := ix_k hI
  intro w_1v1432 ew_1v1432
  have hIw_1v1432 := ixs_110_1 hI ew_1v1432 lit_0 (by omega) (by omega)
  refine sX10_isRow   (hI := hIw_1v1432) (tx1 := tx1)  (hp := fun r_2v1433 zr_2v1433 tr_2v1433 p2854 => ?_)
  refine ⟨fun c2855 => ?_, fun c2855 => ?_⟩
  · replace c2855 := c_neq tr_2v1433 lit_0 c2855
    refine sX7_rows   (hI := hIw_1v1432)   (hp := fun r_5v1443 zr_5v1443 tr_5v1443 p2856 => ?_)
    refine sX9_seek   (hI := hIw_1v1432) (tx1 := tx1) (tx2 := tr_5v1443) (h0 := (by omega)) (hp := fun r_7v1451 zr_7v1451 w_8v1452  tr_7v1451 hIw_8v1452  => ?_)
    refine sX10_isSeal   (hI := hIw_8v1452) (tx1 := tr_7v1451)  (hp := fun r_9v1453 zr_9v1453 tr_9v1453 p2857 => ?_)
    refine ⟨fun c2858 => ?_, fun c2858 => ?_⟩
    · replace c2858 := c_neq tr_9v1453 lit_0 c2858
      refine sX4_lay   (hI := hIw_8v1452) (tx1 := tr_7v1451)  (hp := fun  w_12v1457   hIw_12v1457  => ?_)
      refine ⟨vp_of tr_7v1451 (by omega) (by omega), ?_⟩
      obtain ⟨z2859, t2860⟩ := t_any (w_12v1457.2.1 162 r_7v1451.toNatClampNeg)
      refine sX9_layWay   (hI := hIw_12v1457) (tx1 := t2860)  (hp := fun  w_13v1458   hIw_13v1458  => ?_)
      obtain ⟨z2861, t2862⟩ := t_any (w_13v1458.1 60 5)
      exact hp _ _ _  t2862 hIw_13v1458 
    · replace c2858 := c_eq tr_9v1453 lit_0 c2858
      exact hp _ _ _  lit_m1 hIw_8v1452 
  · replace c2855 := c_eq tr_2v1433 lit_0 c2855
    exact hp _ _ _  lit_m1 hIw_1v1432 
set_option maxHeartbeats 4000000 in
set_option maxRecDepth 100000 in
theorem sX3_add {T D : Int} {k : Nat} {post : Int32 → Wd → Prop} {x1 : Int32} {zx1 : Int} {x2 : Int32} {zx2 : Int} {x3 : Int32} {zx3 : Int} {x4 : Int32} {zx4 : Int} {w : Wd}  (tx1 : Ti x1 zx1) (tx2 : Ti x2 zx2) (tx3 : Ti x3 zx3) (tx4 : Ti x4 zx4) (hI : IX k T D w)  (hp : ∀ (r : Int32) (zr : Int) (w9 : Wd), Ti r zr → IX k T D w9 → post r w9) : pX3_add   post  x1 x2 x3 x4 w := by
  unfold pX3_add
  have hk := ix_k hI
  obtain ⟨z2863, t2864⟩ := t_any (w.1 70 0)
  have f2865 := ixg_70_0 hI t2864
  refine ⟨fun c2866 => ?_, fun c2866 => ?_⟩
  · replace c2866 := c_lt t2864 lit_0 c2866
    exact hp _ _ _  lit_m1 hI 
  · replace c2866 := c_nlt t2864 lit_0 c2866
    refine ⟨fun c2867 => ?_, fun c2867 => ?_⟩
    · replace c2867 := c_lt t2864 lit_40 c2867
      refine ⟨vp_of t2864 (by omega) (by omega), ?_⟩
      intro w_3v1459 ew_3v1459
      have hIw_3v1459 := ixs_A hI ew_3v1459 (by decide)
      have t2868 : Ti (w_3v1459.1 70 0) z2863 := by rw [e1_A ew_3v1459]; exact t2864
      refine ⟨vp_of t2868 (by omega) (by omega), ?_⟩
      intro w_4v1460 ew_4v1460
      have hIw_4v1460 := ixs_A hIw_3v1459 ew_4v1460 (by decide)
      have t2869 : Ti (w_4v1460.1 70 0) z2863 := by rw [e1_A ew_4v1460]; exact t2868
      refine ⟨vp_of t2869 (by omega) (by omega), ?_⟩
      intro w_5v1461 ew_5v1461
      have hIw_5v1461 := ixs_A hIw_4v1460 ew_5v1461 (by decide)
      have t2870 : Ti (w_5v1461.1 70 0) z2863 := by rw [e1_A ew_5v1461]; exact t2869
      refine ⟨vp_of t2870 (by omega) (by omega), ?_⟩
      intro w_6v1462 ew_6v1462
      have hIw_6v1462 := ixs_A hIw_5v1461 ew_6v1462 (by decide)
      have t2871 : Ti (w_6v1462.1 70 0) z2863 := by rw [e1_A ew_6v1462]; exact t2870
      refine ⟨vp_of t2871 (by omega) (by omega), ?_⟩
      intro w_7v1463 ew_7v1463
      have hIw_7v1463 := ixs_A hIw_6v1462 ew_7v1463 (by decide)
      have t2872 : Ti (w_7v1463.1 70 0) z2863 := by rw [e1_A ew_7v1463]; exact t2871
      refine ⟨vp_of t2872 (by omega) (by omega), ?_⟩
      intro w_8v1464 ew_8v1464
      have hIw_8v1464 := ixs_A hIw_7v1463 ew_8v1464 (by decide)
      intro w_9v1465 ew_9v1465
      have t2873 : Ti (w_8v1464.1 70 0) z2863 := by rw [e1_A ew_8v1464]; exact t2872
      obtain ⟨z2874, t2875, f2876⟩ := t_add t2873 lit_1
      first | replace f2876 := f2876 (by omega) | clear f2876
      have hIw_9v1465 := ixs_70_0 hIw_8v1464 ew_9v1465 t2875 (by omega) (by omega)
      have t2877 : Ti (w_9v1465.1 70 0) z2874 := by rw [ew_9v1465, sI_at]; exact t2875
      obtain ⟨z2878, t2879, f2880⟩ := t_sub t2877 lit_1
      first | replace f2880 := f2880 (by omega) | clear f2880
      exact hp _ _ _  t2879 hIw_9v1465 
    · replace c2867 := c_nlt t2864 lit_40 c2867
      exact hp _ _ _  lit_m1 hI 
set_option maxHeartbeats 4000000 in
set_option maxRecDepth 100000 in
theorem sX10_sample {T D : Int} {k : Nat} {post : Int32 → Wd → Prop} {x1 : Int32} {zx1 : Int} {x2 : Int32} {zx2 : Int} {w : Wd}  (tx1 : Ti x1 zx1) (tx2 : Ti x2 zx2) (hI : IX k T D w)  (hp : ∀ (r : Int32) (zr : Int) (w9 : Wd), Ti r zr → IX k T D w9 → post r w9) : pX10_sample   post  x1 x2 w := by
  unfold pX10_sample
  have hk := ix_k hI
  refine sX10_isRow   (hI := hI) (tx1 := tx1)  (hp := fun r_1v1466 zr_1v1466 tr_1v1466 p2881 => ?_)
  refine ⟨fun c2882 => ?_, fun c2882 => ?_⟩
  · replace c2882 := c_eq tr_1v1466 lit_0 c2882
    exact hp _ _ _  lit_m1 hI 
  · replace c2882 := c_neq tr_1v1466 lit_0 c2882
    refine ⟨fun c2883 => ?_, fun c2883 => ?_⟩
    · replace c2883 := c_eq tx2 lit_0 c2883
      refine sX3_add   (hI := hI) (tx1 := lit_0) (tx2 := tx1) (tx3 := lit_0) (tx4 := lit_0)  (hp := fun r_5v1472 zr_5v1472 w_6v1473  tr_5v1472 hIw_6v1473  => ?_)
      exact hp _ _ _  tr_5v1472 hIw_6v1473 
    · replace c2883 := c_neq tx2 lit_0 c2883
      refine sX3_add   (hI := hI) (tx1 := lit_0) (tx2 := tx1) (tx3 := lit_0) (tx4 := lit_1)  (hp := fun r_7v1474 zr_7v1474 w_8v1475  tr_7v1474 hIw_8v1475  => ?_)
      exact hp _ _ _  tr_7v1474 hIw_8v1475 
set_option maxHeartbeats 4000000 in
set_option maxRecDepth 100000 in
theorem sX10_isYear {T D : Int} {k : Nat} {post : Int32 → Wd → Prop} {x0 : Int32} {zx0 : Int} {w : Wd}  (tx0 : Ti x0 zx0) (hI : IX k T D w)  (hp : ∀ (r : Int32) (zr : Int), Ti r zr → post r w) : pX10_isYear   post  x0 w := by
  unfold pX10_isYear
  have hk := ix_k hI
  refine ⟨fun c2884 => ?_, fun c2884 => ?_⟩
  · replace c2884 := c_lt tx0 lit_0 c2884
    exact hp _ _ lit_0 
  · replace c2884 := c_nlt tx0 lit_0 c2884
    refine ⟨fun c2885 => ?_, fun c2885 => ?_⟩
    · replace c2885 := c_lt lit_999 tx0 c2885
      exact hp _ _ lit_0 
    · replace c2885 := c_nlt lit_999 tx0 c2885
      exact hp _ _ lit_1 
set_option maxHeartbeats 4000000 in
set_option maxRecDepth 100000 in
theorem sX10_claim {T D : Int} {k : Nat} {post : Int32 → Wd → Prop} {x1 : Int32} {zx1 : Int} {x2 : Int32} {zx2 : Int} {x3 : Int32} {zx3 : Int} {w : Wd}  (tx1 : Ti x1 zx1) (tx2 : Ti x2 zx2) (tx3 : Ti x3 zx3) (hI : IX k T D w)  (hp : ∀ (r : Int32) (zr : Int) (w9 : Wd), Ti r zr → IX k T D w9 → post r w9) : pX10_claim   post  x1 x2 x3 w := by
  unfold pX10_claim
  have hk := ix_k hI
  refine sX10_isRow   (hI := hI) (tx1 := tx1)  (hp := fun r_1v1476 zr_1v1476 tr_1v1476 p2886 => ?_)
  refine ⟨fun c2887 => ?_, fun c2887 => ?_⟩
  · replace c2887 := c_eq tr_1v1476 lit_0 c2887
    exact hp _ _ _  lit_m1 hI 
  · replace c2887 := c_neq tr_1v1476 lit_0 c2887
    refine sX10_isSeal   (hI := hI) (tx1 := tx2)  (hp := fun r_4v1484 zr_4v1484 tr_4v1484 p2888 => ?_)
    refine ⟨fun c2889 => ?_, fun c2889 => ?_⟩
    · replace c2889 := c_eq tr_4v1484 lit_0 c2889
      exact hp _ _ _  lit_m1 hI 
    · replace c2889 := c_neq tr_4v1484 lit_0 c2889
      refine sX10_isYear   (hI := hI) (tx0 := tx3)  (hp := fun r_7v1490 zr_7v1490 tr_7v1490 => ?_)
      refine ⟨fun c2890 => ?_, fun c2890 => ?_⟩
      · replace c2890 := c_neq tr_7v1490 lit_0 c2890
        refine sX3_add   (hI := hI) (tx1 := lit_1) (tx2 := tx1) (tx3 := tx2) (tx4 := tx3)  (hp := fun r_10v1494 zr_10v1494 w_11v1495  tr_10v1494 hIw_11v1495  => ?_)
        exact hp _ _ _  tr_10v1494 hIw_11v1495 
      · replace c2890 := c_eq tr_7v1490 lit_0 c2890
        exact hp _ _ _  lit_m1 hI 
set_option maxHeartbeats 4000000 in
set_option maxRecDepth 100000 in
theorem sX10_saw {T D : Int} {k : Nat} {post : Int32 → Wd → Prop} {x1 : Int32} {zx1 : Int} {x2 : Int32} {zx2 : Int} {x3 : Int32} {zx3 : Int} {w : Wd}  (tx1 : Ti x1 zx1) (tx2 : Ti x2 zx2) (tx3 : Ti x3 zx3) (hI : IX k T D w)  (hp : ∀ (r : Int32) (zr : Int) (w9 : Wd), Ti r zr → IX k T D w9 → post r w9) : pX10_saw   post  x1 x2 x3 w := by
  unfold pX10_saw
  have hk := ix_k hI
  refine sX10_isMark   (hI := hI) (tx1 := tx1)  (hp := fun r_1v1496 zr_1v1496 tr_1v1496 p2891 => ?_)
  refine ⟨fun c2892 => ?_, fun c2892 => ?_⟩
  · replace c2892 := c_eq tr_1v1496 lit_0 c2892
    exact hp _ _ _  lit_m1 hI 
  · replace c2892 := c_neq tr_1v1496 lit_0 c2892
    refine sX10_isYear   (hI := hI) (tx0 := tx2)  (hp := fun r_4v1504 zr_4v1504 tr_4v1504 => ?_)
    refine ⟨fun c2893 => ?_, fun c2893 => ?_⟩
    · replace c2893 := c_eq tr_4v1504 lit_0 c2893
      exact hp _ _ _  lit_m1 hI 
    · replace c2893 := c_neq tr_4v1504 lit_0 c2893
      refine ⟨fun c2894 => ?_, fun c2894 => ?_⟩
      · replace c2894 := c_eq tx3 lit_0 c2894
        refine sX3_add   (hI := hI) (tx1 := lit_2) (tx2 := tx1) (tx3 := tx2) (tx4 := lit_0)  (hp := fun r_8v1510 zr_8v1510 w_9v1511  tr_8v1510 hIw_9v1511  => ?_)
        exact hp _ _ _  tr_8v1510 hIw_9v1511 
      · replace c2894 := c_neq tx3 lit_0 c2894
        refine sX3_add   (hI := hI) (tx1 := lit_2) (tx2 := tx1) (tx3 := tx2) (tx4 := lit_1)  (hp := fun r_10v1512 zr_10v1512 w_11v1513  tr_10v1512 hIw_11v1513  => ?_)
        exact hp _ _ _  tr_10v1512 hIw_11v1513 
set_option maxHeartbeats 4000000 in
set_option maxRecDepth 100000 in
theorem sX10_isPaper {T D : Int} {k : Nat} {post : Int32 → Wd → Prop} {x0 : Int32} {zx0 : Int} {w : Wd}  (tx0 : Ti x0 zx0) (hI : IX k T D w)  (hp : ∀ (r : Int32) (zr : Int), Ti r zr → ((zr = 0 ∨ (0 ≤ zx0 ∧ zx0 ≤ 7))) → post r w) : pX10_isPaper   post  x0 w := by
  unfold pX10_isPaper
  have hk := ix_k hI
  refine ⟨fun c2895 => ?_, fun c2895 => ?_⟩
  · replace c2895 := c_lt tx0 lit_0 c2895
    exact hp _ _ lit_0 (by omega)
  · replace c2895 := c_nlt tx0 lit_0 c2895
    refine ⟨fun c2896 => ?_, fun c2896 => ?_⟩
    · replace c2896 := c_le lit_8 tx0 c2896
      exact hp _ _ lit_0 (by omega)
    · replace c2896 := c_nle lit_8 tx0 c2896
      exact hp _ _ lit_1 (by omega)
set_option maxHeartbeats 4000000 in
set_option maxRecDepth 100000 in
theorem sX10_link {T D : Int} {k : Nat} {post : Int32 → Wd → Prop} {x1 : Int32} {zx1 : Int} {x2 : Int32} {zx2 : Int} {x3 : Int32} {zx3 : Int} {w : Wd}  (tx1 : Ti x1 zx1) (tx2 : Ti x2 zx2) (tx3 : Ti x3 zx3) (hI : IX k T D w)  (hp : ∀ (r : Int32) (zr : Int) (w9 : Wd), Ti r zr → IX k T D w9 → post r w9) : pX10_link   post  x1 x2 x3 w := by
  unfold pX10_link
  have hk := ix_k hI
  refine sX10_isPaper   (hI := hI) (tx0 := tx1)  (hp := fun r_1v1514 zr_1v1514 tr_1v1514 p2897 => ?_)
  refine ⟨fun c2898 => ?_, fun c2898 => ?_⟩
  · replace c2898 := c_eq tr_1v1514 lit_0 c2898
    exact hp _ _ _  lit_m1 hI 
  · replace c2898 := c_neq tr_1v1514 lit_0 c2898
    refine sX10_isPaper   (hI := hI) (tx0 := tx2)  (hp := fun r_4v1522 zr_4v1522 tr_4v1522 p2899 => ?_)
    refine ⟨fun c2900 => ?_, fun c2900 => ?_⟩
    · replace c2900 := c_eq tr_4v1522 lit_0 c2900
      exact hp _ _ _  lit_m1 hI 
    · replace c2900 := c_neq tr_4v1522 lit_0 c2900
      refine ⟨fun c2901 => ?_, fun c2901 => ?_⟩
      · replace c2901 := c_neq tx1 tx2 c2901
        refine ⟨fun c2902 => ?_, fun c2902 => ?_⟩
        · replace c2902 := c_eq tx3 lit_0 c2902
          refine sX3_add   (hI := hI) (tx1 := lit_3) (tx2 := tx1) (tx3 := tx2) (tx4 := lit_0)  (hp := fun r_9v1528 zr_9v1528 w_10v1529  tr_9v1528 hIw_10v1529  => ?_)
          exact hp _ _ _  tr_9v1528 hIw_10v1529 
        · replace c2902 := c_neq tx3 lit_0 c2902
          refine sX3_add   (hI := hI) (tx1 := lit_3) (tx2 := tx1) (tx3 := tx2) (tx4 := lit_1)  (hp := fun r_11v1530 zr_11v1530 w_12v1531  tr_11v1530 hIw_12v1531  => ?_)
          exact hp _ _ _  tr_11v1530 hIw_12v1531 
      · replace c2901 := c_eq tx1 tx2 c2901
        exact hp _ _ _  lit_m1 hI 
set_option maxHeartbeats 4000000 in
set_option maxRecDepth 100000 in
theorem sX10_untell {T D : Int} {k : Nat} {post : Int32 → Wd → Prop} {x1 : Int32} {zx1 : Int} {w : Wd}  (tx1 : Ti x1 zx1) (hI : IX k T D w)  (hp : ∀ (r : Int32) (zr : Int) (w9 : Wd), Ti r zr → IX k T D w9 → post r w9) : pX10_untell   post  x1 w := by
  unfold pX10_untell
  have hk := ix_k hI
  refine ⟨fun c2903 => ?_, fun c2903 => ?_⟩
  · replace c2903 := c_lt tx1 lit_0 c2903
    exact hp _ _ _  lit_0 hI 
  · replace c2903 := c_nlt tx1 lit_0 c2903
    obtain ⟨z2904, t2905⟩ := t_any (w.1 70 0)
    have f2906 := ixg_70_0 hI t2905
    refine ⟨fun c2907 => ?_, fun c2907 => ?_⟩
    · replace c2907 := c_le t2905 tx1 c2907
      exact hp _ _ _  lit_0 hI 
    · replace c2907 := c_nle t2905 tx1 c2907
      refine ⟨vp_of tx1 (by omega) (by omega), ?_⟩
      obtain ⟨z2908, t2909⟩ := t_any (w.2.1 78 x1.toNatClampNeg)
      refine ⟨fun c2910 => ?_, fun c2910 => ?_⟩
      · replace c2910 := c_eq t2909 lit_m1 c2910
        refine ⟨vp_of tx1 (by omega) (by omega), ?_⟩
        intro w_4v1532 ew_4v1532
        have hIw_4v1532 := ixs_A hI ew_4v1532 (by decide)
        exact hp _ _ _  lit_1 hIw_4v1532 
      · replace c2910 := c_neq t2909 lit_m1 c2910
        exact hp _ _ _  lit_0 hI 
theorem sX10_later {T D : Int} {k : Nat} {post : Int32 → Wd → Prop} {x1 : Int32} {zx1 : Int} {w : Wd} (tx1 : Ti x1 zx1) (hI : IX k T D w) (hT : 0 ≤ T ∧ T ≤ 100000) (hp : ∀ (r : Int32) (zr : Int) (w9 : Wd) (T9 : Int), Ti r zr → IX k T9 D w9 → (((0 ≤ zx1 ∧ zx1 ≤ 1000 ∧ T + zx1 ≤ 100000) ∧ T9 = T + zx1 ∧ zr = T9) ∨ (¬ (0 ≤ zx1 ∧ zx1 ≤ 1000 ∧ T + zx1 ≤ 100000) ∧ T9 = T ∧ zr = -1)) → post r w9) : pX10_later post x1 w := by
  unfold pX10_later
  obtain ⟨z, t⟩ := t_any (w.1 70 1)
  have b := ixg_70_1 hI t
  refine ⟨fun c => ?_, fun c => ⟨fun c2 => ?_, fun c2 => ?_⟩⟩
  · replace c := c_lt tx1 lit_0 c
    exact hp _ _ _ _ lit_m1 hI (by omega)
  · replace c2 := c_lt lit_1000 tx1 c2
    exact hp _ _ _ _ lit_m1 hI (by omega)
  · replace c := c_nlt tx1 lit_0 c
    replace c2 := c_nlt lit_1000 tx1 c2
    obtain ⟨y, u, f⟩ := t_add t tx1
    replace f := f (by omega)
    refine ⟨fun c3 => ?_, fun c3 => ?_⟩
    · replace c3 := c_le u lit_100000 c3
      intro w_4 e4
      have i4 := ixs_70_1 hI e4 u
      obtain ⟨z4, t4⟩ := t_any (w_4.1 70 1)
      have b4 := ixg_70_1 i4 t4
      exact hp _ _ _ _ t4 i4 (by omega)
    · replace c3 := c_nle u lit_100000 c3
      exact hp _ _ _ _ lit_m1 hI (by omega)
set_option maxHeartbeats 4000000 in
set_option maxRecDepth 100000 in
theorem sX10_changes {T D : Int} {k : Nat} {post : Int32 → Wd → Prop} {x0 : Int32} {zx0 : Int} {x1 : Int32} {zx1 : Int} {x2 : Int32} {zx2 : Int} {w : Wd}  (tx0 : Ti x0 zx0) (tx1 : Ti x1 zx1) (tx2 : Ti x2 zx2) (hI : IX k T D w)  (hp : ∀ (r : Int32) (zr : Int), Ti r zr → post r w) : pX10_changes   post  x0 x1 x2 w := by
  unfold pX10_changes
  have hk := ix_k hI
  refine sX10_turn   (hI := hI) (tx0 := tx0) (tx1 := tx2)  (hp := fun r_1v1533 zr_1v1533 tr_1v1533 => ?_)
  obtain ⟨z2911, t2912⟩ := t_any (r_1v1533 &&& (x1 ^^^ (-1 : Int32)))
  refine sJ6_bitCount_0f7a4   (hI := hI) (tx0 := t2912)  (hp := fun r_3v1539 zr_3v1539 tr_3v1539 p2913 => ?_)
  obtain ⟨z2914, t2915⟩ := t_any (x1 &&& (r_1v1533 ^^^ (-1 : Int32)))
  refine sJ6_bitCount_0f7a4   (hI := hI) (tx0 := t2915)  (hp := fun r_5v1543 zr_5v1543 tr_5v1543 p2916 => ?_)
  obtain ⟨z2917, t2918, f2919⟩ := t_mul lit_2 tr_5v1543
  first | replace f2919 := f2919 (by omega) | clear f2919
  obtain ⟨z2920, t2921, f2922⟩ := t_add tr_3v1539 t2918
  first | replace f2922 := f2922 (by omega) | clear f2922
  exact hp _ _ t2921 
set_option maxHeartbeats 4000000 in
set_option maxRecDepth 100000 in
theorem sX3_counts {T D : Int} {k : Nat} {post : Int32 → Wd → Prop} {x1 : Int32} {zx1 : Int} {x2 : Int32} {zx2 : Int} {x3 : Int32} {zx3 : Int} {w : Wd}  (tx1 : Ti x1 zx1) (tx2 : Ti x2 zx2) (tx3 : Ti x3 zx3) (hI : IX k T D w)  (hp : ∀ (r : Int32) (zr : Int), Ti r zr → post r w) : pX3_counts   post  x1 x2 x3 w := by
  unfold pX3_counts
  have hk := ix_k hI
  refine ⟨fun c2923 => ?_, fun c2923 => ?_⟩
  · replace c2923 := c_lt tx1 lit_0 c2923
    exact hp _ _ lit_0 
  · replace c2923 := c_nlt tx1 lit_0 c2923
    obtain ⟨z2924, t2925⟩ := t_any (w.1 70 0)
    have f2926 := ixg_70_0 hI t2925
    refine ⟨fun c2927 => ?_, fun c2927 => ?_⟩
    · replace c2927 := c_le t2925 tx1 c2927
      exact hp _ _ lit_0 
    · replace c2927 := c_nle t2925 tx1 c2927
      refine ⟨vp_of tx1 (by omega) (by omega), ?_⟩
      obtain ⟨z2928, t2929⟩ := t_any (w.2.1 73 x1.toNatClampNeg)
      refine ⟨fun c2930 => ?_, fun c2930 => ?_⟩
      · replace c2930 := c_neq t2929 tx2 c2930
        exact hp _ _ lit_0 
      · replace c2930 := c_eq t2929 tx2 c2930
        refine ⟨vp_of tx1 (by omega) (by omega), ?_⟩
        obtain ⟨z2931, t2932⟩ := t_any (w.2.1 77 x1.toNatClampNeg)
        refine ⟨fun c2933 => ?_, fun c2933 => ?_⟩
        · replace c2933 := c_lt tx3 t2932 c2933
          exact hp _ _ lit_0 
        · replace c2933 := c_nlt tx3 t2932 c2933
          refine ⟨vp_of tx1 (by omega) (by omega), ?_⟩
          obtain ⟨z2934, t2935⟩ := t_any (w.2.1 78 x1.toNatClampNeg)
          refine ⟨fun c2936 => ?_, fun c2936 => ?_⟩
          · replace c2936 := c_eq t2935 lit_m1 c2936
            exact hp _ _ lit_1 
          · replace c2936 := c_neq t2935 lit_m1 c2936
            refine ⟨vp_of tx1 (by omega) (by omega), ?_⟩
            refine ⟨fun c2937 => ?_, fun c2937 => ?_⟩
            · replace c2937 := c_le t2935 tx3 c2937
              exact hp _ _ lit_0 
            · replace c2937 := c_nle t2935 tx3 c2937
              exact hp _ _ lit_1 
set_option maxHeartbeats 4000000 in
set_option maxRecDepth 100000 in
theorem sX5_gather_84 {T D : Int} {k : Nat} {k72 : Int32 → Int32 → Wd → Prop} {M72 : Int} {post : Wd → Prop}  (hk72 : ∀ (x3 : Int32) (x4 : Int32) (zx3 : Int) (zx4 : Int) (w : Wd), Ti x3 zx3 → Ti x4 zx4 → IX k T D w → (0 ≤ zx4 ∧ zx4 ≤ 7) → (8 - zx4) < M72 → k72 x3 x4 w) (hp : ∀ (w9 : Wd), IX k T D w9 → post w9) : ∀ (n : Nat) (x3 : Int32) (x4 : Int32) (x5 : Int32) (zx3 : Int) (zx4 : Int) (zx5 : Int) (w : Wd), Ti x3 zx3 → Ti x4 zx4 → Ti x5 zx5 → IX k T D w → (0 ≤ zx5 ∧ zx5 ≤ 7) → (0 ≤ zx4 ∧ zx4 ≤ 7) → ((8 - zx4) ≤ M72) → (8 - zx5) < (n : Int) → pX5_gather_84 k72  post  n x3 x4 x5 w := by
  intro n
  induction n with
  | zero =>
    intro x3 x4 x5 zx3 zx4 zx5 w tx3 tx4 tx5 hI h0 h1 h2 hm
    exact absurd hm (by omega)
  | succ n ih =>
    intro x3 x4 x5 zx3 zx4 zx5 w tx3 tx4 tx5 hI h0 h1 h2 hm
    unfold pX5_gather_84
    have hk := ix_k hI
    obtain ⟨z2938, t2939⟩ := t_any (w.1 90 0)
    have f2940 := ixg_90_0 hI t2939
    refine ⟨fun c2941 => ?_, fun c2941 => ?_⟩
    · replace c2941 := c_le t2939 tx5 c2941
      obtain ⟨z2942, t2943, f2944⟩ := t_add tx4 lit_1
      first | replace f2944 := f2944 (by omega) | clear f2944
      intro x4_2v1545 ex4_2v1545
      have tx4_2v1545 : Ti x4_2v1545 z2942 := by rw [ex4_2v1545]; exact t2943
      exact hk72 _ _ _ _ _ tx3 tx4_2v1545 hI (by omega) (by omega)
    · replace c2941 := c_nle t2939 tx5 c2941
      refine ⟨vp_of tx4 (by omega) (by omega), ?_⟩
      refine ⟨vp_of tx5 (by omega) (by omega), ?_⟩
      obtain ⟨z2945, t2946⟩ := t_any (w.2.1 95 x4.toNatClampNeg)
      obtain ⟨z2947, t2948⟩ := t_any (w.2.1 95 x5.toNatClampNeg)
      refine sX10_changes   (hI := hI) (tx0 := t2946) (tx1 := t2948) (tx2 := tx3)  (hp := fun r_3v1546 zr_3v1546 tr_3v1546 => ?_)
      obtain ⟨z2949, t2950, f2951⟩ := t_mul tx4 lit_7
      first | replace f2951 := f2951 (by omega) | clear f2951
      obtain ⟨z2952, t2953, f2954⟩ := t_add t2950 tx5
      first | replace f2954 := f2954 (by omega) | clear f2954
      refine ⟨vp_of t2953 (by omega) (by omega), ?_⟩
      intro w_5v1550 ew_5v1550
      have hIw_5v1550 := ixs_A hI ew_5v1550 (by decide)
      obtain ⟨z2955, t2956, f2957⟩ := t_add tx5 lit_1
      first | replace f2957 := f2957 (by omega) | clear f2957
      intro x5_6v1551 ex5_6v1551
      have tx5_6v1551 : Ti x5_6v1551 z2955 := by rw [ex5_6v1551]; exact t2956
      exact ih _ _ _ _ _ _ _ tx3 tx4 tx5_6v1551 hIw_5v1550 (by omega) (by omega) (by omega) (by omega)
set_option maxHeartbeats 4000000 in
set_option maxRecDepth 100000 in
theorem sX5_gather_72 {T D : Int} {k : Nat} {post : Wd → Prop}   (hp : ∀ (w9 : Wd), IX k T D w9 → post w9) : ∀ (n : Nat) (x3 : Int32) (x4 : Int32) (zx3 : Int) (zx4 : Int) (w : Wd), Ti x3 zx3 → Ti x4 zx4 → IX k T D w → (0 ≤ zx4 ∧ zx4 ≤ 7) → (8 - zx4) < (n : Int) → pX5_gather_72   post  n x3 x4 w := by
  intro n
  induction n with
  | zero =>
    intro x3 x4 zx3 zx4 w tx3 tx4 hI h0 hm
    exact absurd hm (by omega)
  | succ n ih =>
    intro x3 x4 zx3 zx4 w tx3 tx4 hI h0 hm
    unfold pX5_gather_72
    have hk := ix_k hI
    obtain ⟨z2958, t2959⟩ := t_any (w.1 90 0)
    have f2960 := ixg_90_0 hI t2959
    refine ⟨fun c2961 => ?_, fun c2961 => ?_⟩
    · replace c2961 := c_le t2959 tx4 c2961
      exact hp  _   hI 
    · replace c2961 := c_nle t2959 tx4 c2961
      exact ⟨70000, sX5_gather_84 (M72 := (n : Int)) (hk72 := ih)  (hp := hp) 70000 _ _ _ _ _ _ _ tx3 tx4 lit_0 hI (by omega) (by omega) (by omega) (by omega)⟩
set_option maxHeartbeats 4000000 in
set_option maxRecDepth 100000 in
theorem sX5_gather_8 {T D : Int} {k : Nat} {post : Wd → Prop}   (hp : ∀ (w9 : Wd), IX k T D w9 → post w9) : ∀ (n : Nat) (x2 : Int32) (x3 : Int32) (x4 : Int32) (zx2 : Int) (zx3 : Int) (zx4 : Int) (w : Wd), Ti x2 zx2 → Ti x3 zx3 → Ti x4 zx4 → IX k T D w → (0 ≤ zx4 ∧ zx4 ≤ 40) → (41 - zx4) < (n : Int) → pX5_gather_8   post  n x2 x3 x4 w := by
  intro n
  induction n with
  | zero =>
    intro x2 x3 x4 zx2 zx3 zx4 w tx2 tx3 tx4 hI h0 hm
    exact absurd hm (by omega)
  | succ n ih =>
    intro x2 x3 x4 zx2 zx3 zx4 w tx2 tx3 tx4 hI h0 hm
    unfold pX5_gather_8
    have hk := ix_k hI
    obtain ⟨z2962, t2963⟩ := t_any (w.1 70 0)
    have f2964 := ixg_70_0 hI t2963
    refine ⟨fun c2965 => ?_, fun c2965 => ?_⟩
    · replace c2965 := c_le t2963 tx4 c2965
      unfold pX5_gather_69
      exact ⟨70000, sX5_gather_72   (hp := hp) 70000 _ _ _ _ _ tx3 lit_0 hI (by omega) (by omega)⟩
    · replace c2965 := c_nle t2963 tx4 c2965
      obtain ⟨z2966, t2967⟩ := t_any (w.1 90 0)
      have f2968 := ixg_90_0 hI t2967
      refine ⟨fun c2969 => ?_, fun c2969 => ?_⟩
      · replace c2969 := c_le lit_7 t2967 c2969
        unfold pX5_gather_69
        exact ⟨70000, sX5_gather_72   (hp := hp) 70000 _ _ _ _ _ tx3 lit_0 hI (by omega) (by omega)⟩
      · replace c2969 := c_nle lit_7 t2967 c2969
        refine sX3_counts   (hI := hI) (tx1 := tx4) (tx2 := lit_0) (tx3 := tx2)  (hp := fun r_3v1552 zr_3v1552 tr_3v1552 => ?_)
        refine ⟨fun c2970 => ?_, fun c2970 => ?_⟩
        · replace c2970 := c_eq tr_3v1552 lit_0 c2970
          unfold pX5_gather_63
          obtain ⟨z2971, t2972, f2973⟩ := t_add tx4 lit_1
          first | replace f2973 := f2973 (by omega) | clear f2973
          intro x4_1v1558 ex4_1v1558
          have tx4_1v1558 : Ti x4_1v1558 z2971 := by rw [ex4_1v1558]; exact t2972
          exact ih _ _ _ _ _ _ _ tx2 tx3 tx4_1v1558 hI (by omega) (by omega)
        · replace c2970 := c_neq tr_3v1552 lit_0 c2970
          refine ⟨vp_of tx4 (by omega) (by omega), ?_⟩
          refine ⟨vp_of t2967 (by omega) (by omega), ?_⟩
          intro w_6v1556 ew_6v1556
          have hIw_6v1556 := ixs_A hI ew_6v1556 (by decide)
          intro w_7v1557 ew_7v1557
          have t2974 : Ti (w_6v1556.1 90 0) z2966 := by rw [e1_A ew_6v1556]; exact t2967
          obtain ⟨z2975, t2976, f2977⟩ := t_add t2974 lit_1
          first | replace f2977 := f2977 (by omega) | clear f2977
          have hIw_7v1557 := ixs_90_0 hIw_6v1556 ew_7v1557 t2976 (by omega) (by omega)
          unfold pX5_gather_63
          obtain ⟨z2978, t2979, f2980⟩ := t_add tx4 lit_1
          first | replace f2980 := f2980 (by omega) | clear f2980
          intro x4_1v1559 ex4_1v1559
          have tx4_1v1559 : Ti x4_1v1559 z2978 := by rw [ex4_1v1559]; exact t2979
          exact ih _ _ _ _ _ _ _ tx2 tx3 tx4_1v1559 hIw_7v1557 (by omega) (by omega)
set_option maxHeartbeats 4000000 in
set_option maxRecDepth 100000 in
theorem sX5_gather {T D : Int} {k : Nat} {post : Wd → Prop} {x2 : Int32} {zx2 : Int} {x3 : Int32} {zx3 : Int} {w : Wd}  (tx2 : Ti x2 zx2) (tx3 : Ti x3 zx3) (hI : IX k T D w)  (hp : ∀ (w9 : Wd), IX k T D w9 → post w9) : pX5_gather   post  x2 x3 w := by
  unfold pX5_gather
  have hk := ix_k hI
  intro w_1v1560 ew_1v1560
  have hIw_1v1560 := ixs_90_0 hI ew_1v1560 lit_0 (by omega) (by omega)
  exact ⟨70000, sX5_gather_8   (hp := hp) 70000 _ _ _ _ _ _ _ tx2 tx3 lit_0 hIw_1v1560 (by omega) (by omega)⟩
set_option maxHeartbeats 4000000 in
set_option maxRecDepth 100000 in
theorem sX5_changesFrom {T D : Int} {k : Nat} {post : Int32 → Wd → Prop} {x1 : Int32} {zx1 : Int} {x2 : Int32} {zx2 : Int} {w : Wd}  (tx1 : Ti x1 zx1) (tx2 : Ti x2 zx2) (hI : IX k T D w) (h0 : 0 ≤ zx1 ∧ zx1 ≤ 6) (h1 : 0 ≤ zx2 ∧ zx2 ≤ 6) (hp : ∀ (r : Int32) (zr : Int), Ti r zr → post r w) : pX5_changesFrom   post  x1 x2 w := by
  unfold pX5_changesFrom
  have hk := ix_k hI
  obtain ⟨z2981, t2982, f2983⟩ := t_mul tx1 lit_7
  first | replace f2983 := f2983 (by omega) | clear f2983
  obtain ⟨z2984, t2985, f2986⟩ := t_add t2982 tx2
  first | replace f2986 := f2986 (by omega) | clear f2986
  refine ⟨vp_of t2985 (by omega) (by omega), ?_⟩
  obtain ⟨z2987, t2988⟩ := t_any (w.2.1 96 ((x1 * (7 : Int32)) + x2).toNatClampNeg)
  exact hp _ _ t2988 
set_option maxHeartbeats 4000000 in
set_option maxRecDepth 100000 in
theorem sX5_fewestTo_16 {T D : Int} {k : Nat} {post : Int32 → Wd → Prop} {w : Wd}  (hp : ∀ (r : Int32) (zr : Int), Ti r zr → post r w) : ∀ (n : Nat) (x1 : Int32) (x2 : Int32) (x3 : Int32) (zx1 : Int) (zx2 : Int) (zx3 : Int), Ti x1 zx1 → Ti x2 zx2 → Ti x3 zx3 → IX k T D w → (0 ≤ zx3 ∧ zx3 ≤ 7) → (0 ≤ zx1 ∧ zx1 ≤ 6) → (8 - zx3) < (n : Int) → pX5_fewestTo_16   post  n x1 x2 x3 w := by
  intro n
  induction n with
  | zero =>
    intro x1 x2 x3 zx1 zx2 zx3  tx1 tx2 tx3 hI h0 h1 hm
    exact absurd hm (by omega)
  | succ n ih =>
    intro x1 x2 x3 zx1 zx2 zx3  tx1 tx2 tx3 hI h0 h1 hm
    unfold pX5_fewestTo_16
    have hk := ix_k hI
    obtain ⟨z2989, t2990⟩ := t_any (w.1 90 0)
    have f2991 := ixg_90_0 hI t2990
    refine ⟨fun c2992 => ?_, fun c2992 => ?_⟩
    · replace c2992 := c_le t2990 tx3 c2992
      exact hp _ _ tx2 
    · replace c2992 := c_nle t2990 tx3 c2992
      refine ⟨fun c2993 => ?_, fun c2993 => ?_⟩
      · replace c2993 := c_eq tx3 tx1 c2993
        unfold pX5_fewestTo_40
        obtain ⟨z2994, t2995, f2996⟩ := t_add tx3 lit_1
        first | replace f2996 := f2996 (by omega) | clear f2996
        intro x3_1v1564 ex3_1v1564
        have tx3_1v1564 : Ti x3_1v1564 z2994 := by rw [ex3_1v1564]; exact t2995
        exact ih _ _ _ _ _ _  tx1 tx2 tx3_1v1564 hI (by omega) (by omega) (by omega)
      · replace c2993 := c_neq tx3 tx1 c2993
        refine sX5_changesFrom   (hI := hI) (tx1 := tx3) (tx2 := tx1) (h0 := (by omega)) (h1 := (by omega)) (hp := fun r_3v1561 zr_3v1561 tr_3v1561 => ?_)
        obtain ⟨z2997, t2998, f2999⟩ := t_ite tr_3v1561 tx2 tr_3v1561 tx2
        intro x2_5v1565 ex2_5v1565
        have tx2_5v1565 : Ti x2_5v1565 z2997 := by rw [ex2_5v1565]; exact t2998
        unfold pX5_fewestTo_40
        obtain ⟨z3000, t3001, f3002⟩ := t_add tx3 lit_1
        first | replace f3002 := f3002 (by omega) | clear f3002
        intro x3_1v1566 ex3_1v1566
        have tx3_1v1566 : Ti x3_1v1566 z3000 := by rw [ex3_1v1566]; exact t3001
        exact ih _ _ _ _ _ _  tx1 tx2_5v1565 tx3_1v1566 hI (by omega) (by omega) (by omega)
set_option maxHeartbeats 4000000 in
set_option maxRecDepth 100000 in
theorem sX5_fewestTo {T D : Int} {k : Nat} {post : Int32 → Wd → Prop} {x1 : Int32} {zx1 : Int} {w : Wd}  (tx1 : Ti x1 zx1) (hI : IX k T D w) (h0 : 0 ≤ zx1 ∧ zx1 ≤ 6) (hp : ∀ (r : Int32) (zr : Int), Ti r zr → post r w) : pX5_fewestTo   post  x1 w := by
  unfold pX5_fewestTo
  have hk := ix_k hI
  obtain ⟨z3003, t3004⟩ := t_any (w.1 90 6)
  refine ⟨fun c3005 => ?_, fun c3005 => ?_⟩
  · replace c3005 := c_neq tx1 t3004 c3005
    exact ⟨70000, sX5_fewestTo_16   (hp := hp) 70000 _ _ _ _ _ _  tx1 lit_1000 lit_0 hI (by omega) (by omega) (by omega)⟩
  · replace c3005 := c_eq tx1 t3004 c3005
    exact hp _ _ lit_0 
set_option maxHeartbeats 4000000 in
set_option maxRecDepth 100000 in
theorem sX5_comesFrom_5 {T D : Int} {k : Nat} {post : Int32 → Wd → Prop} {w : Wd}  (hp : ∀ (r : Int32) (zr : Int), Ti r zr → post r w) : ∀ (n : Nat) (x2 : Int32) (x3 : Int32) (x4 : Int32) (zx2 : Int) (zx3 : Int) (zx4 : Int), Ti x2 zx2 → Ti x3 zx3 → Ti x4 zx4 → IX k T D w → (0 ≤ zx4 ∧ zx4 ≤ 7) → (-1 ≤ zx3 ∧ zx3 ≤ 6) → (8 - zx4) < (n : Int) → pX5_comesFrom_5   post  n x2 x3 x4 w := by
  intro n
  induction n with
  | zero =>
    intro x2 x3 x4 zx2 zx3 zx4  tx2 tx3 tx4 hI h0 h1 hm
    exact absurd hm (by omega)
  | succ n ih =>
    intro x2 x3 x4 zx2 zx3 zx4  tx2 tx3 tx4 hI h0 h1 hm
    unfold pX5_comesFrom_5
    have hk := ix_k hI
    refine ⟨fun c3006 => ?_, fun c3006 => ?_⟩
    · replace c3006 := c_le lit_7 tx4 c3006
      refine ⟨fun c3007 => ?_, fun c3007 => ?_⟩
      · replace c3007 := c_neq tx3 tx2 c3007
        exact hp _ _ lit_0 
      · replace c3007 := c_eq tx3 tx2 c3007
        exact hp _ _ lit_1 
    · replace c3006 := c_nle lit_7 tx4 c3006
      refine ⟨fun c3008 => ?_, fun c3008 => ?_⟩
      · replace c3008 := c_eq tx3 tx2 c3008
        refine ⟨fun c3009 => ?_, fun c3009 => ?_⟩
        · replace c3009 := c_neq tx3 tx2 c3009
          exact hp _ _ lit_0 
        · replace c3009 := c_eq tx3 tx2 c3009
          exact hp _ _ lit_1 
      · replace c3008 := c_neq tx3 tx2 c3008
        refine ⟨fun c3010 => ?_, fun c3010 => ?_⟩
        · replace c3010 := c_eq tx3 lit_m1 c3010
          refine ⟨fun c3011 => ?_, fun c3011 => ?_⟩
          · replace c3011 := c_neq tx3 tx2 c3011
            exact hp _ _ lit_0 
          · replace c3011 := c_eq tx3 tx2 c3011
            exact hp _ _ lit_1 
        · replace c3010 := c_neq tx3 lit_m1 c3010
          refine ⟨vp_of tx3 (by omega) (by omega), ?_⟩
          obtain ⟨z3012, t3013⟩ := t_any (w.2.1 98 x3.toNatClampNeg)
          have f3014 := ixg_98 hI t3013
          intro x3_7v1567 ex3_7v1567
          have tx3_7v1567 : Ti x3_7v1567 z3012 := by rw [ex3_7v1567]; exact t3013
          obtain ⟨z3015, t3016, f3017⟩ := t_add tx4 lit_1
          first | replace f3017 := f3017 (by omega) | clear f3017
          intro x4_8v1568 ex4_8v1568
          have tx4_8v1568 : Ti x4_8v1568 z3015 := by rw [ex4_8v1568]; exact t3016
          exact ih _ _ _ _ _ _  tx2 tx3_7v1567 tx4_8v1568 hI (by omega) (by omega) (by omega)
set_option maxHeartbeats 4000000 in
set_option maxRecDepth 100000 in
theorem sX5_comesFrom {T D : Int} {k : Nat} {post : Int32 → Wd → Prop} {x1 : Int32} {zx1 : Int} {x2 : Int32} {zx2 : Int} {w : Wd}  (tx1 : Ti x1 zx1) (tx2 : Ti x2 zx2) (hI : IX k T D w) (h0 : 0 ≤ zx1 ∧ zx1 ≤ 6) (hp : ∀ (r : Int32) (zr : Int), Ti r zr → post r w) : pX5_comesFrom   post  x1 x2 w := by
  unfold pX5_comesFrom
  have hk := ix_k hI
  exact ⟨70000, sX5_comesFrom_5   (hp := hp) 70000 _ _ _ _ _ _  tx2 tx1 lit_0 hI (by omega) (by omega) (by omega)⟩
set_option maxHeartbeats 4000000 in
set_option maxRecDepth 100000 in
theorem sX5_keepTree {T D : Int} {k : Nat} {post : Wd → Prop} {x1 : Int32} {zx1 : Int} {w : Wd}  (tx1 : Ti x1 zx1) (hI : IX k T D w)  (hp : ∀ (w9 : Wd), IX k T D w9 → post w9) : pX5_keepTree   post  x1 w := by
  unfold pX5_keepTree
  have hk := ix_k hI
  obtain ⟨z3018, t3019⟩ := t_any (w.1 90 1)
  refine ⟨fun c3020 => ?_, fun c3020 => ?_⟩
  · replace c3020 := c_le t3019 tx1 c3020
    intro w_2v1569 ew_2v1569
    have hIw_2v1569 := ixs_n hI ew_2v1569 (by unfold nX; omega)
    exact hp  _   hIw_2v1569 
  · replace c3020 := c_nle t3019 tx1 c3020
    intro w_3v1570 ew_3v1570
    have hIw_3v1570 := ixs_n hI ew_3v1570 (by unfold nX; omega)
    intro w_4v1571 ew_4v1571
    have hIw_4v1571 := ixs_n hIw_3v1570 ew_4v1571 (by unfold nX; omega)
    intro w_5v1572 ew_5v1572
    have hIw_5v1572 := ixs_C hIw_4v1571 ew_5v1572 (by decide)
    intro w_6v1573 ew_6v1573
    have hIw_6v1573 := ixs_n hIw_5v1572 ew_6v1573 (by unfold nX; omega)
    exact hp  _   hIw_6v1573 
set_option maxHeartbeats 4000000 in
set_option maxRecDepth 100000 in
theorem sX5_grow_61 {T D : Int} {k : Nat} {qX5_grow : (Wd → Prop) → Int32 → Int32 → Wd → Prop} {Mq : Int} {post : Wd → Prop}  (hqX5_grow : ∀ (post : Wd → Prop) (x1 : Int32) (x2 : Int32) (zx1 : Int) (zx2 : Int) (w : Wd), Ti x1 zx1 → Ti x2 zx2 → IX k T D w → (0 ≤ zx1 ∧ zx1 ≤ 8) → (9 - zx1) < Mq → (∀ (w9 : Wd), IX k T D w9 → post w9) → qX5_grow post x1 x2 w) (hp : ∀ (w9 : Wd), IX k T D w9 → post w9) : ∀ (n : Nat) (x1 : Int32) (x2 : Int32) (x3 : Int32) (zx1 : Int) (zx2 : Int) (zx3 : Int) (w : Wd), Ti x1 zx1 → Ti x2 zx2 → Ti x3 zx3 → IX k T D w → (0 ≤ zx3 ∧ zx3 ≤ 7) → (0 ≤ zx1 ∧ zx1 ≤ 6) → ((9 - zx1) ≤ Mq) → (8 - zx3) < (n : Int) → pX5_grow_61  qX5_grow post  n x1 x2 x3 w := by
  intro n
  induction n with
  | zero =>
    intro x1 x2 x3 zx1 zx2 zx3 w tx1 tx2 tx3 hI h0 h1 h2 hm
    exact absurd hm (by omega)
  | succ n ih =>
    intro x1 x2 x3 zx1 zx2 zx3 w tx1 tx2 tx3 hI h0 h1 h2 hm
    unfold pX5_grow_61
    have hk := ix_k hI
    obtain ⟨z3021, t3022⟩ := t_any (w.1 90 0)
    have f3023 := ixg_90_0 hI t3022
    refine ⟨fun c3024 => ?_, fun c3024 => ?_⟩
    · replace c3024 := c_le t3022 tx3 c3024
      exact hp  _   hI 
    · replace c3024 := c_nle t3022 tx3 c3024
      refine sX5_comesFrom   (hI := hI) (tx1 := tx3) (tx2 := tx1) (h0 := (by omega)) (hp := fun r_2v1574 zr_2v1574 tr_2v1574 => ?_)
      refine ⟨fun c3025 => ?_, fun c3025 => ?_⟩
      · replace c3025 := c_neq tr_2v1574 lit_0 c3025
        unfold pX5_grow_107
        obtain ⟨z3026, t3027, f3028⟩ := t_add tx3 lit_1
        first | replace f3028 := f3028 (by omega) | clear f3028
        intro x3_1v1586 ex3_1v1586
        have tx3_1v1586 : Ti x3_1v1586 z3026 := by rw [ex3_1v1586]; exact t3027
        exact ih _ _ _ _ _ _ _ tx1 tx2 tx3_1v1586 hI (by omega) (by omega) (by omega) (by omega)
      · replace c3025 := c_eq tr_2v1574 lit_0 c3025
        refine ⟨vp_of tx1 (by omega) (by omega), ?_⟩
        intro w_5v1581 ew_5v1581
        have hIw_5v1581 := ixs_98 hI ew_5v1581 tx3 (by omega) (by omega)
        refine sX5_changesFrom   (hI := hIw_5v1581) (tx1 := tx3) (tx2 := tx1) (h0 := (by omega)) (h1 := (by omega)) (hp := fun r_6v1582 zr_6v1582 tr_6v1582 => ?_)
        obtain ⟨z3029, t3030, f3031⟩ := t_add tx1 lit_1
        first | replace f3031 := f3031 (by omega) | clear f3031
        obtain ⟨z3032, t3033, f3034⟩ := t_add tx2 tr_6v1582
        first | replace f3034 := f3034 (by omega) | clear f3034
        refine hqX5_grow _ _ _ _ _ _ t3030 t3033 hIw_5v1581 (by omega) (by omega) (fun  w_8v1587   hIw_8v1587  => ?_)
        refine ⟨vp_of tx1 (by omega) (by omega), ?_⟩
        intro w_9v1588 ew_9v1588
        have hIw_9v1588 := ixs_98 hIw_8v1587 ew_9v1588 lit_m1 (by omega) (by omega)
        unfold pX5_grow_107
        obtain ⟨z3035, t3036, f3037⟩ := t_add tx3 lit_1
        first | replace f3037 := f3037 (by omega) | clear f3037
        intro x3_1v1589 ex3_1v1589
        have tx3_1v1589 : Ti x3_1v1589 z3035 := by rw [ex3_1v1589]; exact t3036
        exact ih _ _ _ _ _ _ _ tx1 tx2 tx3_1v1589 hIw_9v1588 (by omega) (by omega) (by omega) (by omega)
set_option maxHeartbeats 4000000 in
set_option maxRecDepth 100000 in
theorem sX5_grow {T D : Int} {k : Nat} {qX5_grow : (Wd → Prop) → Int32 → Int32 → Wd → Prop} {Mq : Int} {post : Wd → Prop} {x1 : Int32} {zx1 : Int} {x2 : Int32} {zx2 : Int} {w : Wd} (hqX5_grow : ∀ (post : Wd → Prop) (x1 : Int32) (x2 : Int32) (zx1 : Int) (zx2 : Int) (w : Wd), Ti x1 zx1 → Ti x2 zx2 → IX k T D w → (0 ≤ zx1 ∧ zx1 ≤ 8) → (9 - zx1) < Mq → (∀ (w9 : Wd), IX k T D w9 → post w9) → qX5_grow post x1 x2 w) (tx1 : Ti x1 zx1) (tx2 : Ti x2 zx2) (hI : IX k T D w) (h0 : 0 ≤ zx1 ∧ zx1 ≤ 8) (h1 : (9 - zx1) ≤ Mq) (hp : ∀ (w9 : Wd), IX k T D w9 → post w9) : pX5_grow  qX5_grow post  x1 x2 w := by
  unfold pX5_grow
  have hk := ix_k hI
  obtain ⟨z3038, t3039⟩ := t_any (w.1 90 0)
  have f3040 := ixg_90_0 hI t3039
  refine ⟨fun c3041 => ?_, fun c3041 => ?_⟩
  · replace c3041 := c_lt t3039 tx1 c3041
    exact hp  _   hI 
  · replace c3041 := c_nlt t3039 tx1 c3041
    refine ⟨vp_of tx1 (by omega) (by omega), ?_⟩
    obtain ⟨z3042, t3043⟩ := t_any (w.2.1 99 x1.toNatClampNeg)
    obtain ⟨z3044, t3045, f3046⟩ := t_add tx2 t3043
    first | replace f3046 := f3046 (by omega) | clear f3046
    obtain ⟨z3047, t3048⟩ := t_any (w.1 90 1)
    refine ⟨fun c3049 => ?_, fun c3049 => ?_⟩
    · replace c3049 := c_le t3045 t3048 c3049
      refine ⟨fun c3050 => ?_, fun c3050 => ?_⟩
      · replace c3050 := c_neq tx1 t3039 c3050
        obtain ⟨z3051, t3052⟩ := t_any (w.1 90 6)
        refine ⟨fun c3053 => ?_, fun c3053 => ?_⟩
        · replace c3053 := c_neq tx1 t3052 c3053
          exact ⟨70000, sX5_grow_61  (hqX5_grow := hqX5_grow) (hp := hp) 70000 _ _ _ _ _ _ _ tx1 tx2 lit_0 hI (by omega) (by omega) (by omega) (by omega)⟩
        · replace c3053 := c_eq tx1 t3052 c3053
          obtain ⟨z3054, t3055, f3056⟩ := t_add tx1 lit_1
          first | replace f3056 := f3056 (by omega) | clear f3056
          refine hqX5_grow _ _ _ _ _ _ t3055 tx2 hI (by omega) (by omega) (fun  w_5v1590   hIw_5v1590  => ?_)
          exact hp  _   hIw_5v1590 
      · replace c3050 := c_eq tx1 t3039 c3050
        refine sX5_keepTree   (hI := hI) (tx1 := tx2)  (hp := fun  w_6v1591   hIw_6v1591  => ?_)
        exact hp  _   hIw_6v1591 
    · replace c3049 := c_nle t3045 t3048 c3049
      exact hp  _   hI 
theorem sd9X5_grow {T D : Int} {k : Nat} : ∀ (d : Nat) (post : Wd → Prop) (x1 : Int32) (x2 : Int32) (zx1 : Int) (zx2 : Int) (w : Wd), Ti x1 zx1 → Ti x2 zx2 → IX k T D w → (0 ≤ zx1 ∧ zx1 ≤ 8) → (9 - zx1) < (d : Int) → (∀ (w9 : Wd), IX k T D w9 → post w9) → d9X5_grow d post x1 x2 w := by
  intro d
  induction d with
  | zero =>
    intro post x1 x2 zx1 zx2 w tx1 tx2 hI h0 hm hp
    exact absurd hm (by omega)
  | succ d ih =>
    intro post x1 x2 zx1 zx2 w tx1 tx2 hI h0 hm hp
    show pX5_grow (d9X5_grow d) post x1 x2 w
    exact sX5_grow (Mq := (d : Int)) (hqX5_grow := ih) (hI := hI) (tx1 := tx1) (tx2 := tx2) (h0 := h0) (h1 := (by omega)) (hp := hp)
theorem sdX5_grow {T D : Int} {k : Nat} {d : Nat} {post : Wd → Prop} {x1 : Int32} {zx1 : Int} {x2 : Int32} {zx2 : Int} {w : Wd} (tx1 : Ti x1 zx1) (tx2 : Ti x2 zx2) (hI : IX k T D w) (h0 : 0 ≤ zx1 ∧ zx1 ≤ 8) (hm : (9 - zx1) < (d : Int)) (hp : ∀ (w9 : Wd), IX k T D w9 → post w9) : dX5_grow d post x1 x2 w := sd9X5_grow d post x1 x2 zx1 zx2 w tx1 tx2 hI h0 hm hp
set_option maxHeartbeats 4000000 in
set_option maxRecDepth 100000 in
theorem sX5_growFrom_34 {T D : Int} {k : Nat} {post : Wd → Prop}   (hp : ∀ (w9 : Wd), IX k T D w9 → post w9) : ∀ (n : Nat) (x2 : Int32) (zx2 : Int) (w : Wd), Ti x2 zx2 → IX k T D w → (-1 ≤ zx2 ∧ zx2 ≤ 6) → (zx2 + 2) < (n : Int) → pX5_growFrom_34   post  n x2 w := by
  intro n
  induction n with
  | zero =>
    intro x2 zx2 w tx2 hI h0 hm
    exact absurd hm (by omega)
  | succ n ih =>
    intro x2 zx2 w tx2 hI h0 hm
    unfold pX5_growFrom_34
    have hk := ix_k hI
    refine ⟨fun c3057 => ?_, fun c3057 => ?_⟩
    · replace c3057 := c_lt tx2 lit_0 c3057
      refine sdX5_grow lit_0 lit_0 hI (by omega) (by omega) (fun  w_2v1592   hIw_2v1592  => ?_)
      exact hp  _   hIw_2v1592 
    · replace c3057 := c_nlt tx2 lit_0 c3057
      obtain ⟨z3058, t3059, f3060⟩ := t_add tx2 lit_1
      first | replace f3060 := f3060 (by omega) | clear f3060
      refine ⟨vp_of t3059 (by omega) (by omega), ?_⟩
      refine sX5_fewestTo   (hI := hI) (tx1 := tx2) (h0 := (by omega)) (hp := fun r_3v1593 zr_3v1593 tr_3v1593 => ?_)
      refine ⟨vp_of tx2 (by omega) (by omega), ?_⟩
      intro w_5v1598 ew_5v1598
      have hIw_5v1598 := ixs_A hI ew_5v1598 (by decide)
      refine ⟨vp_of tx2 (by omega) (by omega), ?_⟩
      intro w_6v1599 ew_6v1599
      have hIw_6v1599 := ixs_98 hIw_5v1598 ew_6v1599 lit_m1 (by omega) (by omega)
      obtain ⟨z3061, t3062, f3063⟩ := t_add tx2 lit_m1
      first | replace f3063 := f3063 (by omega) | clear f3063
      intro x2_7v1600 ex2_7v1600
      have tx2_7v1600 : Ti x2_7v1600 z3061 := by rw [ex2_7v1600]; exact t3062
      exact ih _ _ _ tx2_7v1600 hIw_6v1599 (by omega) (by omega)
set_option maxHeartbeats 4000000 in
set_option maxRecDepth 100000 in
theorem sX5_growFrom {T D : Int} {k : Nat} {post : Wd → Prop} {x1 : Int32} {zx1 : Int} {w : Wd}  (tx1 : Ti x1 zx1) (hI : IX k T D w)  (hp : ∀ (w9 : Wd), IX k T D w9 → post w9) : pX5_growFrom   post  x1 w := by
  unfold pX5_growFrom
  have hk := ix_k hI
  intro w_1v1601 ew_1v1601
  have hIw_1v1601 := ixs_n hI ew_1v1601 (by unfold nX; omega)
  intro w_2v1602 ew_2v1602
  have hIw_2v1602 := ixs_n hIw_1v1601 ew_2v1602 (by unfold nX; omega)
  intro w_3v1603 ew_3v1603
  have hIw_3v1603 := ixs_n hIw_2v1602 ew_3v1603 (by unfold nX; omega)
  obtain ⟨z3067, t3068⟩ := t_any (w.1 90 0)
  have f3069 := ixg_90_0 hI t3068
  have t3066 : Ti (w_1v1601.1 90 0) z3067 := by rw [ew_1v1601, sI_ne (by omega)]; exact t3068
  have t3065 : Ti (w_2v1602.1 90 0) z3067 := by rw [ew_2v1602, sI_ne (by omega)]; exact t3066
  have t3064 : Ti (w_3v1603.1 90 0) z3067 := by rw [ew_3v1603, sI_ne (by omega)]; exact t3065
  refine ⟨vp_of t3064 (by omega) (by omega), ?_⟩
  intro w_4v1604 ew_4v1604
  have hIw_4v1604 := ixs_A hIw_3v1603 ew_4v1604 (by decide)
  have t3070 : Ti (w_4v1604.1 90 0) z3067 := by rw [e1_A ew_4v1604]; exact t3064
  obtain ⟨z3071, t3072, f3073⟩ := t_sub t3070 lit_1
  first | replace f3073 := f3073 (by omega) | clear f3073
  intro x2_5v1605 ex2_5v1605
  have tx2_5v1605 : Ti x2_5v1605 z3071 := by rw [ex2_5v1605]; exact t3072
  exact ⟨70000, sX5_growFrom_34   (hp := hp) 70000 _ _ _ tx2_5v1605 hIw_4v1604 (by omega) (by omega)⟩
set_option maxHeartbeats 4000000 in
set_option maxRecDepth 100000 in
theorem sX10_tree_64 {T D : Int} {k : Nat} {post : Int32 → Wd → Prop}   (hp : ∀ (r : Int32) (zr : Int) (w9 : Wd), Ti r zr → IX k T D w9 → post r w9) : ∀ (n : Nat) (x2 : Int32) (x4 : Int32) (zx2 : Int) (zx4 : Int) (w : Wd), Ti x2 zx2 → Ti x4 zx4 → IX k T D w → (0 ≤ zx4 ∧ zx4 ≤ 7) → (8 - zx4) < (n : Int) → pX10_tree_64   post  n x2 x4 w := by
  intro n
  induction n with
  | zero =>
    intro x2 x4 zx2 zx4 w tx2 tx4 hI h0 hm
    exact absurd hm (by omega)
  | succ n ih =>
    intro x2 x4 zx2 zx4 w tx2 tx4 hI h0 hm
    unfold pX10_tree_64
    have hk := ix_k hI
    obtain ⟨z3074, t3075⟩ := t_any (w.1 90 0)
    have f3076 := ixg_90_0 hI t3075
    refine ⟨fun c3077 => ?_, fun c3077 => ?_⟩
    · replace c3077 := c_le t3075 tx4 c3077
      refine ⟨fun c3078 => ?_, fun c3078 => ?_⟩
      · replace c3078 := c_neq tx2 lit_0 c3078
        obtain ⟨z3079, t3080⟩ := t_any (w.1 90 2)
        exact hp _ _ _  t3080 hI 
      · replace c3078 := c_eq tx2 lit_0 c3078
        obtain ⟨z3081, t3082⟩ := t_any (w.1 90 1)
        exact hp _ _ _  t3082 hI 
    · replace c3077 := c_nle t3075 tx4 c3077
      refine ⟨vp_of tx4 (by omega) (by omega), ?_⟩
      obtain ⟨z3083, t3084⟩ := t_any (w.2.1 94 x4.toNatClampNeg)
      refine sX4_lay   (hI := hI) (tx1 := t3084)  (hp := fun  w_3v1606   hIw_3v1606  => ?_)
      obtain ⟨z3085, t3086, f3087⟩ := t_add tx4 lit_1
      first | replace f3087 := f3087 (by omega) | clear f3087
      intro x4_4v1607 ex4_4v1607
      have tx4_4v1607 : Ti x4_4v1607 z3085 := by rw [ex4_4v1607]; exact t3086
      exact ih _ _ _ _ _ tx2 tx4_4v1607 hIw_3v1606 (by omega) (by omega)
set_option maxHeartbeats 4000000 in
set_option maxRecDepth 100000 in
theorem sX10_tree {T D : Int} {k : Nat} {post : Int32 → Wd → Prop} {x1 : Int32} {zx1 : Int} {x2 : Int32} {zx2 : Int} {x3 : Int32} {zx3 : Int} {w : Wd}  (tx1 : Ti x1 zx1) (tx2 : Ti x2 zx2) (tx3 : Ti x3 zx3) (hI : IX k T D w)  (hp : ∀ (r : Int32) (zr : Int) (w9 : Wd), Ti r zr → IX k T D w9 → post r w9) : pX10_tree   post  x1 x2 x3 w := by
  unfold pX10_tree
  have hk := ix_k hI
  intro w_1v1608 ew_1v1608
  have hIw_1v1608 := ixs_110_1 hI ew_1v1608 lit_0 (by omega) (by omega)
  obtain ⟨z3089, t3090⟩ := t_any (w.1 (rl (w_1v1608.2.2.2.2 0)) 0)
  have f3091 := ixg_r0 hI t3090
  have t3088 : Ti (w_1v1608.1 (rl (w_1v1608.2.2.2.2 0)) 0) z3089 := by rw [ew_1v1608, sI_ne (by have := rl_or (w_1v1608.2.2.2.2 0); omega)]; exact t3090
  refine sX5_gather   (hI := hIw_1v1608) (tx2 := tx3) (tx3 := t3088)  (hp := fun  w_2v1609   hIw_2v1609  => ?_)
  refine ⟨fun c3092 => ?_, fun c3092 => ?_⟩
  · replace c3092 := c_lt tx1 lit_0 c3092
    exact hp _ _ _  lit_m1 hIw_2v1609 
  · replace c3092 := c_nlt tx1 lit_0 c3092
    obtain ⟨z3093, t3094⟩ := t_any (w_2v1609.1 90 0)
    have f3095 := ixg_90_0 hIw_2v1609 t3094
    refine ⟨fun c3096 => ?_, fun c3096 => ?_⟩
    · replace c3096 := c_le t3094 tx1 c3096
      exact hp _ _ _  lit_m1 hIw_2v1609 
    · replace c3096 := c_nle t3094 tx1 c3096
      refine ⟨fun c3097 => ?_, fun c3097 => ?_⟩
      · replace c3097 := c_lt tx2 lit_0 c3097
        exact hp _ _ _  lit_m1 hIw_2v1609 
      · replace c3097 := c_nlt tx2 lit_0 c3097
        refine ⟨fun c3098 => ?_, fun c3098 => ?_⟩
        · replace c3098 := c_le tx2 lit_1 c3098
          refine sX5_growFrom   (hI := hIw_2v1609) (tx1 := tx1)  (hp := fun  w_7v1610   hIw_7v1610  => ?_)
          exact ⟨70000, sX10_tree_64   (hp := hp) 70000 _ _ _ _ _ tx2 lit_0 hIw_7v1610 (by omega) (by omega)⟩
        · replace c3098 := c_nle tx2 lit_1 c3098
          exact hp _ _ _  lit_m1 hIw_2v1609 
set_option maxHeartbeats 4000000 in
set_option maxRecDepth 100000 in
theorem sX5_changesToOthers_4 {T D : Int} {k : Nat} {post : Int32 → Wd → Prop} {w : Wd}  (hp : ∀ (r : Int32) (zr : Int), Ti r zr → post r w) : ∀ (n : Nat) (x1 : Int32) (x2 : Int32) (x3 : Int32) (zx1 : Int) (zx2 : Int) (zx3 : Int), Ti x1 zx1 → Ti x2 zx2 → Ti x3 zx3 → IX k T D w → (0 ≤ zx3 ∧ zx3 ≤ 7) → (0 ≤ zx1 ∧ zx1 ≤ 6) → (8 - zx3) < (n : Int) → pX5_changesToOthers_4   post  n x1 x2 x3 w := by
  intro n
  induction n with
  | zero =>
    intro x1 x2 x3 zx1 zx2 zx3  tx1 tx2 tx3 hI h0 h1 hm
    exact absurd hm (by omega)
  | succ n ih =>
    intro x1 x2 x3 zx1 zx2 zx3  tx1 tx2 tx3 hI h0 h1 hm
    unfold pX5_changesToOthers_4
    have hk := ix_k hI
    obtain ⟨z3099, t3100⟩ := t_any (w.1 90 0)
    have f3101 := ixg_90_0 hI t3100
    refine ⟨fun c3102 => ?_, fun c3102 => ?_⟩
    · replace c3102 := c_le t3100 tx3 c3102
      exact hp _ _ tx2 
    · replace c3102 := c_nle t3100 tx3 c3102
      refine ⟨fun c3103 => ?_, fun c3103 => ?_⟩
      · replace c3103 := c_neq tx3 tx1 c3103
        refine sX5_changesFrom   (hI := hI) (tx1 := tx1) (tx2 := tx3) (h0 := (by omega)) (h1 := (by omega)) (hp := fun r_3v1611 zr_3v1611 tr_3v1611 => ?_)
        unfold pX5_changesToOthers_28
        obtain ⟨z3104, t3105, f3106⟩ := t_add tx2 tr_3v1611
        first | replace f3106 := f3106 (by omega) | clear f3106
        intro x2_1v1613 ex2_1v1613
        have tx2_1v1613 : Ti x2_1v1613 z3104 := by rw [ex2_1v1613]; exact t3105
        obtain ⟨z3107, t3108, f3109⟩ := t_add tx3 lit_1
        first | replace f3109 := f3109 (by omega) | clear f3109
        intro x3_2v1614 ex3_2v1614
        have tx3_2v1614 : Ti x3_2v1614 z3107 := by rw [ex3_2v1614]; exact t3108
        exact ih _ _ _ _ _ _  tx1 tx2_1v1613 tx3_2v1614 hI (by omega) (by omega) (by omega)
      · replace c3103 := c_eq tx3 tx1 c3103
        unfold pX5_changesToOthers_28
        obtain ⟨z3110, t3111, f3112⟩ := t_add tx2 lit_0
        first | replace f3112 := f3112 (by omega) | clear f3112
        intro x2_1v1615 ex2_1v1615
        have tx2_1v1615 : Ti x2_1v1615 z3110 := by rw [ex2_1v1615]; exact t3111
        obtain ⟨z3113, t3114, f3115⟩ := t_add tx3 lit_1
        first | replace f3115 := f3115 (by omega) | clear f3115
        intro x3_2v1616 ex3_2v1616
        have tx3_2v1616 : Ti x3_2v1616 z3113 := by rw [ex3_2v1616]; exact t3114
        exact ih _ _ _ _ _ _  tx1 tx2_1v1615 tx3_2v1616 hI (by omega) (by omega) (by omega)
set_option maxHeartbeats 4000000 in
set_option maxRecDepth 100000 in
theorem sX5_changesToOthers {T D : Int} {k : Nat} {post : Int32 → Wd → Prop} {x1 : Int32} {zx1 : Int} {w : Wd}  (tx1 : Ti x1 zx1) (hI : IX k T D w) (h0 : 0 ≤ zx1 ∧ zx1 ≤ 6) (hp : ∀ (r : Int32) (zr : Int), Ti r zr → post r w) : pX5_changesToOthers   post  x1 w := by
  unfold pX5_changesToOthers
  have hk := ix_k hI
  exact ⟨70000, sX5_changesToOthers_4   (hp := hp) 70000 _ _ _ _ _ _  tx1 lit_0 lit_0 hI (by omega) (by omega) (by omega)⟩
set_option maxHeartbeats 4000000 in
set_option maxRecDepth 100000 in
theorem sX10_centre_45 {T D : Int} {k : Nat} {post : Int32 → Wd → Prop}   (hp : ∀ (r : Int32) (zr : Int) (w9 : Wd), Ti r zr → IX k T D w9 → post r w9) : ∀ (n : Nat) (x1 : Int32) (x3 : Int32) (x4 : Int32) (zx1 : Int) (zx3 : Int) (zx4 : Int) (w : Wd), Ti x1 zx1 → Ti x3 zx3 → Ti x4 zx4 → IX k T D w → (0 ≤ zx4 ∧ zx4 ≤ 7) → (0 ≤ zx3 ∧ zx3 ≤ 6) → (8 - zx4) < (n : Int) → pX10_centre_45   post  n x1 x3 x4 w := by
  intro n
  induction n with
  | zero =>
    intro x1 x3 x4 zx1 zx3 zx4 w tx1 tx3 tx4 hI h0 h1 hm
    exact absurd hm (by omega)
  | succ n ih =>
    intro x1 x3 x4 zx1 zx3 zx4 w tx1 tx3 tx4 hI h0 h1 hm
    unfold pX10_centre_45
    have hk := ix_k hI
    obtain ⟨z3116, t3117⟩ := t_any (w.1 90 0)
    have f3118 := ixg_90_0 hI t3117
    refine ⟨fun c3119 => ?_, fun c3119 => ?_⟩
    · replace c3119 := c_le t3117 tx4 c3119
      refine ⟨fun c3120 => ?_, fun c3120 => ?_⟩
      · replace c3120 := c_neq tx1 lit_0 c3120
        refine sX5_changesToOthers   (hI := hI) (tx1 := tx3) (h0 := (by omega)) (hp := fun r_3v1617 zr_3v1617 tr_3v1617 => ?_)
        exact hp _ _ _  tr_3v1617 hI 
      · replace c3120 := c_eq tx1 lit_0 c3120
        exact hp _ _ _  tx3 hI 
    · replace c3119 := c_nle t3117 tx4 c3119
      refine sX5_changesToOthers   (hI := hI) (tx1 := tx4) (h0 := (by omega)) (hp := fun r_5v1619 zr_5v1619 tr_5v1619 => ?_)
      refine sX5_changesToOthers   (hI := hI) (tx1 := tx3) (h0 := (by omega)) (hp := fun r_7v1623 zr_7v1623 tr_7v1623 => ?_)
      refine ⟨fun c3121 => ?_, fun c3121 => ?_⟩
      · replace c3121 := c_le tr_7v1623 tr_5v1619 c3121
        unfold pX10_centre_80
        obtain ⟨z3122, t3123, f3124⟩ := t_add tx4 lit_1
        first | replace f3124 := f3124 (by omega) | clear f3124
        intro x4_1v1625 ex4_1v1625
        have tx4_1v1625 : Ti x4_1v1625 z3122 := by rw [ex4_1v1625]; exact t3123
        exact ih _ _ _ _ _ _ _ tx1 tx3 tx4_1v1625 hI (by omega) (by omega) (by omega)
      · replace c3121 := c_nle tr_7v1623 tr_5v1619 c3121
        unfold pX10_centre_80
        obtain ⟨z3125, t3126, f3127⟩ := t_add tx4 lit_1
        first | replace f3127 := f3127 (by omega) | clear f3127
        intro x4_1v1626 ex4_1v1626
        have tx4_1v1626 : Ti x4_1v1626 z3125 := by rw [ex4_1v1626]; exact t3126
        exact ih _ _ _ _ _ _ _ tx1 tx4 tx4_1v1626 hI (by omega) (by omega) (by omega)
set_option maxHeartbeats 4000000 in
set_option maxRecDepth 100000 in
theorem sX10_centre {T D : Int} {k : Nat} {post : Int32 → Wd → Prop} {x1 : Int32} {zx1 : Int} {x2 : Int32} {zx2 : Int} {w : Wd}  (tx1 : Ti x1 zx1) (tx2 : Ti x2 zx2) (hI : IX k T D w)  (hp : ∀ (r : Int32) (zr : Int) (w9 : Wd), Ti r zr → IX k T D w9 → post r w9) : pX10_centre   post  x1 x2 w := by
  unfold pX10_centre
  have hk := ix_k hI
  obtain ⟨z3128, t3129⟩ := t_any (w.1 (rl (w.2.2.2.2 0)) 0)
  have f3130 := ixg_r0 hI t3129
  refine sX5_gather   (hI := hI) (tx2 := tx2) (tx3 := t3129)  (hp := fun  w_1v1627   hIw_1v1627  => ?_)
  obtain ⟨z3131, t3132⟩ := t_any (w_1v1627.1 90 0)
  have f3133 := ixg_90_0 hIw_1v1627 t3132
  refine ⟨fun c3134 => ?_, fun c3134 => ?_⟩
  · replace c3134 := c_eq t3132 lit_0 c3134
    exact hp _ _ _  lit_m1 hIw_1v1627 
  · replace c3134 := c_neq t3132 lit_0 c3134
    refine ⟨fun c3135 => ?_, fun c3135 => ?_⟩
    · replace c3135 := c_lt tx1 lit_0 c3135
      exact hp _ _ _  lit_m1 hIw_1v1627 
    · replace c3135 := c_nlt tx1 lit_0 c3135
      refine ⟨fun c3136 => ?_, fun c3136 => ?_⟩
      · replace c3136 := c_le tx1 lit_1 c3136
        exact ⟨70000, sX10_centre_45   (hp := hp) 70000 _ _ _ _ _ _ _ tx1 lit_0 lit_1 hIw_1v1627 (by omega) (by omega) (by omega)⟩
      · replace c3136 := c_nle tx1 lit_1 c3136
        exact hp _ _ _  lit_m1 hIw_1v1627 
set_option maxHeartbeats 4000000 in
set_option maxRecDepth 100000 in
theorem sX5_clanCount_4 {T D : Int} {k : Nat} {post : Int32 → Wd → Prop} {w : Wd}  (hp : ∀ (r : Int32) (zr : Int), Ti r zr → post r w) : ∀ (n : Nat) (x1 : Int32) (x2 : Int32) (zx1 : Int) (zx2 : Int), Ti x1 zx1 → Ti x2 zx2 → IX k T D w → (0 ≤ zx2 ∧ zx2 ≤ 7) → (8 - zx2) < (n : Int) → pX5_clanCount_4   post  n x1 x2 w := by
  intro n
  induction n with
  | zero =>
    intro x1 x2 zx1 zx2  tx1 tx2 hI h0 hm
    exact absurd hm (by omega)
  | succ n ih =>
    intro x1 x2 zx1 zx2  tx1 tx2 hI h0 hm
    unfold pX5_clanCount_4
    have hk := ix_k hI
    obtain ⟨z3137, t3138⟩ := t_any (w.1 90 0)
    have f3139 := ixg_90_0 hI t3138
    refine ⟨fun c3140 => ?_, fun c3140 => ?_⟩
    · replace c3140 := c_le t3138 tx2 c3140
      exact hp _ _ tx1 
    · replace c3140 := c_nle t3138 tx2 c3140
      refine ⟨vp_of tx2 (by omega) (by omega), ?_⟩
      obtain ⟨z3141, t3142⟩ := t_any (w.2.1 100 x2.toNatClampNeg)
      refine ⟨fun c3143 => ?_, fun c3143 => ?_⟩
      · replace c3143 := c_neq t3142 tx2 c3143
        unfold pX5_clanCount_28
        obtain ⟨z3144, t3145, f3146⟩ := t_add tx1 lit_0
        first | replace f3146 := f3146 (by omega) | clear f3146
        intro x1_1v1628 ex1_1v1628
        have tx1_1v1628 : Ti x1_1v1628 z3144 := by rw [ex1_1v1628]; exact t3145
        obtain ⟨z3147, t3148, f3149⟩ := t_add tx2 lit_1
        first | replace f3149 := f3149 (by omega) | clear f3149
        intro x2_2v1629 ex2_2v1629
        have tx2_2v1629 : Ti x2_2v1629 z3147 := by rw [ex2_2v1629]; exact t3148
        exact ih _ _ _ _  tx1_1v1628 tx2_2v1629 hI (by omega) (by omega)
      · replace c3143 := c_eq t3142 tx2 c3143
        unfold pX5_clanCount_28
        obtain ⟨z3150, t3151, f3152⟩ := t_add tx1 lit_1
        first | replace f3152 := f3152 (by omega) | clear f3152
        intro x1_1v1630 ex1_1v1630
        have tx1_1v1630 : Ti x1_1v1630 z3150 := by rw [ex1_1v1630]; exact t3151
        obtain ⟨z3153, t3154, f3155⟩ := t_add tx2 lit_1
        first | replace f3155 := f3155 (by omega) | clear f3155
        intro x2_2v1631 ex2_2v1631
        have tx2_2v1631 : Ti x2_2v1631 z3153 := by rw [ex2_2v1631]; exact t3154
        exact ih _ _ _ _  tx1_1v1630 tx2_2v1631 hI (by omega) (by omega)
set_option maxHeartbeats 4000000 in
set_option maxRecDepth 100000 in
theorem sX5_clanCount {T D : Int} {k : Nat} {post : Int32 → Wd → Prop}  {w : Wd}   (hI : IX k T D w)  (hp : ∀ (r : Int32) (zr : Int), Ti r zr → post r w) : pX5_clanCount   post   w := by
  unfold pX5_clanCount
  have hk := ix_k hI
  exact ⟨70000, sX5_clanCount_4   (hp := hp) 70000 _ _ _ _  lit_0 lit_0 hI (by omega) (by omega)⟩
set_option maxHeartbeats 4000000 in
set_option maxRecDepth 100000 in
theorem sX5_joinClan_9 {T D : Int} {k : Nat} {post : Wd → Prop}   (hp : ∀ (w9 : Wd), IX k T D w9 → post w9) : ∀ (n : Nat) (x1 : Int32) (x2 : Int32) (x3 : Int32) (x4 : Int32) (zx1 : Int) (zx2 : Int) (zx3 : Int) (zx4 : Int) (w : Wd), Ti x1 zx1 → Ti x2 zx2 → Ti x3 zx3 → Ti x4 zx4 → IX k T D w → (0 ≤ zx4 ∧ zx4 ≤ 7) → (8 - zx4) < (n : Int) → pX5_joinClan_9   post  n x1 x2 x3 x4 w := by
  intro n
  induction n with
  | zero =>
    intro x1 x2 x3 x4 zx1 zx2 zx3 zx4 w tx1 tx2 tx3 tx4 hI h0 hm
    exact absurd hm (by omega)
  | succ n ih =>
    intro x1 x2 x3 x4 zx1 zx2 zx3 zx4 w tx1 tx2 tx3 tx4 hI h0 hm
    unfold pX5_joinClan_9
    have hk := ix_k hI
    obtain ⟨z3156, t3157⟩ := t_any (w.1 90 0)
    have f3158 := ixg_90_0 hI t3157
    refine ⟨fun c3159 => ?_, fun c3159 => ?_⟩
    · replace c3159 := c_le t3157 tx4 c3159
      exact hp  _   hI 
    · replace c3159 := c_nle t3157 tx4 c3159
      refine ⟨vp_of tx4 (by omega) (by omega), ?_⟩
      obtain ⟨z3160, t3161⟩ := t_any (w.2.1 100 x4.toNatClampNeg)
      refine ⟨fun c3162 => ?_, fun c3162 => ?_⟩
      · replace c3162 := c_eq t3161 tx1 c3162
        unfold pX5_joinClan_40
        refine ⟨vp_of tx4 (by omega) (by omega), ?_⟩
        intro w_1v1632 ew_1v1632
        have hIw_1v1632 := ixs_A hI ew_1v1632 (by decide)
        unfold pX5_joinClan_48
        obtain ⟨z3163, t3164, f3165⟩ := t_add tx4 lit_1
        first | replace f3165 := f3165 (by omega) | clear f3165
        intro x4_1v1633 ex4_1v1633
        have tx4_1v1633 : Ti x4_1v1633 z3163 := by rw [ex4_1v1633]; exact t3164
        exact ih _ _ _ _ _ _ _ _ _ tx1 tx2 tx3 tx4_1v1633 hIw_1v1632 (by omega) (by omega)
      · replace c3162 := c_neq t3161 tx1 c3162
        refine ⟨vp_of tx4 (by omega) (by omega), ?_⟩
        refine ⟨fun c3166 => ?_, fun c3166 => ?_⟩
        · replace c3166 := c_neq t3161 tx2 c3166
          unfold pX5_joinClan_48
          obtain ⟨z3167, t3168, f3169⟩ := t_add tx4 lit_1
          first | replace f3169 := f3169 (by omega) | clear f3169
          intro x4_1v1634 ex4_1v1634
          have tx4_1v1634 : Ti x4_1v1634 z3167 := by rw [ex4_1v1634]; exact t3168
          exact ih _ _ _ _ _ _ _ _ _ tx1 tx2 tx3 tx4_1v1634 hI (by omega) (by omega)
        · replace c3166 := c_eq t3161 tx2 c3166
          unfold pX5_joinClan_40
          refine ⟨vp_of tx4 (by omega) (by omega), ?_⟩
          intro w_1v1635 ew_1v1635
          have hIw_1v1635 := ixs_A hI ew_1v1635 (by decide)
          unfold pX5_joinClan_48
          obtain ⟨z3170, t3171, f3172⟩ := t_add tx4 lit_1
          first | replace f3172 := f3172 (by omega) | clear f3172
          intro x4_1v1636 ex4_1v1636
          have tx4_1v1636 : Ti x4_1v1636 z3170 := by rw [ex4_1v1636]; exact t3171
          exact ih _ _ _ _ _ _ _ _ _ tx1 tx2 tx3 tx4_1v1636 hIw_1v1635 (by omega) (by omega)
set_option maxHeartbeats 4000000 in
set_option maxRecDepth 100000 in
theorem sX5_joinClan {T D : Int} {k : Nat} {post : Wd → Prop} {x1 : Int32} {zx1 : Int} {x2 : Int32} {zx2 : Int} {w : Wd}  (tx1 : Ti x1 zx1) (tx2 : Ti x2 zx2) (hI : IX k T D w)  (hp : ∀ (w9 : Wd), IX k T D w9 → post w9) : pX5_joinClan   post  x1 x2 w := by
  unfold pX5_joinClan
  have hk := ix_k hI
  obtain ⟨z3173, t3174, f3175⟩ := t_ite tx2 tx1 tx2 tx1
  intro x3_1v1637 ex3_1v1637
  have tx3_1v1637 : Ti x3_1v1637 z3173 := by rw [ex3_1v1637]; exact t3174
  exact ⟨70000, sX5_joinClan_9   (hp := hp) 70000 _ _ _ _ _ _ _ _ _ tx1 tx2 tx3_1v1637 lit_0 hI (by omega) (by omega)⟩
set_option maxHeartbeats 4000000 in
set_option maxRecDepth 100000 in
theorem sX5_joinClans_35 {T D : Int} {k : Nat} {k25 : Int32 → Int32 → Wd → Prop} {M25 : Int} {post : Wd → Prop}  (hk25 : ∀ (x1 : Int32) (x2 : Int32) (zx1 : Int) (zx2 : Int) (w : Wd), Ti x1 zx1 → Ti x2 zx2 → IX k T D w → (0 ≤ zx2 ∧ zx2 ≤ 7) → (8 - zx2) < M25 → k25 x1 x2 w) (hp : ∀ (w9 : Wd), IX k T D w9 → post w9) : ∀ (n : Nat) (x1 : Int32) (x2 : Int32) (x3 : Int32) (zx1 : Int) (zx2 : Int) (zx3 : Int) (w : Wd), Ti x1 zx1 → Ti x2 zx2 → Ti x3 zx3 → IX k T D w → (0 ≤ zx3 ∧ zx3 ≤ 7) → (zx2 ≤ 6) → (0 ≤ zx2 ∧ zx2 ≤ 7) → ((8 - zx2) ≤ M25) → (8 - zx3) < (n : Int) → pX5_joinClans_35 k25  post  n x1 x2 x3 w := by
  intro n
  induction n with
  | zero =>
    intro x1 x2 x3 zx1 zx2 zx3 w tx1 tx2 tx3 hI h0 h1 h2 h3 hm
    exact absurd hm (by omega)
  | succ n ih =>
    intro x1 x2 x3 zx1 zx2 zx3 w tx1 tx2 tx3 hI h0 h1 h2 h3 hm
    unfold pX5_joinClans_35
    have hk := ix_k hI
    refine ⟨fun c3176 => ?_, fun c3176 => ?_⟩
    · replace c3176 := c_le tx2 tx3 c3176
      obtain ⟨z3177, t3178, f3179⟩ := t_add tx2 lit_1
      first | replace f3179 := f3179 (by omega) | clear f3179
      intro x2_2v1638 ex2_2v1638
      have tx2_2v1638 : Ti x2_2v1638 z3177 := by rw [ex2_2v1638]; exact t3178
      exact hk25 _ _ _ _ _ tx1 tx2_2v1638 hI (by omega) (by omega)
    · replace c3176 := c_nle tx2 tx3 c3176
      refine sX5_changesFrom   (hI := hI) (tx1 := tx2) (tx2 := tx3) (h0 := (by omega)) (h1 := (by omega)) (hp := fun r_3v1639 zr_3v1639 tr_3v1639 => ?_)
      refine sX5_changesFrom   (hI := hI) (tx1 := tx3) (tx2 := tx2) (h0 := (by omega)) (h1 := (by omega)) (hp := fun r_5v1644 zr_5v1644 tr_5v1644 => ?_)
      obtain ⟨z3180, t3181, f3182⟩ := t_ite tr_5v1644 tr_3v1639 tr_5v1644 tr_3v1639
      refine ⟨fun c3183 => ?_, fun c3183 => ?_⟩
      · replace c3183 := c_lt tx1 t3181 c3183
        unfold pX5_joinClans_75
        obtain ⟨z3184, t3185, f3186⟩ := t_add tx3 lit_1
        first | replace f3186 := f3186 (by omega) | clear f3186
        intro x3_1v1648 ex3_1v1648
        have tx3_1v1648 : Ti x3_1v1648 z3184 := by rw [ex3_1v1648]; exact t3185
        exact ih _ _ _ _ _ _ _ tx1 tx2 tx3_1v1648 hI (by omega) (by omega) (by omega) (by omega) (by omega)
      · replace c3183 := c_nlt tx1 t3181 c3183
        refine ⟨vp_of tx2 (by omega) (by omega), ?_⟩
        refine ⟨vp_of tx3 (by omega) (by omega), ?_⟩
        obtain ⟨z3187, t3188⟩ := t_any (w.2.1 100 x2.toNatClampNeg)
        obtain ⟨z3189, t3190⟩ := t_any (w.2.1 100 x3.toNatClampNeg)
        refine sX5_joinClan   (hI := hI) (tx1 := t3188) (tx2 := t3190)  (hp := fun  w_8v1647   hIw_8v1647  => ?_)
        unfold pX5_joinClans_75
        obtain ⟨z3191, t3192, f3193⟩ := t_add tx3 lit_1
        first | replace f3193 := f3193 (by omega) | clear f3193
        intro x3_1v1649 ex3_1v1649
        have tx3_1v1649 : Ti x3_1v1649 z3191 := by rw [ex3_1v1649]; exact t3192
        exact ih _ _ _ _ _ _ _ tx1 tx2 tx3_1v1649 hIw_8v1647 (by omega) (by omega) (by omega) (by omega) (by omega)
set_option maxHeartbeats 4000000 in
set_option maxRecDepth 100000 in
theorem sX5_joinClans_25 {T D : Int} {k : Nat} {post : Wd → Prop}   (hp : ∀ (w9 : Wd), IX k T D w9 → post w9) : ∀ (n : Nat) (x1 : Int32) (x2 : Int32) (zx1 : Int) (zx2 : Int) (w : Wd), Ti x1 zx1 → Ti x2 zx2 → IX k T D w → (0 ≤ zx2 ∧ zx2 ≤ 7) → (8 - zx2) < (n : Int) → pX5_joinClans_25   post  n x1 x2 w := by
  intro n
  induction n with
  | zero =>
    intro x1 x2 zx1 zx2 w tx1 tx2 hI h0 hm
    exact absurd hm (by omega)
  | succ n ih =>
    intro x1 x2 zx1 zx2 w tx1 tx2 hI h0 hm
    unfold pX5_joinClans_25
    have hk := ix_k hI
    obtain ⟨z3194, t3195⟩ := t_any (w.1 90 0)
    have f3196 := ixg_90_0 hI t3195
    refine ⟨fun c3197 => ?_, fun c3197 => ?_⟩
    · replace c3197 := c_le t3195 tx2 c3197
      exact hp  _   hI 
    · replace c3197 := c_nle t3195 tx2 c3197
      exact ⟨70000, sX5_joinClans_35 (M25 := (n : Int)) (hk25 := ih)  (hp := hp) 70000 _ _ _ _ _ _ _ tx1 tx2 lit_0 hI (by omega) (by omega) (by omega) (by omega) (by omega)⟩
