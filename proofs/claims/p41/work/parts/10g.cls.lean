set_option maxHeartbeats 4000000 in
set_option maxRecDepth 100000 in
theorem sX9_seek {T D : Int} {k : Nat} {post : Int32 → Wd → Prop} {x1 : Int32} {zx1 : Int} {x2 : Int32} {zx2 : Int} {w : Wd}  (tx1 : Ti x1 zx1) (tx2 : Ti x2 zx2) (hI : IX k T D w) (h0 : 0 ≤ zx2) (hp : ∀ (r : Int32) (zr : Int) (w9 : Wd), Ti r zr → IX k T D w9 → post r w9) : pX9_seek   post  x1 x2 w := by
  unfold pX9_seek
  have hk := ix_k hI
  intro w_1v1430 ew_1v1430
  have hIw_1v1430 := ixs_n hI ew_1v1430 (by unfold nX; omega)
  intro w_2v1431 ew_2v1431
  obtain ⟨z2877, t2878, f2879⟩ := t_ite lit_4096 tx2 lit_4096 tx2
  have hIw_2v1431 := ixs_60_4 hIw_1v1430 ew_2v1431 t2878 (by omega) (by omega)
  exact ⟨70000, sX9_seek_18    (hp := hp) 70000 _ _ _ lit_0 hIw_2v1431 (by omega) (by omega)⟩
set_option maxHeartbeats 4000000 in
set_option maxRecDepth 100000 in
theorem sX10_wax {T D : Int} {k : Nat} {post : Int32 → Wd → Prop} {x1 : Int32} {zx1 : Int} {w : Wd}  (tx1 : Ti x1 zx1) (hI : IX k T D w)  (hp : ∀ (r : Int32) (zr : Int) (w9 : Wd), Ti r zr → IX k T D w9 → post r w9) : pX10_wax   post  x1 w := by
  unfold pX10_wax
  have hk := ix_k hI
  intro w_1v1432 ew_1v1432
  have hIw_1v1432 := ixs_110_1 hI ew_1v1432 lit_0 (by omega) (by omega)
  refine sX10_isRow   (hI := hIw_1v1432) (tx1 := tx1)  (hp := fun r_2v1433 zr_2v1433 tr_2v1433 p2880 => ?_)
  refine ⟨fun c2881 => ?_, fun c2881 => ?_⟩
  · replace c2881 := c_neq tr_2v1433 lit_0 c2881
    refine sX7_rows   (hI := hIw_1v1432)   (hp := fun r_5v1443 zr_5v1443 tr_5v1443 p2882 => ?_)
    refine sX9_seek   (hI := hIw_1v1432) (tx1 := tx1) (tx2 := tr_5v1443) (h0 := (by omega)) (hp := fun r_7v1451 zr_7v1451 w_8v1452  tr_7v1451 hIw_8v1452  => ?_)
    refine sX10_isSeal   (hI := hIw_8v1452) (tx1 := tr_7v1451)  (hp := fun r_9v1453 zr_9v1453 tr_9v1453 p2883 => ?_)
    refine ⟨fun c2884 => ?_, fun c2884 => ?_⟩
    · replace c2884 := c_neq tr_9v1453 lit_0 c2884
      refine sX4_lay   (hI := hIw_8v1452) (tx1 := tr_7v1451)  (hp := fun  w_12v1457   hIw_12v1457  => ?_)
      refine ⟨vp_of tr_7v1451 (by omega) (by omega), ?_⟩
      obtain ⟨z2885, t2886⟩ := t_any (w_12v1457.2.1 162 r_7v1451.toNatClampNeg)
      refine sX9_layWay   (hI := hIw_12v1457) (tx1 := t2886)  (hp := fun  w_13v1458   hIw_13v1458  => ?_)
      obtain ⟨z2887, t2888⟩ := t_any (w_13v1458.1 60 5)
      exact hp _ _ _  t2888 hIw_13v1458 
    · replace c2884 := c_eq tr_9v1453 lit_0 c2884
      exact hp _ _ _  lit_m1 hIw_8v1452 
  · replace c2881 := c_eq tr_2v1433 lit_0 c2881
    exact hp _ _ _  lit_m1 hIw_1v1432 
set_option maxHeartbeats 4000000 in
set_option maxRecDepth 100000 in
theorem sX3_add {T D : Int} {k : Nat} {post : Int32 → Wd → Prop} {x1 : Int32} {zx1 : Int} {x2 : Int32} {zx2 : Int} {x3 : Int32} {zx3 : Int} {x4 : Int32} {zx4 : Int} {w : Wd}  (tx1 : Ti x1 zx1) (tx2 : Ti x2 zx2) (tx3 : Ti x3 zx3) (tx4 : Ti x4 zx4) (hI : IX k T D w)  (hp : ∀ (r : Int32) (zr : Int) (w9 : Wd), Ti r zr → IX k T D w9 → post r w9) : pX3_add   post  x1 x2 x3 x4 w := by
  unfold pX3_add
  have hk := ix_k hI
  obtain ⟨z2889, t2890⟩ := t_any (w.1 70 0)
  have f2891 := ixg_70_0 hI t2890
  refine ⟨fun c2892 => ?_, fun c2892 => ?_⟩
  · replace c2892 := c_lt t2890 lit_0 c2892
    exact hp _ _ _  lit_m1 hI 
  · replace c2892 := c_nlt t2890 lit_0 c2892
    refine ⟨fun c2893 => ?_, fun c2893 => ?_⟩
    · replace c2893 := c_lt t2890 lit_40 c2893
      refine ⟨vp_of t2890 (by omega) (by omega), ?_⟩
      intro w_3v1459 ew_3v1459
      have hIw_3v1459 := ixs_A hI ew_3v1459 (by decide)
      have t2894 : Ti (w_3v1459.1 70 0) z2889 := by rw [e1_A ew_3v1459]; exact t2890
      refine ⟨vp_of t2894 (by omega) (by omega), ?_⟩
      intro w_4v1460 ew_4v1460
      have hIw_4v1460 := ixs_A hIw_3v1459 ew_4v1460 (by decide)
      have t2895 : Ti (w_4v1460.1 70 0) z2889 := by rw [e1_A ew_4v1460]; exact t2894
      refine ⟨vp_of t2895 (by omega) (by omega), ?_⟩
      intro w_5v1461 ew_5v1461
      have hIw_5v1461 := ixs_A hIw_4v1460 ew_5v1461 (by decide)
      have t2896 : Ti (w_5v1461.1 70 0) z2889 := by rw [e1_A ew_5v1461]; exact t2895
      refine ⟨vp_of t2896 (by omega) (by omega), ?_⟩
      intro w_6v1462 ew_6v1462
      have hIw_6v1462 := ixs_A hIw_5v1461 ew_6v1462 (by decide)
      have t2897 : Ti (w_6v1462.1 70 0) z2889 := by rw [e1_A ew_6v1462]; exact t2896
      refine ⟨vp_of t2897 (by omega) (by omega), ?_⟩
      intro w_7v1463 ew_7v1463
      have hIw_7v1463 := ixs_A hIw_6v1462 ew_7v1463 (by decide)
      have t2898 : Ti (w_7v1463.1 70 0) z2889 := by rw [e1_A ew_7v1463]; exact t2897
      refine ⟨vp_of t2898 (by omega) (by omega), ?_⟩
      intro w_8v1464 ew_8v1464
      have hIw_8v1464 := ixs_A hIw_7v1463 ew_8v1464 (by decide)
      intro w_9v1465 ew_9v1465
      have t2899 : Ti (w_8v1464.1 70 0) z2889 := by rw [e1_A ew_8v1464]; exact t2898
      obtain ⟨z2900, t2901, f2902⟩ := t_add t2899 lit_1
      first | replace f2902 := f2902 (by omega) | clear f2902
      have hIw_9v1465 := ixs_70_0 hIw_8v1464 ew_9v1465 t2901 (by omega) (by omega)
      have t2903 : Ti (w_9v1465.1 70 0) z2900 := by rw [ew_9v1465, sI_at]; exact t2901
      obtain ⟨z2904, t2905, f2906⟩ := t_sub t2903 lit_1
      first | replace f2906 := f2906 (by omega) | clear f2906
      exact hp _ _ _  t2905 hIw_9v1465 
    · replace c2893 := c_nlt t2890 lit_40 c2893
      exact hp _ _ _  lit_m1 hI 
set_option maxHeartbeats 4000000 in
set_option maxRecDepth 100000 in
theorem sX10_sample {T D : Int} {k : Nat} {post : Int32 → Wd → Prop} {x1 : Int32} {zx1 : Int} {x2 : Int32} {zx2 : Int} {w : Wd}  (tx1 : Ti x1 zx1) (tx2 : Ti x2 zx2) (hI : IX k T D w)  (hp : ∀ (r : Int32) (zr : Int) (w9 : Wd), Ti r zr → IX k T D w9 → post r w9) : pX10_sample   post  x1 x2 w := by
  unfold pX10_sample
  have hk := ix_k hI
  refine sX10_isRow   (hI := hI) (tx1 := tx1)  (hp := fun r_1v1466 zr_1v1466 tr_1v1466 p2907 => ?_)
  refine ⟨fun c2908 => ?_, fun c2908 => ?_⟩
  · replace c2908 := c_eq tr_1v1466 lit_0 c2908
    exact hp _ _ _  lit_m1 hI 
  · replace c2908 := c_neq tr_1v1466 lit_0 c2908
    refine ⟨fun c2909 => ?_, fun c2909 => ?_⟩
    · replace c2909 := c_eq tx2 lit_0 c2909
      refine sX3_add   (hI := hI) (tx1 := lit_0) (tx2 := tx1) (tx3 := lit_0) (tx4 := lit_0)  (hp := fun r_5v1472 zr_5v1472 w_6v1473  tr_5v1472 hIw_6v1473  => ?_)
      exact hp _ _ _  tr_5v1472 hIw_6v1473 
    · replace c2909 := c_neq tx2 lit_0 c2909
      refine sX3_add   (hI := hI) (tx1 := lit_0) (tx2 := tx1) (tx3 := lit_0) (tx4 := lit_1)  (hp := fun r_7v1474 zr_7v1474 w_8v1475  tr_7v1474 hIw_8v1475  => ?_)
      exact hp _ _ _  tr_7v1474 hIw_8v1475 
set_option maxHeartbeats 4000000 in
set_option maxRecDepth 100000 in
theorem sX10_isYear {T D : Int} {k : Nat} {post : Int32 → Wd → Prop} {x0 : Int32} {zx0 : Int} {w : Wd}  (tx0 : Ti x0 zx0) (hI : IX k T D w)  (hp : ∀ (r : Int32) (zr : Int), Ti r zr → post r w) : pX10_isYear   post  x0 w := by
  unfold pX10_isYear
  have hk := ix_k hI
  refine ⟨fun c2910 => ?_, fun c2910 => ?_⟩
  · replace c2910 := c_lt tx0 lit_0 c2910
    exact hp _ _ lit_0 
  · replace c2910 := c_nlt tx0 lit_0 c2910
    refine ⟨fun c2911 => ?_, fun c2911 => ?_⟩
    · replace c2911 := c_lt lit_999 tx0 c2911
      exact hp _ _ lit_0 
    · replace c2911 := c_nlt lit_999 tx0 c2911
      exact hp _ _ lit_1 
set_option maxHeartbeats 4000000 in
set_option maxRecDepth 100000 in
theorem sX10_claim {T D : Int} {k : Nat} {post : Int32 → Wd → Prop} {x1 : Int32} {zx1 : Int} {x2 : Int32} {zx2 : Int} {x3 : Int32} {zx3 : Int} {w : Wd}  (tx1 : Ti x1 zx1) (tx2 : Ti x2 zx2) (tx3 : Ti x3 zx3) (hI : IX k T D w)  (hp : ∀ (r : Int32) (zr : Int) (w9 : Wd), Ti r zr → IX k T D w9 → post r w9) : pX10_claim   post  x1 x2 x3 w := by
  unfold pX10_claim
  have hk := ix_k hI
  refine sX10_isRow   (hI := hI) (tx1 := tx1)  (hp := fun r_1v1476 zr_1v1476 tr_1v1476 p2912 => ?_)
  refine ⟨fun c2913 => ?_, fun c2913 => ?_⟩
  · replace c2913 := c_eq tr_1v1476 lit_0 c2913
    exact hp _ _ _  lit_m1 hI 
  · replace c2913 := c_neq tr_1v1476 lit_0 c2913
    refine sX10_isSeal   (hI := hI) (tx1 := tx2)  (hp := fun r_4v1484 zr_4v1484 tr_4v1484 p2914 => ?_)
    refine ⟨fun c2915 => ?_, fun c2915 => ?_⟩
    · replace c2915 := c_eq tr_4v1484 lit_0 c2915
      exact hp _ _ _  lit_m1 hI 
    · replace c2915 := c_neq tr_4v1484 lit_0 c2915
      refine sX10_isYear   (hI := hI) (tx0 := tx3)  (hp := fun r_7v1490 zr_7v1490 tr_7v1490 => ?_)
      refine ⟨fun c2916 => ?_, fun c2916 => ?_⟩
      · replace c2916 := c_neq tr_7v1490 lit_0 c2916
        refine sX3_add   (hI := hI) (tx1 := lit_1) (tx2 := tx1) (tx3 := tx2) (tx4 := tx3)  (hp := fun r_10v1494 zr_10v1494 w_11v1495  tr_10v1494 hIw_11v1495  => ?_)
        exact hp _ _ _  tr_10v1494 hIw_11v1495 
      · replace c2916 := c_eq tr_7v1490 lit_0 c2916
        exact hp _ _ _  lit_m1 hI 
set_option maxHeartbeats 4000000 in
set_option maxRecDepth 100000 in
theorem sX10_saw {T D : Int} {k : Nat} {post : Int32 → Wd → Prop} {x1 : Int32} {zx1 : Int} {x2 : Int32} {zx2 : Int} {x3 : Int32} {zx3 : Int} {w : Wd}  (tx1 : Ti x1 zx1) (tx2 : Ti x2 zx2) (tx3 : Ti x3 zx3) (hI : IX k T D w)  (hp : ∀ (r : Int32) (zr : Int) (w9 : Wd), Ti r zr → IX k T D w9 → post r w9) : pX10_saw   post  x1 x2 x3 w := by
  unfold pX10_saw
  have hk := ix_k hI
  refine sX10_isMark   (hI := hI) (tx1 := tx1)  (hp := fun r_1v1496 zr_1v1496 tr_1v1496 p2917 => ?_)
  refine ⟨fun c2918 => ?_, fun c2918 => ?_⟩
  · replace c2918 := c_eq tr_1v1496 lit_0 c2918
    exact hp _ _ _  lit_m1 hI 
  · replace c2918 := c_neq tr_1v1496 lit_0 c2918
    refine sX10_isYear   (hI := hI) (tx0 := tx2)  (hp := fun r_4v1504 zr_4v1504 tr_4v1504 => ?_)
    refine ⟨fun c2919 => ?_, fun c2919 => ?_⟩
    · replace c2919 := c_eq tr_4v1504 lit_0 c2919
      exact hp _ _ _  lit_m1 hI 
    · replace c2919 := c_neq tr_4v1504 lit_0 c2919
      refine ⟨fun c2920 => ?_, fun c2920 => ?_⟩
      · replace c2920 := c_eq tx3 lit_0 c2920
        refine sX3_add   (hI := hI) (tx1 := lit_2) (tx2 := tx1) (tx3 := tx2) (tx4 := lit_0)  (hp := fun r_8v1510 zr_8v1510 w_9v1511  tr_8v1510 hIw_9v1511  => ?_)
        exact hp _ _ _  tr_8v1510 hIw_9v1511 
      · replace c2920 := c_neq tx3 lit_0 c2920
        refine sX3_add   (hI := hI) (tx1 := lit_2) (tx2 := tx1) (tx3 := tx2) (tx4 := lit_1)  (hp := fun r_10v1512 zr_10v1512 w_11v1513  tr_10v1512 hIw_11v1513  => ?_)
        exact hp _ _ _  tr_10v1512 hIw_11v1513 
set_option maxHeartbeats 4000000 in
set_option maxRecDepth 100000 in
theorem sX10_isPaper {T D : Int} {k : Nat} {post : Int32 → Wd → Prop} {x0 : Int32} {zx0 : Int} {w : Wd}  (tx0 : Ti x0 zx0) (hI : IX k T D w)  (hp : ∀ (r : Int32) (zr : Int), Ti r zr → ((zr = 0 ∨ (0 ≤ zx0 ∧ zx0 ≤ 7))) → post r w) : pX10_isPaper   post  x0 w := by
  unfold pX10_isPaper
  have hk := ix_k hI
  refine ⟨fun c2921 => ?_, fun c2921 => ?_⟩
  · replace c2921 := c_lt tx0 lit_0 c2921
    exact hp _ _ lit_0 (by omega)
  · replace c2921 := c_nlt tx0 lit_0 c2921
    refine ⟨fun c2922 => ?_, fun c2922 => ?_⟩
    · replace c2922 := c_le lit_8 tx0 c2922
      exact hp _ _ lit_0 (by omega)
    · replace c2922 := c_nle lit_8 tx0 c2922
      exact hp _ _ lit_1 (by omega)
set_option maxHeartbeats 4000000 in
set_option maxRecDepth 100000 in
theorem sX10_link {T D : Int} {k : Nat} {post : Int32 → Wd → Prop} {x1 : Int32} {zx1 : Int} {x2 : Int32} {zx2 : Int} {x3 : Int32} {zx3 : Int} {w : Wd}  (tx1 : Ti x1 zx1) (tx2 : Ti x2 zx2) (tx3 : Ti x3 zx3) (hI : IX k T D w)  (hp : ∀ (r : Int32) (zr : Int) (w9 : Wd), Ti r zr → IX k T D w9 → post r w9) : pX10_link   post  x1 x2 x3 w := by
  unfold pX10_link
  have hk := ix_k hI
  refine sX10_isPaper   (hI := hI) (tx0 := tx1)  (hp := fun r_1v1514 zr_1v1514 tr_1v1514 p2923 => ?_)
  refine ⟨fun c2924 => ?_, fun c2924 => ?_⟩
  · replace c2924 := c_eq tr_1v1514 lit_0 c2924
    exact hp _ _ _  lit_m1 hI 
  · replace c2924 := c_neq tr_1v1514 lit_0 c2924
    refine sX10_isPaper   (hI := hI) (tx0 := tx2)  (hp := fun r_4v1522 zr_4v1522 tr_4v1522 p2925 => ?_)
    refine ⟨fun c2926 => ?_, fun c2926 => ?_⟩
    · replace c2926 := c_eq tr_4v1522 lit_0 c2926
      exact hp _ _ _  lit_m1 hI 
    · replace c2926 := c_neq tr_4v1522 lit_0 c2926
      refine ⟨fun c2927 => ?_, fun c2927 => ?_⟩
      · replace c2927 := c_neq tx1 tx2 c2927
        refine ⟨fun c2928 => ?_, fun c2928 => ?_⟩
        · replace c2928 := c_eq tx3 lit_0 c2928
          refine sX3_add   (hI := hI) (tx1 := lit_3) (tx2 := tx1) (tx3 := tx2) (tx4 := lit_0)  (hp := fun r_9v1528 zr_9v1528 w_10v1529  tr_9v1528 hIw_10v1529  => ?_)
          exact hp _ _ _  tr_9v1528 hIw_10v1529 
        · replace c2928 := c_neq tx3 lit_0 c2928
          refine sX3_add   (hI := hI) (tx1 := lit_3) (tx2 := tx1) (tx3 := tx2) (tx4 := lit_1)  (hp := fun r_11v1530 zr_11v1530 w_12v1531  tr_11v1530 hIw_12v1531  => ?_)
          exact hp _ _ _  tr_11v1530 hIw_12v1531 
      · replace c2927 := c_eq tx1 tx2 c2927
        exact hp _ _ _  lit_m1 hI 
set_option maxHeartbeats 4000000 in
set_option maxRecDepth 100000 in
theorem sX10_untell {T D : Int} {k : Nat} {post : Int32 → Wd → Prop} {x1 : Int32} {zx1 : Int} {w : Wd}  (tx1 : Ti x1 zx1) (hI : IX k T D w)  (hp : ∀ (r : Int32) (zr : Int) (w9 : Wd), Ti r zr → IX k T D w9 → post r w9) : pX10_untell   post  x1 w := by
  unfold pX10_untell
  have hk := ix_k hI
  refine ⟨fun c2929 => ?_, fun c2929 => ?_⟩
  · replace c2929 := c_lt tx1 lit_0 c2929
    exact hp _ _ _  lit_0 hI 
  · replace c2929 := c_nlt tx1 lit_0 c2929
    obtain ⟨z2930, t2931⟩ := t_any (w.1 70 0)
    have f2932 := ixg_70_0 hI t2931
    refine ⟨fun c2933 => ?_, fun c2933 => ?_⟩
    · replace c2933 := c_le t2931 tx1 c2933
      exact hp _ _ _  lit_0 hI 
    · replace c2933 := c_nle t2931 tx1 c2933
      refine ⟨vp_of tx1 (by omega) (by omega), ?_⟩
      obtain ⟨z2934, t2935⟩ := t_any (w.2.1 78 x1.toNatClampNeg)
      refine ⟨fun c2936 => ?_, fun c2936 => ?_⟩
      · replace c2936 := c_eq t2935 lit_m1 c2936
        refine ⟨vp_of tx1 (by omega) (by omega), ?_⟩
        intro w_4v1532 ew_4v1532
        have hIw_4v1532 := ixs_A hI ew_4v1532 (by decide)
        exact hp _ _ _  lit_1 hIw_4v1532 
      · replace c2936 := c_neq t2935 lit_m1 c2936
        exact hp _ _ _  lit_0 hI 
theorem sX10_later {T D : Int} {k : Nat} {post : Int32 → Wd → Prop} {x1 : Int32} {zx1 : Int} {w : Wd} (tx1 : Ti x1 zx1) (hI : IX k T D w) (hT : 0 ≤ T ∧ T ≤ 100000) (hp : ∀ (r : Int32) (zr : Int) (w9 : Wd) (T9 : Int), Ti r zr → IX k T9 D w9 → (((0 ≤ zx1 ∧ zx1 ≤ 1000 ∧ T + zx1 ≤ 100000) ∧ T9 = T + zx1 ∧ zr = T9) ∨ (¬ (0 ≤ zx1 ∧ zx1 ≤ 1000 ∧ T + zx1 ≤ 100000) ∧ T9 = T ∧ zr = -1)) → post r w9) : pX10_later post x1 w := by
  unfold pX10_later
  obtain ⟨z, t⟩ := t_any (w.1 70 1)
  have b := ixg_70_1 hI t
  refine ⟨fun c => ?_, fun c => ⟨fun c2 => ?_, fun c2 => ?_⟩⟩
  · replace c := c_lt tx1 lit_0 c
    exact hp _ _ _ _ lit_m1 hI (by omega)
  · replace c2 := c_lt lit_1000 tx1 c2
    exact hp _ _ _ _ lit_m1 hI (by omega)
  · replace c := c_nlt tx1 lit_0 c
    replace c2 := c_nlt lit_1000 tx1 c2
    obtain ⟨y, u, f⟩ := t_add t tx1
    replace f := f (by omega)
    refine ⟨fun c3 => ?_, fun c3 => ?_⟩
    · replace c3 := c_le u lit_100000 c3
      intro w_4 e4
      have i4 := ixs_70_1 hI e4 u
      obtain ⟨z4, t4⟩ := t_any (w_4.1 70 1)
      have b4 := ixg_70_1 i4 t4
      exact hp _ _ _ _ t4 i4 (by omega)
    · replace c3 := c_nle u lit_100000 c3
      exact hp _ _ _ _ lit_m1 hI (by omega)
set_option maxHeartbeats 4000000 in
set_option maxRecDepth 100000 in
theorem sX10_changes {T D : Int} {k : Nat} {post : Int32 → Wd → Prop} {x0 : Int32} {zx0 : Int} {x1 : Int32} {zx1 : Int} {x2 : Int32} {zx2 : Int} {w : Wd}  (tx0 : Ti x0 zx0) (tx1 : Ti x1 zx1) (tx2 : Ti x2 zx2) (hI : IX k T D w)  (hp : ∀ (r : Int32) (zr : Int), Ti r zr → post r w) : pX10_changes   post  x0 x1 x2 w := by
  unfold pX10_changes
  have hk := ix_k hI
  refine sX10_turn   (hI := hI) (tx0 := tx0) (tx1 := tx2)  (hp := fun r_1v1533 zr_1v1533 tr_1v1533 => ?_)
  obtain ⟨z2937, t2938⟩ := t_any (r_1v1533 &&& (x1 ^^^ (-1 : Int32)))
  refine sJ6_bitCount_0f7a4   (hI := hI) (tx0 := t2938)  (hp := fun r_3v1539 zr_3v1539 tr_3v1539 p2939 => ?_)
  obtain ⟨z2940, t2941⟩ := t_any (x1 &&& (r_1v1533 ^^^ (-1 : Int32)))
  refine sJ6_bitCount_0f7a4   (hI := hI) (tx0 := t2941)  (hp := fun r_5v1543 zr_5v1543 tr_5v1543 p2942 => ?_)
  obtain ⟨z2943, t2944, f2945⟩ := t_mul lit_2 tr_5v1543
  first | replace f2945 := f2945 (by omega) | clear f2945
  obtain ⟨z2946, t2947, f2948⟩ := t_add tr_3v1539 t2944
  first | replace f2948 := f2948 (by omega) | clear f2948
  exact hp _ _ t2947 
set_option maxHeartbeats 4000000 in
set_option maxRecDepth 100000 in
theorem sX3_counts {T D : Int} {k : Nat} {post : Int32 → Wd → Prop} {x1 : Int32} {zx1 : Int} {x2 : Int32} {zx2 : Int} {x3 : Int32} {zx3 : Int} {w : Wd}  (tx1 : Ti x1 zx1) (tx2 : Ti x2 zx2) (tx3 : Ti x3 zx3) (hI : IX k T D w)  (hp : ∀ (r : Int32) (zr : Int), Ti r zr → post r w) : pX3_counts   post  x1 x2 x3 w := by
  unfold pX3_counts
  have hk := ix_k hI
  refine ⟨fun c2949 => ?_, fun c2949 => ?_⟩
  · replace c2949 := c_lt tx1 lit_0 c2949
    exact hp _ _ lit_0 
  · replace c2949 := c_nlt tx1 lit_0 c2949
    obtain ⟨z2950, t2951⟩ := t_any (w.1 70 0)
    have f2952 := ixg_70_0 hI t2951
    refine ⟨fun c2953 => ?_, fun c2953 => ?_⟩
    · replace c2953 := c_le t2951 tx1 c2953
      exact hp _ _ lit_0 
    · replace c2953 := c_nle t2951 tx1 c2953
      refine ⟨vp_of tx1 (by omega) (by omega), ?_⟩
      obtain ⟨z2954, t2955⟩ := t_any (w.2.1 73 x1.toNatClampNeg)
      refine ⟨fun c2956 => ?_, fun c2956 => ?_⟩
      · replace c2956 := c_neq t2955 tx2 c2956
        exact hp _ _ lit_0 
      · replace c2956 := c_eq t2955 tx2 c2956
        refine ⟨vp_of tx1 (by omega) (by omega), ?_⟩
        obtain ⟨z2957, t2958⟩ := t_any (w.2.1 77 x1.toNatClampNeg)
        refine ⟨fun c2959 => ?_, fun c2959 => ?_⟩
        · replace c2959 := c_lt tx3 t2958 c2959
          exact hp _ _ lit_0 
        · replace c2959 := c_nlt tx3 t2958 c2959
          refine ⟨vp_of tx1 (by omega) (by omega), ?_⟩
          obtain ⟨z2960, t2961⟩ := t_any (w.2.1 78 x1.toNatClampNeg)
          refine ⟨fun c2962 => ?_, fun c2962 => ?_⟩
          · replace c2962 := c_eq t2961 lit_m1 c2962
            exact hp _ _ lit_1 
          · replace c2962 := c_neq t2961 lit_m1 c2962
            refine ⟨vp_of tx1 (by omega) (by omega), ?_⟩
            refine ⟨fun c2963 => ?_, fun c2963 => ?_⟩
            · replace c2963 := c_le t2961 tx3 c2963
              exact hp _ _ lit_0 
            · replace c2963 := c_nle t2961 tx3 c2963
              exact hp _ _ lit_1 
set_option maxHeartbeats 4000000 in
set_option maxRecDepth 100000 in
theorem sX5_gather_84 {T D : Int} {k : Nat} {k72 : Int32 → Int32 → Wd → Prop} {M72 : Int} {post : Wd → Prop}  (hk72 : ∀ (x3 : Int32) (x4 : Int32) (zx3 : Int) (zx4 : Int) (w : Wd), Ti x3 zx3 → Ti x4 zx4 → IX k T D w → (0 ≤ zx4 ∧ zx4 ≤ 7) → (8 - zx4) < M72 → k72 x3 x4 w) (hp : ∀ (w9 : Wd), IX k T D w9 → post w9) : ∀ (n : Nat) (x3 : Int32) (x4 : Int32) (x5 : Int32) (zx3 : Int) (zx4 : Int) (zx5 : Int) (w : Wd), Ti x3 zx3 → Ti x4 zx4 → Ti x5 zx5 → IX k T D w → (0 ≤ zx5 ∧ zx5 ≤ 7) → (zx4 ≤ 6) → (0 ≤ zx4 ∧ zx4 ≤ 7) → ((8 - zx4) ≤ M72) → (8 - zx5) < (n : Int) → pX5_gather_84 k72  post  n x3 x4 x5 w := by
  intro n
  induction n with
  | zero =>
    intro x3 x4 x5 zx3 zx4 zx5 w tx3 tx4 tx5 hI h0 h1 h2 h3 hm
    exact absurd hm (by omega)
  | succ n ih =>
    intro x3 x4 x5 zx3 zx4 zx5 w tx3 tx4 tx5 hI h0 h1 h2 h3 hm
    unfold pX5_gather_84
    have hk := ix_k hI
    obtain ⟨z2964, t2965⟩ := t_any (w.1 90 0)
    have f2966 := ixg_90_0 hI t2965
    refine ⟨fun c2967 => ?_, fun c2967 => ?_⟩
    · replace c2967 := c_le t2965 tx5 c2967
      obtain ⟨z2968, t2969, f2970⟩ := t_add tx4 lit_1
      first | replace f2970 := f2970 (by omega) | clear f2970
      intro x4_2v1545 ex4_2v1545
      have tx4_2v1545 : Ti x4_2v1545 z2968 := by rw [ex4_2v1545]; exact t2969
      exact hk72 _ _ _ _ _ tx3 tx4_2v1545 hI (by omega) (by omega)
    · replace c2967 := c_nle t2965 tx5 c2967
      refine ⟨vp_of tx4 (by omega) (by omega), ?_⟩
      refine ⟨vp_of tx5 (by omega) (by omega), ?_⟩
      obtain ⟨z2971, t2972⟩ := t_any (w.2.1 95 x4.toNatClampNeg)
      obtain ⟨z2973, t2974⟩ := t_any (w.2.1 95 x5.toNatClampNeg)
      refine sX10_changes   (hI := hI) (tx0 := t2972) (tx1 := t2974) (tx2 := tx3)  (hp := fun r_3v1546 zr_3v1546 tr_3v1546 => ?_)
      obtain ⟨z2975, t2976, f2977⟩ := t_mul tx4 lit_7
      first | replace f2977 := f2977 (by omega) | clear f2977
      obtain ⟨z2978, t2979, f2980⟩ := t_add t2976 tx5
      first | replace f2980 := f2980 (by omega) | clear f2980
      refine ⟨vp_of t2979 (by omega) (by omega), ?_⟩
      intro w_5v1550 ew_5v1550
      have hIw_5v1550 := ixs_A hI ew_5v1550 (by decide)
      obtain ⟨z2981, t2982, f2983⟩ := t_add tx5 lit_1
      first | replace f2983 := f2983 (by omega) | clear f2983
      intro x5_6v1551 ex5_6v1551
      have tx5_6v1551 : Ti x5_6v1551 z2981 := by rw [ex5_6v1551]; exact t2982
      exact ih _ _ _ _ _ _ _ tx3 tx4 tx5_6v1551 hIw_5v1550 (by omega) (by omega) (by omega) (by omega) (by omega)
set_option maxHeartbeats 4000000 in
set_option maxRecDepth 100000 in
theorem sX5_gather_72 {T D : Int} {k : Nat} {post : Wd → Prop}   (hp : ∀ (w9 : Wd), IX k T D w9 → post w9) : ∀ (n : Nat) (x3 : Int32) (x4 : Int32) (zx3 : Int) (zx4 : Int) (w : Wd), Ti x3 zx3 → Ti x4 zx4 → IX k T D w → (0 ≤ zx4 ∧ zx4 ≤ 7) → (8 - zx4) < (n : Int) → pX5_gather_72   post  n x3 x4 w := by
  intro n
  induction n with
  | zero =>
    intro x3 x4 zx3 zx4 w tx3 tx4 hI h0 hm
    exact absurd hm (by omega)
  | succ n ih =>
    intro x3 x4 zx3 zx4 w tx3 tx4 hI h0 hm
    unfold pX5_gather_72
    have hk := ix_k hI
    obtain ⟨z2984, t2985⟩ := t_any (w.1 90 0)
    have f2986 := ixg_90_0 hI t2985
    refine ⟨fun c2987 => ?_, fun c2987 => ?_⟩
    · replace c2987 := c_le t2985 tx4 c2987
      exact hp  _   hI 
    · replace c2987 := c_nle t2985 tx4 c2987
      exact ⟨70000, sX5_gather_84  (M72 := (n : Int)) (hk72 := ih)  (hp := hp) 70000 _ _ _ _ _ _ _ tx3 tx4 lit_0 hI (by omega) (by omega) (by omega) (by omega) (by omega)⟩
set_option maxHeartbeats 4000000 in
set_option maxRecDepth 100000 in
theorem sX5_gather_8 {T D : Int} {k : Nat} {post : Wd → Prop}   (hp : ∀ (w9 : Wd), IX k T D w9 → post w9) : ∀ (n : Nat) (x2 : Int32) (x3 : Int32) (x4 : Int32) (zx2 : Int) (zx3 : Int) (zx4 : Int) (w : Wd), Ti x2 zx2 → Ti x3 zx3 → Ti x4 zx4 → IX k T D w → (0 ≤ zx4 ∧ zx4 ≤ 40) → (41 - zx4) < (n : Int) → pX5_gather_8   post  n x2 x3 x4 w := by
  intro n
  induction n with
  | zero =>
    intro x2 x3 x4 zx2 zx3 zx4 w tx2 tx3 tx4 hI h0 hm
    exact absurd hm (by omega)
  | succ n ih =>
    intro x2 x3 x4 zx2 zx3 zx4 w tx2 tx3 tx4 hI h0 hm
    unfold pX5_gather_8
    have hk := ix_k hI
    obtain ⟨z2988, t2989⟩ := t_any (w.1 70 0)
    have f2990 := ixg_70_0 hI t2989
    refine ⟨fun c2991 => ?_, fun c2991 => ?_⟩
    · replace c2991 := c_le t2989 tx4 c2991
      unfold pX5_gather_69
      exact ⟨70000, sX5_gather_72    (hp := hp) 70000 _ _ _ _ _ tx3 lit_0 hI (by omega) (by omega)⟩
    · replace c2991 := c_nle t2989 tx4 c2991
      obtain ⟨z2992, t2993⟩ := t_any (w.1 90 0)
      have f2994 := ixg_90_0 hI t2993
      refine ⟨fun c2995 => ?_, fun c2995 => ?_⟩
      · replace c2995 := c_le lit_7 t2993 c2995
        unfold pX5_gather_69
        exact ⟨70000, sX5_gather_72    (hp := hp) 70000 _ _ _ _ _ tx3 lit_0 hI (by omega) (by omega)⟩
      · replace c2995 := c_nle lit_7 t2993 c2995
        refine sX3_counts   (hI := hI) (tx1 := tx4) (tx2 := lit_0) (tx3 := tx2)  (hp := fun r_3v1552 zr_3v1552 tr_3v1552 => ?_)
        refine ⟨fun c2996 => ?_, fun c2996 => ?_⟩
        · replace c2996 := c_eq tr_3v1552 lit_0 c2996
          unfold pX5_gather_63
          obtain ⟨z2997, t2998, f2999⟩ := t_add tx4 lit_1
          first | replace f2999 := f2999 (by omega) | clear f2999
          intro x4_1v1558 ex4_1v1558
          have tx4_1v1558 : Ti x4_1v1558 z2997 := by rw [ex4_1v1558]; exact t2998
          exact ih _ _ _ _ _ _ _ tx2 tx3 tx4_1v1558 hI (by omega) (by omega)
        · replace c2996 := c_neq tr_3v1552 lit_0 c2996
          refine ⟨vp_of tx4 (by omega) (by omega), ?_⟩
          refine ⟨vp_of t2993 (by omega) (by omega), ?_⟩
          intro w_6v1556 ew_6v1556
          have hIw_6v1556 := ixs_A hI ew_6v1556 (by decide)
          intro w_7v1557 ew_7v1557
          have t3000 : Ti (w_6v1556.1 90 0) z2992 := by rw [e1_A ew_6v1556]; exact t2993
          obtain ⟨z3001, t3002, f3003⟩ := t_add t3000 lit_1
          first | replace f3003 := f3003 (by omega) | clear f3003
          have hIw_7v1557 := ixs_90_0 hIw_6v1556 ew_7v1557 t3002 (by omega) (by omega)
          unfold pX5_gather_63
          obtain ⟨z3004, t3005, f3006⟩ := t_add tx4 lit_1
          first | replace f3006 := f3006 (by omega) | clear f3006
          intro x4_1v1559 ex4_1v1559
          have tx4_1v1559 : Ti x4_1v1559 z3004 := by rw [ex4_1v1559]; exact t3005
          exact ih _ _ _ _ _ _ _ tx2 tx3 tx4_1v1559 hIw_7v1557 (by omega) (by omega)
set_option maxHeartbeats 4000000 in
set_option maxRecDepth 100000 in
theorem sX5_gather {T D : Int} {k : Nat} {post : Wd → Prop} {x2 : Int32} {zx2 : Int} {x3 : Int32} {zx3 : Int} {w : Wd}  (tx2 : Ti x2 zx2) (tx3 : Ti x3 zx3) (hI : IX k T D w)  (hp : ∀ (w9 : Wd), IX k T D w9 → post w9) : pX5_gather   post  x2 x3 w := by
  unfold pX5_gather
  have hk := ix_k hI
  intro w_1v1560 ew_1v1560
  have hIw_1v1560 := ixs_90_0 hI ew_1v1560 lit_0 (by omega) (by omega)
  exact ⟨70000, sX5_gather_8    (hp := hp) 70000 _ _ _ _ _ _ _ tx2 tx3 lit_0 hIw_1v1560 (by omega) (by omega)⟩
set_option maxHeartbeats 4000000 in
set_option maxRecDepth 100000 in
theorem sX5_changesFrom {T D : Int} {k : Nat} {post : Int32 → Wd → Prop} {x1 : Int32} {zx1 : Int} {x2 : Int32} {zx2 : Int} {w : Wd}  (tx1 : Ti x1 zx1) (tx2 : Ti x2 zx2) (hI : IX k T D w) (h0 : 0 ≤ zx1 ∧ zx1 ≤ 6) (h1 : 0 ≤ zx2 ∧ zx2 ≤ 6) (hp : ∀ (r : Int32) (zr : Int), Ti r zr → post r w) : pX5_changesFrom   post  x1 x2 w := by
  unfold pX5_changesFrom
  have hk := ix_k hI
  obtain ⟨z3007, t3008, f3009⟩ := t_mul tx1 lit_7
  first | replace f3009 := f3009 (by omega) | clear f3009
  obtain ⟨z3010, t3011, f3012⟩ := t_add t3008 tx2
  first | replace f3012 := f3012 (by omega) | clear f3012
  refine ⟨vp_of t3011 (by omega) (by omega), ?_⟩
  obtain ⟨z3013, t3014⟩ := t_any (w.2.1 96 ((x1 * (7 : Int32)) + x2).toNatClampNeg)
  exact hp _ _ t3014 
set_option maxHeartbeats 4000000 in
set_option maxRecDepth 100000 in
theorem sX5_fewestTo_16 {T D : Int} {k : Nat} {post : Int32 → Wd → Prop} {w : Wd}  (hp : ∀ (r : Int32) (zr : Int), Ti r zr → post r w) : ∀ (n : Nat) (x1 : Int32) (x2 : Int32) (x3 : Int32) (zx1 : Int) (zx2 : Int) (zx3 : Int), Ti x1 zx1 → Ti x2 zx2 → Ti x3 zx3 → IX k T D w → (0 ≤ zx3 ∧ zx3 ≤ 7) → (0 ≤ zx1 ∧ zx1 ≤ 6) → (8 - zx3) < (n : Int) → pX5_fewestTo_16   post  n x1 x2 x3 w := by
  intro n
  induction n with
  | zero =>
    intro x1 x2 x3 zx1 zx2 zx3  tx1 tx2 tx3 hI h0 h1 hm
    exact absurd hm (by omega)
  | succ n ih =>
    intro x1 x2 x3 zx1 zx2 zx3  tx1 tx2 tx3 hI h0 h1 hm
    unfold pX5_fewestTo_16
    have hk := ix_k hI
    obtain ⟨z3015, t3016⟩ := t_any (w.1 90 0)
    have f3017 := ixg_90_0 hI t3016
    refine ⟨fun c3018 => ?_, fun c3018 => ?_⟩
    · replace c3018 := c_le t3016 tx3 c3018
      exact hp _ _ tx2 
    · replace c3018 := c_nle t3016 tx3 c3018
      refine ⟨fun c3019 => ?_, fun c3019 => ?_⟩
      · replace c3019 := c_eq tx3 tx1 c3019
        unfold pX5_fewestTo_40
        obtain ⟨z3020, t3021, f3022⟩ := t_add tx3 lit_1
        first | replace f3022 := f3022 (by omega) | clear f3022
        intro x3_1v1564 ex3_1v1564
        have tx3_1v1564 : Ti x3_1v1564 z3020 := by rw [ex3_1v1564]; exact t3021
        exact ih _ _ _ _ _ _  tx1 tx2 tx3_1v1564 hI (by omega) (by omega) (by omega)
      · replace c3019 := c_neq tx3 tx1 c3019
        refine sX5_changesFrom   (hI := hI) (tx1 := tx3) (tx2 := tx1) (h0 := (by omega)) (h1 := (by omega)) (hp := fun r_3v1561 zr_3v1561 tr_3v1561 => ?_)
        obtain ⟨z3023, t3024, f3025⟩ := t_ite tr_3v1561 tx2 tr_3v1561 tx2
        intro x2_5v1565 ex2_5v1565
        have tx2_5v1565 : Ti x2_5v1565 z3023 := by rw [ex2_5v1565]; exact t3024
        unfold pX5_fewestTo_40
        obtain ⟨z3026, t3027, f3028⟩ := t_add tx3 lit_1
        first | replace f3028 := f3028 (by omega) | clear f3028
        intro x3_1v1566 ex3_1v1566
        have tx3_1v1566 : Ti x3_1v1566 z3026 := by rw [ex3_1v1566]; exact t3027
        exact ih _ _ _ _ _ _  tx1 tx2_5v1565 tx3_1v1566 hI (by omega) (by omega) (by omega)
set_option maxHeartbeats 4000000 in
set_option maxRecDepth 100000 in
theorem sX5_fewestTo {T D : Int} {k : Nat} {post : Int32 → Wd → Prop} {x1 : Int32} {zx1 : Int} {w : Wd}  (tx1 : Ti x1 zx1) (hI : IX k T D w) (h0 : 0 ≤ zx1 ∧ zx1 ≤ 6) (hp : ∀ (r : Int32) (zr : Int), Ti r zr → post r w) : pX5_fewestTo   post  x1 w := by
  unfold pX5_fewestTo
  have hk := ix_k hI
  obtain ⟨z3029, t3030⟩ := t_any (w.1 90 6)
  refine ⟨fun c3031 => ?_, fun c3031 => ?_⟩
  · replace c3031 := c_neq tx1 t3030 c3031
    exact ⟨70000, sX5_fewestTo_16    (hp := hp) 70000 _ _ _ _ _ _  tx1 lit_1000 lit_0 hI (by omega) (by omega) (by omega)⟩
  · replace c3031 := c_eq tx1 t3030 c3031
    exact hp _ _ lit_0 
set_option maxHeartbeats 4000000 in
set_option maxRecDepth 100000 in
theorem sX5_comesFrom_5 {T D : Int} {k : Nat} {post : Int32 → Wd → Prop} {w : Wd}  (hp : ∀ (r : Int32) (zr : Int), Ti r zr → post r w) : ∀ (n : Nat) (x2 : Int32) (x3 : Int32) (x4 : Int32) (zx2 : Int) (zx3 : Int) (zx4 : Int), Ti x2 zx2 → Ti x3 zx3 → Ti x4 zx4 → IX k T D w → (0 ≤ zx4 ∧ zx4 ≤ 7) → (-1 ≤ zx3 ∧ zx3 ≤ 6) → (8 - zx4) < (n : Int) → pX5_comesFrom_5   post  n x2 x3 x4 w := by
  intro n
  induction n with
  | zero =>
    intro x2 x3 x4 zx2 zx3 zx4  tx2 tx3 tx4 hI h0 h1 hm
    exact absurd hm (by omega)
  | succ n ih =>
    intro x2 x3 x4 zx2 zx3 zx4  tx2 tx3 tx4 hI h0 h1 hm
    unfold pX5_comesFrom_5
    have hk := ix_k hI
    refine ⟨fun c3032 => ?_, fun c3032 => ?_⟩
    · replace c3032 := c_le lit_7 tx4 c3032
      refine ⟨fun c3033 => ?_, fun c3033 => ?_⟩
      · replace c3033 := c_neq tx3 tx2 c3033
        exact hp _ _ lit_0 
      · replace c3033 := c_eq tx3 tx2 c3033
        exact hp _ _ lit_1 
    · replace c3032 := c_nle lit_7 tx4 c3032
      refine ⟨fun c3034 => ?_, fun c3034 => ?_⟩
      · replace c3034 := c_eq tx3 tx2 c3034
        refine ⟨fun c3035 => ?_, fun c3035 => ?_⟩
        · replace c3035 := c_neq tx3 tx2 c3035
          exact hp _ _ lit_0 
        · replace c3035 := c_eq tx3 tx2 c3035
          exact hp _ _ lit_1 
      · replace c3034 := c_neq tx3 tx2 c3034
        refine ⟨fun c3036 => ?_, fun c3036 => ?_⟩
        · replace c3036 := c_eq tx3 lit_m1 c3036
          refine ⟨fun c3037 => ?_, fun c3037 => ?_⟩
          · replace c3037 := c_neq tx3 tx2 c3037
            exact hp _ _ lit_0 
          · replace c3037 := c_eq tx3 tx2 c3037
            exact hp _ _ lit_1 
        · replace c3036 := c_neq tx3 lit_m1 c3036
          refine ⟨vp_of tx3 (by omega) (by omega), ?_⟩
          obtain ⟨z3038, t3039⟩ := t_any (w.2.1 98 x3.toNatClampNeg)
          have f3040 := ixg_98 hI t3039
          intro x3_7v1567 ex3_7v1567
          have tx3_7v1567 : Ti x3_7v1567 z3038 := by rw [ex3_7v1567]; exact t3039
          obtain ⟨z3041, t3042, f3043⟩ := t_add tx4 lit_1
          first | replace f3043 := f3043 (by omega) | clear f3043
          intro x4_8v1568 ex4_8v1568
          have tx4_8v1568 : Ti x4_8v1568 z3041 := by rw [ex4_8v1568]; exact t3042
          exact ih _ _ _ _ _ _  tx2 tx3_7v1567 tx4_8v1568 hI (by omega) (by omega) (by omega)
set_option maxHeartbeats 4000000 in
set_option maxRecDepth 100000 in
theorem sX5_comesFrom {T D : Int} {k : Nat} {post : Int32 → Wd → Prop} {x1 : Int32} {zx1 : Int} {x2 : Int32} {zx2 : Int} {w : Wd}  (tx1 : Ti x1 zx1) (tx2 : Ti x2 zx2) (hI : IX k T D w) (h0 : 0 ≤ zx1 ∧ zx1 ≤ 6) (hp : ∀ (r : Int32) (zr : Int), Ti r zr → post r w) : pX5_comesFrom   post  x1 x2 w := by
  unfold pX5_comesFrom
  have hk := ix_k hI
  exact ⟨70000, sX5_comesFrom_5    (hp := hp) 70000 _ _ _ _ _ _  tx2 tx1 lit_0 hI (by omega) (by omega) (by omega)⟩
set_option maxHeartbeats 4000000 in
set_option maxRecDepth 100000 in
theorem sX5_keepTree {T D : Int} {k : Nat} {post : Wd → Prop} {x1 : Int32} {zx1 : Int} {w : Wd}  (tx1 : Ti x1 zx1) (hI : IX k T D w)  (hp : ∀ (w9 : Wd), IX k T D w9 → post w9) : pX5_keepTree   post  x1 w := by
  unfold pX5_keepTree
  have hk := ix_k hI
  obtain ⟨z3044, t3045⟩ := t_any (w.1 90 1)
  refine ⟨fun c3046 => ?_, fun c3046 => ?_⟩
  · replace c3046 := c_le t3045 tx1 c3046
    intro w_2v1569 ew_2v1569
    have hIw_2v1569 := ixs_n hI ew_2v1569 (by unfold nX; omega)
    exact hp  _   hIw_2v1569 
  · replace c3046 := c_nle t3045 tx1 c3046
    intro w_3v1570 ew_3v1570
    have hIw_3v1570 := ixs_n hI ew_3v1570 (by unfold nX; omega)
    intro w_4v1571 ew_4v1571
    have hIw_4v1571 := ixs_n hIw_3v1570 ew_4v1571 (by unfold nX; omega)
    intro w_5v1572 ew_5v1572
    have hIw_5v1572 := ixs_C hIw_4v1571 ew_5v1572 (by decide)
    intro w_6v1573 ew_6v1573
    have hIw_6v1573 := ixs_n hIw_5v1572 ew_6v1573 (by unfold nX; omega)
    exact hp  _   hIw_6v1573 
set_option maxHeartbeats 4000000 in
set_option maxRecDepth 100000 in
theorem sX5_grow_61 {T D : Int} {k : Nat} {qX5_grow : (Wd → Prop) → Int32 → Int32 → Wd → Prop} {Mq : Int} {post : Wd → Prop}  (hqX5_grow : ∀ (post : Wd → Prop) (x1 : Int32) (x2 : Int32) (zx1 : Int) (zx2 : Int) (w : Wd), Ti x1 zx1 → Ti x2 zx2 → IX k T D w → (0 ≤ zx1 ∧ zx1 ≤ 8) → (9 - zx1) < Mq → (∀ (w9 : Wd), IX k T D w9 → post w9) → qX5_grow post x1 x2 w) (hp : ∀ (w9 : Wd), IX k T D w9 → post w9) : ∀ (n : Nat) (x1 : Int32) (x2 : Int32) (x3 : Int32) (zx1 : Int) (zx2 : Int) (zx3 : Int) (w : Wd), Ti x1 zx1 → Ti x2 zx2 → Ti x3 zx3 → IX k T D w → (0 ≤ zx3 ∧ zx3 ≤ 7) → (0 ≤ zx1 ∧ zx1 ≤ 6) → ((9 - zx1) ≤ Mq) → (8 - zx3) < (n : Int) → pX5_grow_61  qX5_grow post  n x1 x2 x3 w := by
  intro n
  induction n with
  | zero =>
    intro x1 x2 x3 zx1 zx2 zx3 w tx1 tx2 tx3 hI h0 h1 h2 hm
    exact absurd hm (by omega)
  | succ n ih =>
    intro x1 x2 x3 zx1 zx2 zx3 w tx1 tx2 tx3 hI h0 h1 h2 hm
    unfold pX5_grow_61
    have hk := ix_k hI
    obtain ⟨z3047, t3048⟩ := t_any (w.1 90 0)
    have f3049 := ixg_90_0 hI t3048
    refine ⟨fun c3050 => ?_, fun c3050 => ?_⟩
    · replace c3050 := c_le t3048 tx3 c3050
      exact hp  _   hI 
    · replace c3050 := c_nle t3048 tx3 c3050
      refine sX5_comesFrom   (hI := hI) (tx1 := tx3) (tx2 := tx1) (h0 := (by omega)) (hp := fun r_2v1574 zr_2v1574 tr_2v1574 => ?_)
      refine ⟨fun c3051 => ?_, fun c3051 => ?_⟩
      · replace c3051 := c_neq tr_2v1574 lit_0 c3051
        unfold pX5_grow_107
        obtain ⟨z3052, t3053, f3054⟩ := t_add tx3 lit_1
        first | replace f3054 := f3054 (by omega) | clear f3054
        intro x3_1v1586 ex3_1v1586
        have tx3_1v1586 : Ti x3_1v1586 z3052 := by rw [ex3_1v1586]; exact t3053
        exact ih _ _ _ _ _ _ _ tx1 tx2 tx3_1v1586 hI (by omega) (by omega) (by omega) (by omega)
      · replace c3051 := c_eq tr_2v1574 lit_0 c3051
        refine ⟨vp_of tx1 (by omega) (by omega), ?_⟩
        intro w_5v1581 ew_5v1581
        have hIw_5v1581 := ixs_98 hI ew_5v1581 tx3 (by omega) (by omega)
        refine sX5_changesFrom   (hI := hIw_5v1581) (tx1 := tx3) (tx2 := tx1) (h0 := (by omega)) (h1 := (by omega)) (hp := fun r_6v1582 zr_6v1582 tr_6v1582 => ?_)
        obtain ⟨z3055, t3056, f3057⟩ := t_add tx1 lit_1
        first | replace f3057 := f3057 (by omega) | clear f3057
        obtain ⟨z3058, t3059, f3060⟩ := t_add tx2 tr_6v1582
        first | replace f3060 := f3060 (by omega) | clear f3060
        refine hqX5_grow _ _ _ _ _ _ t3056 t3059 hIw_5v1581 (by omega) (by omega) (fun  w_8v1587   hIw_8v1587  => ?_)
        refine ⟨vp_of tx1 (by omega) (by omega), ?_⟩
        intro w_9v1588 ew_9v1588
        have hIw_9v1588 := ixs_98 hIw_8v1587 ew_9v1588 lit_m1 (by omega) (by omega)
        unfold pX5_grow_107
        obtain ⟨z3061, t3062, f3063⟩ := t_add tx3 lit_1
        first | replace f3063 := f3063 (by omega) | clear f3063
        intro x3_1v1589 ex3_1v1589
        have tx3_1v1589 : Ti x3_1v1589 z3061 := by rw [ex3_1v1589]; exact t3062
        exact ih _ _ _ _ _ _ _ tx1 tx2 tx3_1v1589 hIw_9v1588 (by omega) (by omega) (by omega) (by omega)
set_option maxHeartbeats 4000000 in
set_option maxRecDepth 100000 in
theorem sX5_grow {T D : Int} {k : Nat} {qX5_grow : (Wd → Prop) → Int32 → Int32 → Wd → Prop} {Mq : Int} {post : Wd → Prop} {x1 : Int32} {zx1 : Int} {x2 : Int32} {zx2 : Int} {w : Wd} (hqX5_grow : ∀ (post : Wd → Prop) (x1 : Int32) (x2 : Int32) (zx1 : Int) (zx2 : Int) (w : Wd), Ti x1 zx1 → Ti x2 zx2 → IX k T D w → (0 ≤ zx1 ∧ zx1 ≤ 8) → (9 - zx1) < Mq → (∀ (w9 : Wd), IX k T D w9 → post w9) → qX5_grow post x1 x2 w) (tx1 : Ti x1 zx1) (tx2 : Ti x2 zx2) (hI : IX k T D w) (h0 : 0 ≤ zx1 ∧ zx1 ≤ 8) (h1 : (9 - zx1) ≤ Mq) (hp : ∀ (w9 : Wd), IX k T D w9 → post w9) : pX5_grow  qX5_grow post  x1 x2 w := by
  unfold pX5_grow
  have hk := ix_k hI
  obtain ⟨z3064, t3065⟩ := t_any (w.1 90 0)
  have f3066 := ixg_90_0 hI t3065
  refine ⟨fun c3067 => ?_, fun c3067 => ?_⟩
  · replace c3067 := c_lt t3065 tx1 c3067
    exact hp  _   hI 
  · replace c3067 := c_nlt t3065 tx1 c3067
    refine ⟨vp_of tx1 (by omega) (by omega), ?_⟩
    obtain ⟨z3068, t3069⟩ := t_any (w.2.1 99 x1.toNatClampNeg)
    obtain ⟨z3070, t3071, f3072⟩ := t_add tx2 t3069
    first | replace f3072 := f3072 (by omega) | clear f3072
    obtain ⟨z3073, t3074⟩ := t_any (w.1 90 1)
    refine ⟨fun c3075 => ?_, fun c3075 => ?_⟩
    · replace c3075 := c_le t3071 t3074 c3075
      refine ⟨fun c3076 => ?_, fun c3076 => ?_⟩
      · replace c3076 := c_neq tx1 t3065 c3076
        obtain ⟨z3077, t3078⟩ := t_any (w.1 90 6)
        refine ⟨fun c3079 => ?_, fun c3079 => ?_⟩
        · replace c3079 := c_neq tx1 t3078 c3079
          exact ⟨70000, sX5_grow_61   (hqX5_grow := hqX5_grow) (hp := hp) 70000 _ _ _ _ _ _ _ tx1 tx2 lit_0 hI (by omega) (by omega) (by omega) (by omega)⟩
        · replace c3079 := c_eq tx1 t3078 c3079
          obtain ⟨z3080, t3081, f3082⟩ := t_add tx1 lit_1
          first | replace f3082 := f3082 (by omega) | clear f3082
          refine hqX5_grow _ _ _ _ _ _ t3081 tx2 hI (by omega) (by omega) (fun  w_5v1590   hIw_5v1590  => ?_)
          exact hp  _   hIw_5v1590 
      · replace c3076 := c_eq tx1 t3065 c3076
        refine sX5_keepTree   (hI := hI) (tx1 := tx2)  (hp := fun  w_6v1591   hIw_6v1591  => ?_)
        exact hp  _   hIw_6v1591 
    · replace c3075 := c_nle t3071 t3074 c3075
      exact hp  _   hI 
theorem sd9X5_grow {T D : Int} {k : Nat} : ∀ (d : Nat) (post : Wd → Prop) (x1 : Int32) (x2 : Int32) (zx1 : Int) (zx2 : Int) (w : Wd), Ti x1 zx1 → Ti x2 zx2 → IX k T D w → (0 ≤ zx1 ∧ zx1 ≤ 8) → (9 - zx1) < (d : Int) → (∀ (w9 : Wd), IX k T D w9 → post w9) → d9X5_grow d post x1 x2 w := by
  intro d
  induction d with
  | zero =>
    intro post x1 x2 zx1 zx2 w tx1 tx2 hI h0 hm hp
    exact absurd hm (by omega)
  | succ d ih =>
    intro post x1 x2 zx1 zx2 w tx1 tx2 hI h0 hm hp
    show pX5_grow (d9X5_grow d) post x1 x2 w
    exact sX5_grow (Mq := (d : Int)) (hqX5_grow := ih) (hI := hI) (tx1 := tx1) (tx2 := tx2) (h0 := h0) (h1 := (by omega)) (hp := hp)
theorem sdX5_grow {T D : Int} {k : Nat} {d : Nat} {post : Wd → Prop} {x1 : Int32} {zx1 : Int} {x2 : Int32} {zx2 : Int} {w : Wd} (tx1 : Ti x1 zx1) (tx2 : Ti x2 zx2) (hI : IX k T D w) (h0 : 0 ≤ zx1 ∧ zx1 ≤ 8) (hm : (9 - zx1) < (d : Int)) (hp : ∀ (w9 : Wd), IX k T D w9 → post w9) : dX5_grow d post x1 x2 w := sd9X5_grow d post x1 x2 zx1 zx2 w tx1 tx2 hI h0 hm hp
set_option maxHeartbeats 4000000 in
set_option maxRecDepth 100000 in
theorem sX5_growFrom_34 {T D : Int} {k : Nat} {post : Wd → Prop}   (hp : ∀ (w9 : Wd), IX k T D w9 → post w9) : ∀ (n : Nat) (x2 : Int32) (zx2 : Int) (w : Wd), Ti x2 zx2 → IX k T D w → (-1 ≤ zx2 ∧ zx2 ≤ 6) → (zx2 + 2) < (n : Int) → pX5_growFrom_34   post  n x2 w := by
  intro n
  induction n with
  | zero =>
    intro x2 zx2 w tx2 hI h0 hm
    exact absurd hm (by omega)
  | succ n ih =>
    intro x2 zx2 w tx2 hI h0 hm
    unfold pX5_growFrom_34
    have hk := ix_k hI
    refine ⟨fun c3083 => ?_, fun c3083 => ?_⟩
    · replace c3083 := c_lt tx2 lit_0 c3083
      refine sdX5_grow lit_0 lit_0 hI (by omega) (by omega) (fun  w_2v1592   hIw_2v1592  => ?_)
      exact hp  _   hIw_2v1592 
    · replace c3083 := c_nlt tx2 lit_0 c3083
      obtain ⟨z3084, t3085, f3086⟩ := t_add tx2 lit_1
      first | replace f3086 := f3086 (by omega) | clear f3086
      refine ⟨vp_of t3085 (by omega) (by omega), ?_⟩
      refine sX5_fewestTo   (hI := hI) (tx1 := tx2) (h0 := (by omega)) (hp := fun r_3v1593 zr_3v1593 tr_3v1593 => ?_)
      refine ⟨vp_of tx2 (by omega) (by omega), ?_⟩
      intro w_5v1598 ew_5v1598
      have hIw_5v1598 := ixs_A hI ew_5v1598 (by decide)
      refine ⟨vp_of tx2 (by omega) (by omega), ?_⟩
      intro w_6v1599 ew_6v1599
      have hIw_6v1599 := ixs_98 hIw_5v1598 ew_6v1599 lit_m1 (by omega) (by omega)
      obtain ⟨z3087, t3088, f3089⟩ := t_add tx2 lit_m1
      first | replace f3089 := f3089 (by omega) | clear f3089
      intro x2_7v1600 ex2_7v1600
      have tx2_7v1600 : Ti x2_7v1600 z3087 := by rw [ex2_7v1600]; exact t3088
      exact ih _ _ _ tx2_7v1600 hIw_6v1599 (by omega) (by omega)
set_option maxHeartbeats 4000000 in
set_option maxRecDepth 100000 in
theorem sX5_growFrom {T D : Int} {k : Nat} {post : Wd → Prop} {x1 : Int32} {zx1 : Int} {w : Wd}  (tx1 : Ti x1 zx1) (hI : IX k T D w)  (hp : ∀ (w9 : Wd), IX k T D w9 → post w9) : pX5_growFrom   post  x1 w := by
  unfold pX5_growFrom
  have hk := ix_k hI
  intro w_1v1601 ew_1v1601
  have hIw_1v1601 := ixs_n hI ew_1v1601 (by unfold nX; omega)
  intro w_2v1602 ew_2v1602
  have hIw_2v1602 := ixs_n hIw_1v1601 ew_2v1602 (by unfold nX; omega)
  intro w_3v1603 ew_3v1603
  have hIw_3v1603 := ixs_n hIw_2v1602 ew_3v1603 (by unfold nX; omega)
  obtain ⟨z3093, t3094⟩ := t_any (w.1 90 0)
  have f3095 := ixg_90_0 hI t3094
  have t3092 : Ti (w_1v1601.1 90 0) z3093 := by rw [ew_1v1601, sI_ne (by omega)]; exact t3094
  have t3091 : Ti (w_2v1602.1 90 0) z3093 := by rw [ew_2v1602, sI_ne (by omega)]; exact t3092
  have t3090 : Ti (w_3v1603.1 90 0) z3093 := by rw [ew_3v1603, sI_ne (by omega)]; exact t3091
  refine ⟨vp_of t3090 (by omega) (by omega), ?_⟩
  intro w_4v1604 ew_4v1604
  have hIw_4v1604 := ixs_A hIw_3v1603 ew_4v1604 (by decide)
  have t3096 : Ti (w_4v1604.1 90 0) z3093 := by rw [e1_A ew_4v1604]; exact t3090
  obtain ⟨z3097, t3098, f3099⟩ := t_sub t3096 lit_1
  first | replace f3099 := f3099 (by omega) | clear f3099
  intro x2_5v1605 ex2_5v1605
  have tx2_5v1605 : Ti x2_5v1605 z3097 := by rw [ex2_5v1605]; exact t3098
  exact ⟨70000, sX5_growFrom_34    (hp := hp) 70000 _ _ _ tx2_5v1605 hIw_4v1604 (by omega) (by omega)⟩
set_option maxHeartbeats 4000000 in
set_option maxRecDepth 100000 in
theorem sX10_tree_64 {T D : Int} {k : Nat} {post : Int32 → Wd → Prop}   (hp : ∀ (r : Int32) (zr : Int) (w9 : Wd), Ti r zr → IX k T D w9 → post r w9) : ∀ (n : Nat) (x2 : Int32) (x4 : Int32) (zx2 : Int) (zx4 : Int) (w : Wd), Ti x2 zx2 → Ti x4 zx4 → IX k T D w → (0 ≤ zx4 ∧ zx4 ≤ 7) → (8 - zx4) < (n : Int) → pX10_tree_64   post  n x2 x4 w := by
  intro n
  induction n with
  | zero =>
    intro x2 x4 zx2 zx4 w tx2 tx4 hI h0 hm
    exact absurd hm (by omega)
  | succ n ih =>
    intro x2 x4 zx2 zx4 w tx2 tx4 hI h0 hm
    unfold pX10_tree_64
    have hk := ix_k hI
    obtain ⟨z3100, t3101⟩ := t_any (w.1 90 0)
    have f3102 := ixg_90_0 hI t3101
    refine ⟨fun c3103 => ?_, fun c3103 => ?_⟩
    · replace c3103 := c_le t3101 tx4 c3103
      refine ⟨fun c3104 => ?_, fun c3104 => ?_⟩
      · replace c3104 := c_neq tx2 lit_0 c3104
        obtain ⟨z3105, t3106⟩ := t_any (w.1 90 2)
        exact hp _ _ _  t3106 hI 
      · replace c3104 := c_eq tx2 lit_0 c3104
        obtain ⟨z3107, t3108⟩ := t_any (w.1 90 1)
        exact hp _ _ _  t3108 hI 
    · replace c3103 := c_nle t3101 tx4 c3103
      refine ⟨vp_of tx4 (by omega) (by omega), ?_⟩
      obtain ⟨z3109, t3110⟩ := t_any (w.2.1 94 x4.toNatClampNeg)
      refine sX4_lay   (hI := hI) (tx1 := t3110)  (hp := fun  w_3v1606   hIw_3v1606  => ?_)
      obtain ⟨z3111, t3112, f3113⟩ := t_add tx4 lit_1
      first | replace f3113 := f3113 (by omega) | clear f3113
      intro x4_4v1607 ex4_4v1607
      have tx4_4v1607 : Ti x4_4v1607 z3111 := by rw [ex4_4v1607]; exact t3112
      exact ih _ _ _ _ _ tx2 tx4_4v1607 hIw_3v1606 (by omega) (by omega)
set_option maxHeartbeats 4000000 in
set_option maxRecDepth 100000 in
theorem sX10_tree {T D : Int} {k : Nat} {post : Int32 → Wd → Prop} {x1 : Int32} {zx1 : Int} {x2 : Int32} {zx2 : Int} {x3 : Int32} {zx3 : Int} {w : Wd}  (tx1 : Ti x1 zx1) (tx2 : Ti x2 zx2) (tx3 : Ti x3 zx3) (hI : IX k T D w)  (hp : ∀ (r : Int32) (zr : Int) (w9 : Wd), Ti r zr → IX k T D w9 → post r w9) : pX10_tree   post  x1 x2 x3 w := by
  unfold pX10_tree
  have hk := ix_k hI
  intro w_1v1608 ew_1v1608
  have hIw_1v1608 := ixs_110_1 hI ew_1v1608 lit_0 (by omega) (by omega)
  obtain ⟨z3114, t3115⟩ := t_any (w_1v1608.1 (rl (w_1v1608.2.2.2.2 0)) 0)
  have f3116 := ixg_r0 hIw_1v1608 t3115
  refine sX5_gather   (hI := hIw_1v1608) (tx2 := tx3) (tx3 := t3115)  (hp := fun  w_2v1609   hIw_2v1609  => ?_)
  refine ⟨fun c3117 => ?_, fun c3117 => ?_⟩
  · replace c3117 := c_lt tx1 lit_0 c3117
    exact hp _ _ _  lit_m1 hIw_2v1609 
  · replace c3117 := c_nlt tx1 lit_0 c3117
    obtain ⟨z3118, t3119⟩ := t_any (w_2v1609.1 90 0)
    have f3120 := ixg_90_0 hIw_2v1609 t3119
    refine ⟨fun c3121 => ?_, fun c3121 => ?_⟩
    · replace c3121 := c_le t3119 tx1 c3121
      exact hp _ _ _  lit_m1 hIw_2v1609 
    · replace c3121 := c_nle t3119 tx1 c3121
      refine ⟨fun c3122 => ?_, fun c3122 => ?_⟩
      · replace c3122 := c_lt tx2 lit_0 c3122
        exact hp _ _ _  lit_m1 hIw_2v1609 
      · replace c3122 := c_nlt tx2 lit_0 c3122
        refine ⟨fun c3123 => ?_, fun c3123 => ?_⟩
        · replace c3123 := c_le tx2 lit_1 c3123
          refine sX5_growFrom   (hI := hIw_2v1609) (tx1 := tx1)  (hp := fun  w_7v1610   hIw_7v1610  => ?_)
          exact ⟨70000, sX10_tree_64    (hp := hp) 70000 _ _ _ _ _ tx2 lit_0 hIw_7v1610 (by omega) (by omega)⟩
        · replace c3123 := c_nle tx2 lit_1 c3123
          exact hp _ _ _  lit_m1 hIw_2v1609 
set_option maxHeartbeats 4000000 in
set_option maxRecDepth 100000 in
theorem sX5_changesToOthers_4 {T D : Int} {k : Nat} {post : Int32 → Wd → Prop} {w : Wd}  (hp : ∀ (r : Int32) (zr : Int), Ti r zr → post r w) : ∀ (n : Nat) (x1 : Int32) (x2 : Int32) (x3 : Int32) (zx1 : Int) (zx2 : Int) (zx3 : Int), Ti x1 zx1 → Ti x2 zx2 → Ti x3 zx3 → IX k T D w → (0 ≤ zx3 ∧ zx3 ≤ 7) → (0 ≤ zx1 ∧ zx1 ≤ 6) → (8 - zx3) < (n : Int) → pX5_changesToOthers_4   post  n x1 x2 x3 w := by
  intro n
  induction n with
  | zero =>
    intro x1 x2 x3 zx1 zx2 zx3  tx1 tx2 tx3 hI h0 h1 hm
    exact absurd hm (by omega)
  | succ n ih =>
    intro x1 x2 x3 zx1 zx2 zx3  tx1 tx2 tx3 hI h0 h1 hm
    unfold pX5_changesToOthers_4
    have hk := ix_k hI
    obtain ⟨z3124, t3125⟩ := t_any (w.1 90 0)
    have f3126 := ixg_90_0 hI t3125
    refine ⟨fun c3127 => ?_, fun c3127 => ?_⟩
    · replace c3127 := c_le t3125 tx3 c3127
      exact hp _ _ tx2 
    · replace c3127 := c_nle t3125 tx3 c3127
      refine ⟨fun c3128 => ?_, fun c3128 => ?_⟩
      · replace c3128 := c_neq tx3 tx1 c3128
        refine sX5_changesFrom   (hI := hI) (tx1 := tx1) (tx2 := tx3) (h0 := (by omega)) (h1 := (by omega)) (hp := fun r_3v1611 zr_3v1611 tr_3v1611 => ?_)
        unfold pX5_changesToOthers_28
        obtain ⟨z3129, t3130, f3131⟩ := t_add tx2 tr_3v1611
        first | replace f3131 := f3131 (by omega) | clear f3131
        intro x2_1v1613 ex2_1v1613
        have tx2_1v1613 : Ti x2_1v1613 z3129 := by rw [ex2_1v1613]; exact t3130
        obtain ⟨z3132, t3133, f3134⟩ := t_add tx3 lit_1
        first | replace f3134 := f3134 (by omega) | clear f3134
        intro x3_2v1614 ex3_2v1614
        have tx3_2v1614 : Ti x3_2v1614 z3132 := by rw [ex3_2v1614]; exact t3133
        exact ih _ _ _ _ _ _  tx1 tx2_1v1613 tx3_2v1614 hI (by omega) (by omega) (by omega)
      · replace c3128 := c_eq tx3 tx1 c3128
        unfold pX5_changesToOthers_28
        obtain ⟨z3135, t3136, f3137⟩ := t_add tx2 lit_0
        first | replace f3137 := f3137 (by omega) | clear f3137
        intro x2_1v1615 ex2_1v1615
        have tx2_1v1615 : Ti x2_1v1615 z3135 := by rw [ex2_1v1615]; exact t3136
        obtain ⟨z3138, t3139, f3140⟩ := t_add tx3 lit_1
        first | replace f3140 := f3140 (by omega) | clear f3140
        intro x3_2v1616 ex3_2v1616
        have tx3_2v1616 : Ti x3_2v1616 z3138 := by rw [ex3_2v1616]; exact t3139
        exact ih _ _ _ _ _ _  tx1 tx2_1v1615 tx3_2v1616 hI (by omega) (by omega) (by omega)
set_option maxHeartbeats 4000000 in
set_option maxRecDepth 100000 in
theorem sX5_changesToOthers {T D : Int} {k : Nat} {post : Int32 → Wd → Prop} {x1 : Int32} {zx1 : Int} {w : Wd}  (tx1 : Ti x1 zx1) (hI : IX k T D w) (h0 : 0 ≤ zx1 ∧ zx1 ≤ 6) (hp : ∀ (r : Int32) (zr : Int), Ti r zr → post r w) : pX5_changesToOthers   post  x1 w := by
  unfold pX5_changesToOthers
  have hk := ix_k hI
  exact ⟨70000, sX5_changesToOthers_4    (hp := hp) 70000 _ _ _ _ _ _  tx1 lit_0 lit_0 hI (by omega) (by omega) (by omega)⟩
set_option maxHeartbeats 4000000 in
set_option maxRecDepth 100000 in
theorem sX10_centre_45 {T D : Int} {k : Nat} {post : Int32 → Wd → Prop}   (hp : ∀ (r : Int32) (zr : Int) (w9 : Wd), Ti r zr → IX k T D w9 → post r w9) : ∀ (n : Nat) (x1 : Int32) (x3 : Int32) (x4 : Int32) (zx1 : Int) (zx3 : Int) (zx4 : Int) (w : Wd), Ti x1 zx1 → Ti x3 zx3 → Ti x4 zx4 → IX k T D w → (0 ≤ zx4 ∧ zx4 ≤ 7) → (0 ≤ zx3 ∧ zx3 ≤ 6) → (8 - zx4) < (n : Int) → pX10_centre_45   post  n x1 x3 x4 w := by
  intro n
  induction n with
  | zero =>
    intro x1 x3 x4 zx1 zx3 zx4 w tx1 tx3 tx4 hI h0 h1 hm
    exact absurd hm (by omega)
  | succ n ih =>
    intro x1 x3 x4 zx1 zx3 zx4 w tx1 tx3 tx4 hI h0 h1 hm
    unfold pX10_centre_45
    have hk := ix_k hI
    obtain ⟨z3141, t3142⟩ := t_any (w.1 90 0)
    have f3143 := ixg_90_0 hI t3142
    refine ⟨fun c3144 => ?_, fun c3144 => ?_⟩
    · replace c3144 := c_le t3142 tx4 c3144
      refine ⟨fun c3145 => ?_, fun c3145 => ?_⟩
      · replace c3145 := c_neq tx1 lit_0 c3145
        refine sX5_changesToOthers   (hI := hI) (tx1 := tx3) (h0 := (by omega)) (hp := fun r_3v1617 zr_3v1617 tr_3v1617 => ?_)
        exact hp _ _ _  tr_3v1617 hI 
      · replace c3145 := c_eq tx1 lit_0 c3145
        exact hp _ _ _  tx3 hI 
    · replace c3144 := c_nle t3142 tx4 c3144
      refine sX5_changesToOthers   (hI := hI) (tx1 := tx4) (h0 := (by omega)) (hp := fun r_5v1619 zr_5v1619 tr_5v1619 => ?_)
      refine sX5_changesToOthers   (hI := hI) (tx1 := tx3) (h0 := (by omega)) (hp := fun r_7v1623 zr_7v1623 tr_7v1623 => ?_)
      refine ⟨fun c3146 => ?_, fun c3146 => ?_⟩
      · replace c3146 := c_le tr_7v1623 tr_5v1619 c3146
        unfold pX10_centre_80
        obtain ⟨z3147, t3148, f3149⟩ := t_add tx4 lit_1
        first | replace f3149 := f3149 (by omega) | clear f3149
        intro x4_1v1625 ex4_1v1625
        have tx4_1v1625 : Ti x4_1v1625 z3147 := by rw [ex4_1v1625]; exact t3148
        exact ih _ _ _ _ _ _ _ tx1 tx3 tx4_1v1625 hI (by omega) (by omega) (by omega)
      · replace c3146 := c_nle tr_7v1623 tr_5v1619 c3146
        unfold pX10_centre_80
        obtain ⟨z3150, t3151, f3152⟩ := t_add tx4 lit_1
        first | replace f3152 := f3152 (by omega) | clear f3152
        intro x4_1v1626 ex4_1v1626
        have tx4_1v1626 : Ti x4_1v1626 z3150 := by rw [ex4_1v1626]; exact t3151
        exact ih _ _ _ _ _ _ _ tx1 tx4 tx4_1v1626 hI (by omega) (by omega) (by omega)
set_option maxHeartbeats 4000000 in
set_option maxRecDepth 100000 in
theorem sX10_centre {T D : Int} {k : Nat} {post : Int32 → Wd → Prop} {x1 : Int32} {zx1 : Int} {x2 : Int32} {zx2 : Int} {w : Wd}  (tx1 : Ti x1 zx1) (tx2 : Ti x2 zx2) (hI : IX k T D w)  (hp : ∀ (r : Int32) (zr : Int) (w9 : Wd), Ti r zr → IX k T D w9 → post r w9) : pX10_centre   post  x1 x2 w := by
  unfold pX10_centre
  have hk := ix_k hI
  obtain ⟨z3153, t3154⟩ := t_any (w.1 (rl (w.2.2.2.2 0)) 0)
  have f3155 := ixg_r0 hI t3154
  refine sX5_gather   (hI := hI) (tx2 := tx2) (tx3 := t3154)  (hp := fun  w_1v1627   hIw_1v1627  => ?_)
  obtain ⟨z3156, t3157⟩ := t_any (w_1v1627.1 90 0)
  have f3158 := ixg_90_0 hIw_1v1627 t3157
  refine ⟨fun c3159 => ?_, fun c3159 => ?_⟩
  · replace c3159 := c_eq t3157 lit_0 c3159
    exact hp _ _ _  lit_m1 hIw_1v1627 
  · replace c3159 := c_neq t3157 lit_0 c3159
    refine ⟨fun c3160 => ?_, fun c3160 => ?_⟩
    · replace c3160 := c_lt tx1 lit_0 c3160
      exact hp _ _ _  lit_m1 hIw_1v1627 
    · replace c3160 := c_nlt tx1 lit_0 c3160
      refine ⟨fun c3161 => ?_, fun c3161 => ?_⟩
      · replace c3161 := c_le tx1 lit_1 c3161
        exact ⟨70000, sX10_centre_45    (hp := hp) 70000 _ _ _ _ _ _ _ tx1 lit_0 lit_1 hIw_1v1627 (by omega) (by omega) (by omega)⟩
      · replace c3161 := c_nle tx1 lit_1 c3161
        exact hp _ _ _  lit_m1 hIw_1v1627 
set_option maxHeartbeats 4000000 in
set_option maxRecDepth 100000 in
theorem sX5_clanCount_4 {T D : Int} {k : Nat} {post : Int32 → Wd → Prop} {w : Wd}  (hp : ∀ (r : Int32) (zr : Int), Ti r zr → post r w) : ∀ (n : Nat) (x1 : Int32) (x2 : Int32) (zx1 : Int) (zx2 : Int), Ti x1 zx1 → Ti x2 zx2 → IX k T D w → (0 ≤ zx2 ∧ zx2 ≤ 7) → (8 - zx2) < (n : Int) → pX5_clanCount_4   post  n x1 x2 w := by
  intro n
  induction n with
  | zero =>
    intro x1 x2 zx1 zx2  tx1 tx2 hI h0 hm
    exact absurd hm (by omega)
  | succ n ih =>
    intro x1 x2 zx1 zx2  tx1 tx2 hI h0 hm
    unfold pX5_clanCount_4
    have hk := ix_k hI
    obtain ⟨z3162, t3163⟩ := t_any (w.1 90 0)
    have f3164 := ixg_90_0 hI t3163
    refine ⟨fun c3165 => ?_, fun c3165 => ?_⟩
    · replace c3165 := c_le t3163 tx2 c3165
      exact hp _ _ tx1 
    · replace c3165 := c_nle t3163 tx2 c3165
      refine ⟨vp_of tx2 (by omega) (by omega), ?_⟩
      obtain ⟨z3166, t3167⟩ := t_any (w.2.1 100 x2.toNatClampNeg)
      refine ⟨fun c3168 => ?_, fun c3168 => ?_⟩
      · replace c3168 := c_neq t3167 tx2 c3168
        unfold pX5_clanCount_28
        obtain ⟨z3169, t3170, f3171⟩ := t_add tx1 lit_0
        first | replace f3171 := f3171 (by omega) | clear f3171
        intro x1_1v1628 ex1_1v1628
        have tx1_1v1628 : Ti x1_1v1628 z3169 := by rw [ex1_1v1628]; exact t3170
        obtain ⟨z3172, t3173, f3174⟩ := t_add tx2 lit_1
        first | replace f3174 := f3174 (by omega) | clear f3174
        intro x2_2v1629 ex2_2v1629
        have tx2_2v1629 : Ti x2_2v1629 z3172 := by rw [ex2_2v1629]; exact t3173
        exact ih _ _ _ _  tx1_1v1628 tx2_2v1629 hI (by omega) (by omega)
      · replace c3168 := c_eq t3167 tx2 c3168
        unfold pX5_clanCount_28
        obtain ⟨z3175, t3176, f3177⟩ := t_add tx1 lit_1
        first | replace f3177 := f3177 (by omega) | clear f3177
        intro x1_1v1630 ex1_1v1630
        have tx1_1v1630 : Ti x1_1v1630 z3175 := by rw [ex1_1v1630]; exact t3176
        obtain ⟨z3178, t3179, f3180⟩ := t_add tx2 lit_1
        first | replace f3180 := f3180 (by omega) | clear f3180
        intro x2_2v1631 ex2_2v1631
        have tx2_2v1631 : Ti x2_2v1631 z3178 := by rw [ex2_2v1631]; exact t3179
        exact ih _ _ _ _  tx1_1v1630 tx2_2v1631 hI (by omega) (by omega)
set_option maxHeartbeats 4000000 in
set_option maxRecDepth 100000 in
theorem sX5_clanCount {T D : Int} {k : Nat} {post : Int32 → Wd → Prop}  {w : Wd}   (hI : IX k T D w)  (hp : ∀ (r : Int32) (zr : Int), Ti r zr → post r w) : pX5_clanCount   post   w := by
  unfold pX5_clanCount
  have hk := ix_k hI
  exact ⟨70000, sX5_clanCount_4    (hp := hp) 70000 _ _ _ _  lit_0 lit_0 hI (by omega) (by omega)⟩
set_option maxHeartbeats 4000000 in
set_option maxRecDepth 100000 in
theorem sX5_joinClan_9 {T D : Int} {k : Nat} {post : Wd → Prop}   (hp : ∀ (w9 : Wd), IX k T D w9 → post w9) : ∀ (n : Nat) (x1 : Int32) (x2 : Int32) (x3 : Int32) (x4 : Int32) (zx1 : Int) (zx2 : Int) (zx3 : Int) (zx4 : Int) (w : Wd), Ti x1 zx1 → Ti x2 zx2 → Ti x3 zx3 → Ti x4 zx4 → IX k T D w → (0 ≤ zx4 ∧ zx4 ≤ 7) → (8 - zx4) < (n : Int) → pX5_joinClan_9   post  n x1 x2 x3 x4 w := by
  intro n
  induction n with
  | zero =>
    intro x1 x2 x3 x4 zx1 zx2 zx3 zx4 w tx1 tx2 tx3 tx4 hI h0 hm
    exact absurd hm (by omega)
  | succ n ih =>
    intro x1 x2 x3 x4 zx1 zx2 zx3 zx4 w tx1 tx2 tx3 tx4 hI h0 hm
    unfold pX5_joinClan_9
    have hk := ix_k hI
    obtain ⟨z3181, t3182⟩ := t_any (w.1 90 0)
    have f3183 := ixg_90_0 hI t3182
    refine ⟨fun c3184 => ?_, fun c3184 => ?_⟩
    · replace c3184 := c_le t3182 tx4 c3184
      exact hp  _   hI 
    · replace c3184 := c_nle t3182 tx4 c3184
      refine ⟨vp_of tx4 (by omega) (by omega), ?_⟩
      obtain ⟨z3185, t3186⟩ := t_any (w.2.1 100 x4.toNatClampNeg)
      refine ⟨fun c3187 => ?_, fun c3187 => ?_⟩
      · replace c3187 := c_eq t3186 tx1 c3187
        unfold pX5_joinClan_40
        refine ⟨vp_of tx4 (by omega) (by omega), ?_⟩
        intro w_1v1632 ew_1v1632
        have hIw_1v1632 := ixs_A hI ew_1v1632 (by decide)
        unfold pX5_joinClan_48
        obtain ⟨z3188, t3189, f3190⟩ := t_add tx4 lit_1
        first | replace f3190 := f3190 (by omega) | clear f3190
        intro x4_1v1633 ex4_1v1633
        have tx4_1v1633 : Ti x4_1v1633 z3188 := by rw [ex4_1v1633]; exact t3189
        exact ih _ _ _ _ _ _ _ _ _ tx1 tx2 tx3 tx4_1v1633 hIw_1v1632 (by omega) (by omega)
      · replace c3187 := c_neq t3186 tx1 c3187
        refine ⟨vp_of tx4 (by omega) (by omega), ?_⟩
        refine ⟨fun c3191 => ?_, fun c3191 => ?_⟩
        · replace c3191 := c_neq t3186 tx2 c3191
          unfold pX5_joinClan_48
          obtain ⟨z3192, t3193, f3194⟩ := t_add tx4 lit_1
          first | replace f3194 := f3194 (by omega) | clear f3194
          intro x4_1v1634 ex4_1v1634
          have tx4_1v1634 : Ti x4_1v1634 z3192 := by rw [ex4_1v1634]; exact t3193
          exact ih _ _ _ _ _ _ _ _ _ tx1 tx2 tx3 tx4_1v1634 hI (by omega) (by omega)
        · replace c3191 := c_eq t3186 tx2 c3191
          unfold pX5_joinClan_40
          refine ⟨vp_of tx4 (by omega) (by omega), ?_⟩
          intro w_1v1635 ew_1v1635
          have hIw_1v1635 := ixs_A hI ew_1v1635 (by decide)
          unfold pX5_joinClan_48
          obtain ⟨z3195, t3196, f3197⟩ := t_add tx4 lit_1
          first | replace f3197 := f3197 (by omega) | clear f3197
          intro x4_1v1636 ex4_1v1636
          have tx4_1v1636 : Ti x4_1v1636 z3195 := by rw [ex4_1v1636]; exact t3196
          exact ih _ _ _ _ _ _ _ _ _ tx1 tx2 tx3 tx4_1v1636 hIw_1v1635 (by omega) (by omega)
set_option maxHeartbeats 4000000 in
set_option maxRecDepth 100000 in
theorem sX5_joinClan {T D : Int} {k : Nat} {post : Wd → Prop} {x1 : Int32} {zx1 : Int} {x2 : Int32} {zx2 : Int} {w : Wd}  (tx1 : Ti x1 zx1) (tx2 : Ti x2 zx2) (hI : IX k T D w)  (hp : ∀ (w9 : Wd), IX k T D w9 → post w9) : pX5_joinClan   post  x1 x2 w := by
  unfold pX5_joinClan
  have hk := ix_k hI
  obtain ⟨z3198, t3199, f3200⟩ := t_ite tx2 tx1 tx2 tx1
  intro x3_1v1637 ex3_1v1637
  have tx3_1v1637 : Ti x3_1v1637 z3198 := by rw [ex3_1v1637]; exact t3199
  exact ⟨70000, sX5_joinClan_9    (hp := hp) 70000 _ _ _ _ _ _ _ _ _ tx1 tx2 tx3_1v1637 lit_0 hI (by omega) (by omega)⟩
set_option maxHeartbeats 4000000 in
set_option maxRecDepth 100000 in
theorem sX5_joinClans_35 {T D : Int} {k : Nat} {k25 : Int32 → Int32 → Wd → Prop} {M25 : Int} {post : Wd → Prop}  (hk25 : ∀ (x1 : Int32) (x2 : Int32) (zx1 : Int) (zx2 : Int) (w : Wd), Ti x1 zx1 → Ti x2 zx2 → IX k T D w → (0 ≤ zx2 ∧ zx2 ≤ 7) → (8 - zx2) < M25 → k25 x1 x2 w) (hp : ∀ (w9 : Wd), IX k T D w9 → post w9) : ∀ (n : Nat) (x1 : Int32) (x2 : Int32) (x3 : Int32) (zx1 : Int) (zx2 : Int) (zx3 : Int) (w : Wd), Ti x1 zx1 → Ti x2 zx2 → Ti x3 zx3 → IX k T D w → (0 ≤ zx3 ∧ zx3 ≤ 7) → (zx2 ≤ 6) → (0 ≤ zx2 ∧ zx2 ≤ 7) → ((8 - zx2) ≤ M25) → (8 - zx3) < (n : Int) → pX5_joinClans_35 k25  post  n x1 x2 x3 w := by
  intro n
  induction n with
  | zero =>
    intro x1 x2 x3 zx1 zx2 zx3 w tx1 tx2 tx3 hI h0 h1 h2 h3 hm
    exact absurd hm (by omega)
  | succ n ih =>
    intro x1 x2 x3 zx1 zx2 zx3 w tx1 tx2 tx3 hI h0 h1 h2 h3 hm
    unfold pX5_joinClans_35
    have hk := ix_k hI
    refine ⟨fun c3201 => ?_, fun c3201 => ?_⟩
    · replace c3201 := c_le tx2 tx3 c3201
      obtain ⟨z3202, t3203, f3204⟩ := t_add tx2 lit_1
      first | replace f3204 := f3204 (by omega) | clear f3204
      intro x2_2v1638 ex2_2v1638
      have tx2_2v1638 : Ti x2_2v1638 z3202 := by rw [ex2_2v1638]; exact t3203
      exact hk25 _ _ _ _ _ tx1 tx2_2v1638 hI (by omega) (by omega)
    · replace c3201 := c_nle tx2 tx3 c3201
      refine sX5_changesFrom   (hI := hI) (tx1 := tx2) (tx2 := tx3) (h0 := (by omega)) (h1 := (by omega)) (hp := fun r_3v1639 zr_3v1639 tr_3v1639 => ?_)
      refine sX5_changesFrom   (hI := hI) (tx1 := tx3) (tx2 := tx2) (h0 := (by omega)) (h1 := (by omega)) (hp := fun r_5v1644 zr_5v1644 tr_5v1644 => ?_)
      obtain ⟨z3205, t3206, f3207⟩ := t_ite tr_5v1644 tr_3v1639 tr_5v1644 tr_3v1639
      refine ⟨fun c3208 => ?_, fun c3208 => ?_⟩
      · replace c3208 := c_lt tx1 t3206 c3208
        unfold pX5_joinClans_75
        obtain ⟨z3209, t3210, f3211⟩ := t_add tx3 lit_1
        first | replace f3211 := f3211 (by omega) | clear f3211
        intro x3_1v1648 ex3_1v1648
        have tx3_1v1648 : Ti x3_1v1648 z3209 := by rw [ex3_1v1648]; exact t3210
        exact ih _ _ _ _ _ _ _ tx1 tx2 tx3_1v1648 hI (by omega) (by omega) (by omega) (by omega) (by omega)
      · replace c3208 := c_nlt tx1 t3206 c3208
        refine ⟨vp_of tx2 (by omega) (by omega), ?_⟩
        refine ⟨vp_of tx3 (by omega) (by omega), ?_⟩
        obtain ⟨z3212, t3213⟩ := t_any (w.2.1 100 x2.toNatClampNeg)
        obtain ⟨z3214, t3215⟩ := t_any (w.2.1 100 x3.toNatClampNeg)
        refine sX5_joinClan   (hI := hI) (tx1 := t3213) (tx2 := t3215)  (hp := fun  w_8v1647   hIw_8v1647  => ?_)
        unfold pX5_joinClans_75
        obtain ⟨z3216, t3217, f3218⟩ := t_add tx3 lit_1
        first | replace f3218 := f3218 (by omega) | clear f3218
        intro x3_1v1649 ex3_1v1649
        have tx3_1v1649 : Ti x3_1v1649 z3216 := by rw [ex3_1v1649]; exact t3217
        exact ih _ _ _ _ _ _ _ tx1 tx2 tx3_1v1649 hIw_8v1647 (by omega) (by omega) (by omega) (by omega) (by omega)
set_option maxHeartbeats 4000000 in
set_option maxRecDepth 100000 in
theorem sX5_joinClans_25 {T D : Int} {k : Nat} {post : Wd → Prop}   (hp : ∀ (w9 : Wd), IX k T D w9 → post w9) : ∀ (n : Nat) (x1 : Int32) (x2 : Int32) (zx1 : Int) (zx2 : Int) (w : Wd), Ti x1 zx1 → Ti x2 zx2 → IX k T D w → (0 ≤ zx2 ∧ zx2 ≤ 7) → (8 - zx2) < (n : Int) → pX5_joinClans_25   post  n x1 x2 w := by
  intro n
  induction n with
  | zero =>
    intro x1 x2 zx1 zx2 w tx1 tx2 hI h0 hm
    exact absurd hm (by omega)
  | succ n ih =>
    intro x1 x2 zx1 zx2 w tx1 tx2 hI h0 hm
    unfold pX5_joinClans_25
    have hk := ix_k hI
    obtain ⟨z3219, t3220⟩ := t_any (w.1 90 0)
    have f3221 := ixg_90_0 hI t3220
    refine ⟨fun c3222 => ?_, fun c3222 => ?_⟩
    · replace c3222 := c_le t3220 tx2 c3222
      exact hp  _   hI 
    · replace c3222 := c_nle t3220 tx2 c3222
      exact ⟨70000, sX5_joinClans_35  (M25 := (n : Int)) (hk25 := ih)  (hp := hp) 70000 _ _ _ _ _ _ _ tx1 tx2 lit_0 hI (by omega) (by omega) (by omega) (by omega) (by omega)⟩
