set_option maxHeartbeats 4000000 in
set_option maxRecDepth 100000 in
theorem sX9_seek {T D : Int} {k : Nat} {post : Int32 → Wd → Prop} {x1 : Int32} {zx1 : Int} {x2 : Int32} {zx2 : Int} {w : Wd}  (tx1 : Ti x1 zx1) (tx2 : Ti x2 zx2) (hI : IX k T D w) (h0 : 0 ≤ zx2) (hp : ∀ (r : Int32) (zr : Int) (w9 : Wd), Ti r zr → IX k T D w9 → post r w9) : pX9_seek   post  x1 x2 w := by
  unfold pX9_seek
  have hk := ix_k hI
  intro w_1v1430 ew_1v1430
  have hIw_1v1430 := ixs_n hI ew_1v1430 (by unfold nX; omega)
  intro w_2v1431 ew_2v1431
  obtain ⟨z2870, t2871, f2872⟩ := t_ite lit_4096 tx2 lit_4096 tx2
  have hIw_2v1431 := ixs_60_4 hIw_1v1430 ew_2v1431 t2871 (by omega) (by omega)
  exact ⟨70000, sX9_seek_18   (hp := hp) 70000 _ _ _ lit_0 hIw_2v1431 (by omega) (by omega)⟩
set_option maxHeartbeats 4000000 in
set_option maxRecDepth 100000 in
theorem sX10_wax {T D : Int} {k : Nat} {post : Int32 → Wd → Prop} {x1 : Int32} {zx1 : Int} {w : Wd}  (tx1 : Ti x1 zx1) (hI : IX k T D w)  (hp : ∀ (r : Int32) (zr : Int) (w9 : Wd), Ti r zr → IX k T D w9 → post r w9) : pX10_wax   post  x1 w := by
  unfold pX10_wax
  have hk := ix_k hI
  intro w_1v1432 ew_1v1432
  have hIw_1v1432 := ixs_110_1 hI ew_1v1432 lit_0 (by omega) (by omega)
  refine sX10_isRow   (hI := hIw_1v1432) (tx1 := tx1)  (hp := fun r_2v1433 zr_2v1433 tr_2v1433 p2873 => ?_)
  refine ⟨fun c2874 => ?_, fun c2874 => ?_⟩
  · replace c2874 := c_neq tr_2v1433 lit_0 c2874
    refine sX7_rows   (hI := hIw_1v1432)   (hp := fun r_5v1443 zr_5v1443 tr_5v1443 p2875 => ?_)
    refine sX9_seek   (hI := hIw_1v1432) (tx1 := tx1) (tx2 := tr_5v1443) (h0 := (by omega)) (hp := fun r_7v1451 zr_7v1451 w_8v1452  tr_7v1451 hIw_8v1452  => ?_)
    refine sX10_isSeal   (hI := hIw_8v1452) (tx1 := tr_7v1451)  (hp := fun r_9v1453 zr_9v1453 tr_9v1453 p2876 => ?_)
    refine ⟨fun c2877 => ?_, fun c2877 => ?_⟩
    · replace c2877 := c_neq tr_9v1453 lit_0 c2877
      refine sX4_lay   (hI := hIw_8v1452) (tx1 := tr_7v1451)  (hp := fun  w_12v1457   hIw_12v1457  => ?_)
      refine ⟨vp_of tr_7v1451 (by omega) (by omega), ?_⟩
      obtain ⟨z2878, t2879⟩ := t_any (w_12v1457.2.1 162 r_7v1451.toNatClampNeg)
      refine sX9_layWay   (hI := hIw_12v1457) (tx1 := t2879)  (hp := fun  w_13v1458   hIw_13v1458  => ?_)
      obtain ⟨z2880, t2881⟩ := t_any (w_13v1458.1 60 5)
      exact hp _ _ _  t2881 hIw_13v1458 
    · replace c2877 := c_eq tr_9v1453 lit_0 c2877
      exact hp _ _ _  lit_m1 hIw_8v1452 
  · replace c2874 := c_eq tr_2v1433 lit_0 c2874
    exact hp _ _ _  lit_m1 hIw_1v1432 
set_option maxHeartbeats 4000000 in
set_option maxRecDepth 100000 in
theorem sX3_add {T D : Int} {k : Nat} {post : Int32 → Wd → Prop} {x1 : Int32} {zx1 : Int} {x2 : Int32} {zx2 : Int} {x3 : Int32} {zx3 : Int} {x4 : Int32} {zx4 : Int} {w : Wd}  (tx1 : Ti x1 zx1) (tx2 : Ti x2 zx2) (tx3 : Ti x3 zx3) (tx4 : Ti x4 zx4) (hI : IX k T D w)  (hp : ∀ (r : Int32) (zr : Int) (w9 : Wd), Ti r zr → IX k T D w9 → post r w9) : pX3_add   post  x1 x2 x3 x4 w := by
  unfold pX3_add
  have hk := ix_k hI
  obtain ⟨z2882, t2883⟩ := t_any (w.1 70 0)
  have f2884 := ixg_70_0 hI t2883
  refine ⟨fun c2885 => ?_, fun c2885 => ?_⟩
  · replace c2885 := c_lt t2883 lit_0 c2885
    exact hp _ _ _  lit_m1 hI 
  · replace c2885 := c_nlt t2883 lit_0 c2885
    refine ⟨fun c2886 => ?_, fun c2886 => ?_⟩
    · replace c2886 := c_lt t2883 lit_40 c2886
      refine ⟨vp_of t2883 (by omega) (by omega), ?_⟩
      intro w_3v1459 ew_3v1459
      have hIw_3v1459 := ixs_A hI ew_3v1459 (by decide)
      have t2887 : Ti (w_3v1459.1 70 0) z2882 := by rw [e1_A ew_3v1459]; exact t2883
      refine ⟨vp_of t2887 (by omega) (by omega), ?_⟩
      intro w_4v1460 ew_4v1460
      have hIw_4v1460 := ixs_A hIw_3v1459 ew_4v1460 (by decide)
      have t2888 : Ti (w_4v1460.1 70 0) z2882 := by rw [e1_A ew_4v1460]; exact t2887
      refine ⟨vp_of t2888 (by omega) (by omega), ?_⟩
      intro w_5v1461 ew_5v1461
      have hIw_5v1461 := ixs_A hIw_4v1460 ew_5v1461 (by decide)
      have t2889 : Ti (w_5v1461.1 70 0) z2882 := by rw [e1_A ew_5v1461]; exact t2888
      refine ⟨vp_of t2889 (by omega) (by omega), ?_⟩
      intro w_6v1462 ew_6v1462
      have hIw_6v1462 := ixs_A hIw_5v1461 ew_6v1462 (by decide)
      have t2890 : Ti (w_6v1462.1 70 0) z2882 := by rw [e1_A ew_6v1462]; exact t2889
      refine ⟨vp_of t2890 (by omega) (by omega), ?_⟩
      intro w_7v1463 ew_7v1463
      have hIw_7v1463 := ixs_A hIw_6v1462 ew_7v1463 (by decide)
      have t2891 : Ti (w_7v1463.1 70 0) z2882 := by rw [e1_A ew_7v1463]; exact t2890
      refine ⟨vp_of t2891 (by omega) (by omega), ?_⟩
      intro w_8v1464 ew_8v1464
      have hIw_8v1464 := ixs_A hIw_7v1463 ew_8v1464 (by decide)
      intro w_9v1465 ew_9v1465
      have t2892 : Ti (w_8v1464.1 70 0) z2882 := by rw [e1_A ew_8v1464]; exact t2891
      obtain ⟨z2893, t2894, f2895⟩ := t_add t2892 lit_1
      first | replace f2895 := f2895 (by omega) | clear f2895
      have hIw_9v1465 := ixs_70_0 hIw_8v1464 ew_9v1465 t2894 (by omega) (by omega)
      have t2896 : Ti (w_9v1465.1 70 0) z2893 := by rw [ew_9v1465, sI_at]; exact t2894
      obtain ⟨z2897, t2898, f2899⟩ := t_sub t2896 lit_1
      first | replace f2899 := f2899 (by omega) | clear f2899
      exact hp _ _ _  t2898 hIw_9v1465 
    · replace c2886 := c_nlt t2883 lit_40 c2886
      exact hp _ _ _  lit_m1 hI 
set_option maxHeartbeats 4000000 in
set_option maxRecDepth 100000 in
theorem sX10_sample {T D : Int} {k : Nat} {post : Int32 → Wd → Prop} {x1 : Int32} {zx1 : Int} {x2 : Int32} {zx2 : Int} {w : Wd}  (tx1 : Ti x1 zx1) (tx2 : Ti x2 zx2) (hI : IX k T D w)  (hp : ∀ (r : Int32) (zr : Int) (w9 : Wd), Ti r zr → IX k T D w9 → post r w9) : pX10_sample   post  x1 x2 w := by
  unfold pX10_sample
  have hk := ix_k hI
  refine sX10_isRow   (hI := hI) (tx1 := tx1)  (hp := fun r_1v1466 zr_1v1466 tr_1v1466 p2900 => ?_)
  refine ⟨fun c2901 => ?_, fun c2901 => ?_⟩
  · replace c2901 := c_eq tr_1v1466 lit_0 c2901
    exact hp _ _ _  lit_m1 hI 
  · replace c2901 := c_neq tr_1v1466 lit_0 c2901
    refine ⟨fun c2902 => ?_, fun c2902 => ?_⟩
    · replace c2902 := c_eq tx2 lit_0 c2902
      refine sX3_add   (hI := hI) (tx1 := lit_0) (tx2 := tx1) (tx3 := lit_0) (tx4 := lit_0)  (hp := fun r_5v1472 zr_5v1472 w_6v1473  tr_5v1472 hIw_6v1473  => ?_)
      exact hp _ _ _  tr_5v1472 hIw_6v1473 
    · replace c2902 := c_neq tx2 lit_0 c2902
      refine sX3_add   (hI := hI) (tx1 := lit_0) (tx2 := tx1) (tx3 := lit_0) (tx4 := lit_1)  (hp := fun r_7v1474 zr_7v1474 w_8v1475  tr_7v1474 hIw_8v1475  => ?_)
      exact hp _ _ _  tr_7v1474 hIw_8v1475 
set_option maxHeartbeats 4000000 in
set_option maxRecDepth 100000 in
theorem sX10_isYear {T D : Int} {k : Nat} {post : Int32 → Wd → Prop} {x0 : Int32} {zx0 : Int} {w : Wd}  (tx0 : Ti x0 zx0) (hI : IX k T D w)  (hp : ∀ (r : Int32) (zr : Int), Ti r zr → post r w) : pX10_isYear   post  x0 w := by
  unfold pX10_isYear
  have hk := ix_k hI
  refine ⟨fun c2903 => ?_, fun c2903 => ?_⟩
  · replace c2903 := c_lt tx0 lit_0 c2903
    exact hp _ _ lit_0 
  · replace c2903 := c_nlt tx0 lit_0 c2903
    refine ⟨fun c2904 => ?_, fun c2904 => ?_⟩
    · replace c2904 := c_lt lit_999 tx0 c2904
      exact hp _ _ lit_0 
    · replace c2904 := c_nlt lit_999 tx0 c2904
      exact hp _ _ lit_1 
set_option maxHeartbeats 4000000 in
set_option maxRecDepth 100000 in
theorem sX10_claim {T D : Int} {k : Nat} {post : Int32 → Wd → Prop} {x1 : Int32} {zx1 : Int} {x2 : Int32} {zx2 : Int} {x3 : Int32} {zx3 : Int} {w : Wd}  (tx1 : Ti x1 zx1) (tx2 : Ti x2 zx2) (tx3 : Ti x3 zx3) (hI : IX k T D w)  (hp : ∀ (r : Int32) (zr : Int) (w9 : Wd), Ti r zr → IX k T D w9 → post r w9) : pX10_claim   post  x1 x2 x3 w := by
  unfold pX10_claim
  have hk := ix_k hI
  refine sX10_isRow   (hI := hI) (tx1 := tx1)  (hp := fun r_1v1476 zr_1v1476 tr_1v1476 p2905 => ?_)
  refine ⟨fun c2906 => ?_, fun c2906 => ?_⟩
  · replace c2906 := c_eq tr_1v1476 lit_0 c2906
    exact hp _ _ _  lit_m1 hI 
  · replace c2906 := c_neq tr_1v1476 lit_0 c2906
    refine sX10_isSeal   (hI := hI) (tx1 := tx2)  (hp := fun r_4v1484 zr_4v1484 tr_4v1484 p2907 => ?_)
    refine ⟨fun c2908 => ?_, fun c2908 => ?_⟩
    · replace c2908 := c_eq tr_4v1484 lit_0 c2908
      exact hp _ _ _  lit_m1 hI 
    · replace c2908 := c_neq tr_4v1484 lit_0 c2908
      refine sX10_isYear   (hI := hI) (tx0 := tx3)  (hp := fun r_7v1490 zr_7v1490 tr_7v1490 => ?_)
      refine ⟨fun c2909 => ?_, fun c2909 => ?_⟩
      · replace c2909 := c_neq tr_7v1490 lit_0 c2909
        refine sX3_add   (hI := hI) (tx1 := lit_1) (tx2 := tx1) (tx3 := tx2) (tx4 := tx3)  (hp := fun r_10v1494 zr_10v1494 w_11v1495  tr_10v1494 hIw_11v1495  => ?_)
        exact hp _ _ _  tr_10v1494 hIw_11v1495 
      · replace c2909 := c_eq tr_7v1490 lit_0 c2909
        exact hp _ _ _  lit_m1 hI 
set_option maxHeartbeats 4000000 in
set_option maxRecDepth 100000 in
theorem sX10_saw {T D : Int} {k : Nat} {post : Int32 → Wd → Prop} {x1 : Int32} {zx1 : Int} {x2 : Int32} {zx2 : Int} {x3 : Int32} {zx3 : Int} {w : Wd}  (tx1 : Ti x1 zx1) (tx2 : Ti x2 zx2) (tx3 : Ti x3 zx3) (hI : IX k T D w)  (hp : ∀ (r : Int32) (zr : Int) (w9 : Wd), Ti r zr → IX k T D w9 → post r w9) : pX10_saw   post  x1 x2 x3 w := by
  unfold pX10_saw
  have hk := ix_k hI
  refine sX10_isMark   (hI := hI) (tx1 := tx1)  (hp := fun r_1v1496 zr_1v1496 tr_1v1496 p2910 => ?_)
  refine ⟨fun c2911 => ?_, fun c2911 => ?_⟩
  · replace c2911 := c_eq tr_1v1496 lit_0 c2911
    exact hp _ _ _  lit_m1 hI 
  · replace c2911 := c_neq tr_1v1496 lit_0 c2911
    refine sX10_isYear   (hI := hI) (tx0 := tx2)  (hp := fun r_4v1504 zr_4v1504 tr_4v1504 => ?_)
    refine ⟨fun c2912 => ?_, fun c2912 => ?_⟩
    · replace c2912 := c_eq tr_4v1504 lit_0 c2912
      exact hp _ _ _  lit_m1 hI 
    · replace c2912 := c_neq tr_4v1504 lit_0 c2912
      refine ⟨fun c2913 => ?_, fun c2913 => ?_⟩
      · replace c2913 := c_eq tx3 lit_0 c2913
        refine sX3_add   (hI := hI) (tx1 := lit_2) (tx2 := tx1) (tx3 := tx2) (tx4 := lit_0)  (hp := fun r_8v1510 zr_8v1510 w_9v1511  tr_8v1510 hIw_9v1511  => ?_)
        exact hp _ _ _  tr_8v1510 hIw_9v1511 
      · replace c2913 := c_neq tx3 lit_0 c2913
        refine sX3_add   (hI := hI) (tx1 := lit_2) (tx2 := tx1) (tx3 := tx2) (tx4 := lit_1)  (hp := fun r_10v1512 zr_10v1512 w_11v1513  tr_10v1512 hIw_11v1513  => ?_)
        exact hp _ _ _  tr_10v1512 hIw_11v1513 
set_option maxHeartbeats 4000000 in
set_option maxRecDepth 100000 in
theorem sX10_isPaper {T D : Int} {k : Nat} {post : Int32 → Wd → Prop} {x0 : Int32} {zx0 : Int} {w : Wd}  (tx0 : Ti x0 zx0) (hI : IX k T D w)  (hp : ∀ (r : Int32) (zr : Int), Ti r zr → ((zr = 0 ∨ (0 ≤ zx0 ∧ zx0 ≤ 7))) → post r w) : pX10_isPaper   post  x0 w := by
  unfold pX10_isPaper
  have hk := ix_k hI
  refine ⟨fun c2914 => ?_, fun c2914 => ?_⟩
  · replace c2914 := c_lt tx0 lit_0 c2914
    exact hp _ _ lit_0 (by omega)
  · replace c2914 := c_nlt tx0 lit_0 c2914
    refine ⟨fun c2915 => ?_, fun c2915 => ?_⟩
    · replace c2915 := c_le lit_8 tx0 c2915
      exact hp _ _ lit_0 (by omega)
    · replace c2915 := c_nle lit_8 tx0 c2915
      exact hp _ _ lit_1 (by omega)
set_option maxHeartbeats 4000000 in
set_option maxRecDepth 100000 in
theorem sX10_link {T D : Int} {k : Nat} {post : Int32 → Wd → Prop} {x1 : Int32} {zx1 : Int} {x2 : Int32} {zx2 : Int} {x3 : Int32} {zx3 : Int} {w : Wd}  (tx1 : Ti x1 zx1) (tx2 : Ti x2 zx2) (tx3 : Ti x3 zx3) (hI : IX k T D w)  (hp : ∀ (r : Int32) (zr : Int) (w9 : Wd), Ti r zr → IX k T D w9 → post r w9) : pX10_link   post  x1 x2 x3 w := by
  unfold pX10_link
  have hk := ix_k hI
  refine sX10_isPaper   (hI := hI) (tx0 := tx1)  (hp := fun r_1v1514 zr_1v1514 tr_1v1514 p2916 => ?_)
  refine ⟨fun c2917 => ?_, fun c2917 => ?_⟩
  · replace c2917 := c_eq tr_1v1514 lit_0 c2917
    exact hp _ _ _  lit_m1 hI 
  · replace c2917 := c_neq tr_1v1514 lit_0 c2917
    refine sX10_isPaper   (hI := hI) (tx0 := tx2)  (hp := fun r_4v1522 zr_4v1522 tr_4v1522 p2918 => ?_)
    refine ⟨fun c2919 => ?_, fun c2919 => ?_⟩
    · replace c2919 := c_eq tr_4v1522 lit_0 c2919
      exact hp _ _ _  lit_m1 hI 
    · replace c2919 := c_neq tr_4v1522 lit_0 c2919
      refine ⟨fun c2920 => ?_, fun c2920 => ?_⟩
      · replace c2920 := c_neq tx1 tx2 c2920
        refine ⟨fun c2921 => ?_, fun c2921 => ?_⟩
        · replace c2921 := c_eq tx3 lit_0 c2921
          refine sX3_add   (hI := hI) (tx1 := lit_3) (tx2 := tx1) (tx3 := tx2) (tx4 := lit_0)  (hp := fun r_9v1528 zr_9v1528 w_10v1529  tr_9v1528 hIw_10v1529  => ?_)
          exact hp _ _ _  tr_9v1528 hIw_10v1529 
        · replace c2921 := c_neq tx3 lit_0 c2921
          refine sX3_add   (hI := hI) (tx1 := lit_3) (tx2 := tx1) (tx3 := tx2) (tx4 := lit_1)  (hp := fun r_11v1530 zr_11v1530 w_12v1531  tr_11v1530 hIw_12v1531  => ?_)
          exact hp _ _ _  tr_11v1530 hIw_12v1531 
      · replace c2920 := c_eq tx1 tx2 c2920
        exact hp _ _ _  lit_m1 hI 
set_option maxHeartbeats 4000000 in
set_option maxRecDepth 100000 in
theorem sX10_untell {T D : Int} {k : Nat} {post : Int32 → Wd → Prop} {x1 : Int32} {zx1 : Int} {w : Wd}  (tx1 : Ti x1 zx1) (hI : IX k T D w)  (hp : ∀ (r : Int32) (zr : Int) (w9 : Wd), Ti r zr → IX k T D w9 → post r w9) : pX10_untell   post  x1 w := by
  unfold pX10_untell
  have hk := ix_k hI
  refine ⟨fun c2922 => ?_, fun c2922 => ?_⟩
  · replace c2922 := c_lt tx1 lit_0 c2922
    exact hp _ _ _  lit_0 hI 
  · replace c2922 := c_nlt tx1 lit_0 c2922
    obtain ⟨z2923, t2924⟩ := t_any (w.1 70 0)
    have f2925 := ixg_70_0 hI t2924
    refine ⟨fun c2926 => ?_, fun c2926 => ?_⟩
    · replace c2926 := c_le t2924 tx1 c2926
      exact hp _ _ _  lit_0 hI 
    · replace c2926 := c_nle t2924 tx1 c2926
      refine ⟨vp_of tx1 (by omega) (by omega), ?_⟩
      obtain ⟨z2927, t2928⟩ := t_any (w.2.1 78 x1.toNatClampNeg)
      refine ⟨fun c2929 => ?_, fun c2929 => ?_⟩
      · replace c2929 := c_eq t2928 lit_m1 c2929
        refine ⟨vp_of tx1 (by omega) (by omega), ?_⟩
        intro w_4v1532 ew_4v1532
        have hIw_4v1532 := ixs_A hI ew_4v1532 (by decide)
        exact hp _ _ _  lit_1 hIw_4v1532 
      · replace c2929 := c_neq t2928 lit_m1 c2929
        exact hp _ _ _  lit_0 hI 
theorem sX10_later {T D : Int} {k : Nat} {post : Int32 → Wd → Prop} {x1 : Int32} {zx1 : Int} {w : Wd} (tx1 : Ti x1 zx1) (hI : IX k T D w) (hT : 0 ≤ T ∧ T ≤ 100000) (hp : ∀ (r : Int32) (zr : Int) (w9 : Wd) (T9 : Int), Ti r zr → IX k T9 D w9 → (((0 ≤ zx1 ∧ zx1 ≤ 1000 ∧ T + zx1 ≤ 100000) ∧ T9 = T + zx1 ∧ zr = T9) ∨ (¬ (0 ≤ zx1 ∧ zx1 ≤ 1000 ∧ T + zx1 ≤ 100000) ∧ T9 = T ∧ zr = -1)) → post r w9) : pX10_later post x1 w := by
  unfold pX10_later
  obtain ⟨z, t⟩ := t_any (w.1 70 1)
  have b := ixg_70_1 hI t
  refine ⟨fun c => ?_, fun c => ⟨fun c2 => ?_, fun c2 => ?_⟩⟩
  · replace c := c_lt tx1 lit_0 c
    exact hp _ _ _ _ lit_m1 hI (by omega)
  · replace c2 := c_lt lit_1000 tx1 c2
    exact hp _ _ _ _ lit_m1 hI (by omega)
  · replace c := c_nlt tx1 lit_0 c
    replace c2 := c_nlt lit_1000 tx1 c2
    obtain ⟨y, u, f⟩ := t_add t tx1
    replace f := f (by omega)
    refine ⟨fun c3 => ?_, fun c3 => ?_⟩
    · replace c3 := c_le u lit_100000 c3
      intro w_4 e4
      have i4 := ixs_70_1 hI e4 u
      obtain ⟨z4, t4⟩ := t_any (w_4.1 70 1)
      have b4 := ixg_70_1 i4 t4
      exact hp _ _ _ _ t4 i4 (by omega)
    · replace c3 := c_nle u lit_100000 c3
      exact hp _ _ _ _ lit_m1 hI (by omega)
set_option maxHeartbeats 4000000 in
set_option maxRecDepth 100000 in
theorem sX10_changes {T D : Int} {k : Nat} {post : Int32 → Wd → Prop} {x0 : Int32} {zx0 : Int} {x1 : Int32} {zx1 : Int} {x2 : Int32} {zx2 : Int} {w : Wd}  (tx0 : Ti x0 zx0) (tx1 : Ti x1 zx1) (tx2 : Ti x2 zx2) (hI : IX k T D w)  (hp : ∀ (r : Int32) (zr : Int), Ti r zr → post r w) : pX10_changes   post  x0 x1 x2 w := by
  unfold pX10_changes
  have hk := ix_k hI
  refine sX10_turn   (hI := hI) (tx0 := tx0) (tx1 := tx2)  (hp := fun r_1v1533 zr_1v1533 tr_1v1533 => ?_)
  obtain ⟨z2930, t2931⟩ := t_any (r_1v1533 &&& (x1 ^^^ (-1 : Int32)))
  refine sJ6_bitCount_0f7a4   (hI := hI) (tx0 := t2931)  (hp := fun r_3v1539 zr_3v1539 tr_3v1539 p2932 => ?_)
  obtain ⟨z2933, t2934⟩ := t_any (x1 &&& (r_1v1533 ^^^ (-1 : Int32)))
  refine sJ6_bitCount_0f7a4   (hI := hI) (tx0 := t2934)  (hp := fun r_5v1543 zr_5v1543 tr_5v1543 p2935 => ?_)
  obtain ⟨z2936, t2937, f2938⟩ := t_mul lit_2 tr_5v1543
  first | replace f2938 := f2938 (by omega) | clear f2938
  obtain ⟨z2939, t2940, f2941⟩ := t_add tr_3v1539 t2937
  first | replace f2941 := f2941 (by omega) | clear f2941
  exact hp _ _ t2940 
set_option maxHeartbeats 4000000 in
set_option maxRecDepth 100000 in
theorem sX3_counts {T D : Int} {k : Nat} {post : Int32 → Wd → Prop} {x1 : Int32} {zx1 : Int} {x2 : Int32} {zx2 : Int} {x3 : Int32} {zx3 : Int} {w : Wd}  (tx1 : Ti x1 zx1) (tx2 : Ti x2 zx2) (tx3 : Ti x3 zx3) (hI : IX k T D w)  (hp : ∀ (r : Int32) (zr : Int), Ti r zr → post r w) : pX3_counts   post  x1 x2 x3 w := by
  unfold pX3_counts
  have hk := ix_k hI
  refine ⟨fun c2942 => ?_, fun c2942 => ?_⟩
  · replace c2942 := c_lt tx1 lit_0 c2942
    exact hp _ _ lit_0 
  · replace c2942 := c_nlt tx1 lit_0 c2942
    obtain ⟨z2943, t2944⟩ := t_any (w.1 70 0)
    have f2945 := ixg_70_0 hI t2944
    refine ⟨fun c2946 => ?_, fun c2946 => ?_⟩
    · replace c2946 := c_le t2944 tx1 c2946
      exact hp _ _ lit_0 
    · replace c2946 := c_nle t2944 tx1 c2946
      refine ⟨vp_of tx1 (by omega) (by omega), ?_⟩
      obtain ⟨z2947, t2948⟩ := t_any (w.2.1 73 x1.toNatClampNeg)
      refine ⟨fun c2949 => ?_, fun c2949 => ?_⟩
      · replace c2949 := c_neq t2948 tx2 c2949
        exact hp _ _ lit_0 
      · replace c2949 := c_eq t2948 tx2 c2949
        refine ⟨vp_of tx1 (by omega) (by omega), ?_⟩
        obtain ⟨z2950, t2951⟩ := t_any (w.2.1 77 x1.toNatClampNeg)
        refine ⟨fun c2952 => ?_, fun c2952 => ?_⟩
        · replace c2952 := c_lt tx3 t2951 c2952
          exact hp _ _ lit_0 
        · replace c2952 := c_nlt tx3 t2951 c2952
          refine ⟨vp_of tx1 (by omega) (by omega), ?_⟩
          obtain ⟨z2953, t2954⟩ := t_any (w.2.1 78 x1.toNatClampNeg)
          refine ⟨fun c2955 => ?_, fun c2955 => ?_⟩
          · replace c2955 := c_eq t2954 lit_m1 c2955
            exact hp _ _ lit_1 
          · replace c2955 := c_neq t2954 lit_m1 c2955
            refine ⟨vp_of tx1 (by omega) (by omega), ?_⟩
            refine ⟨fun c2956 => ?_, fun c2956 => ?_⟩
            · replace c2956 := c_le t2954 tx3 c2956
              exact hp _ _ lit_0 
            · replace c2956 := c_nle t2954 tx3 c2956
              exact hp _ _ lit_1 
set_option maxHeartbeats 4000000 in
set_option maxRecDepth 100000 in
theorem sX5_gather_84 {T D : Int} {k : Nat} {k72 : Int32 → Int32 → Wd → Prop} {M72 : Int} {post : Wd → Prop}  (hk72 : ∀ (x3 : Int32) (x4 : Int32) (zx3 : Int) (zx4 : Int) (w : Wd), Ti x3 zx3 → Ti x4 zx4 → IX k T D w → (0 ≤ zx4 ∧ zx4 ≤ 7) → (8 - zx4) < M72 → k72 x3 x4 w) (hp : ∀ (w9 : Wd), IX k T D w9 → post w9) : ∀ (n : Nat) (x3 : Int32) (x4 : Int32) (x5 : Int32) (zx3 : Int) (zx4 : Int) (zx5 : Int) (w : Wd), Ti x3 zx3 → Ti x4 zx4 → Ti x5 zx5 → IX k T D w → (0 ≤ zx5 ∧ zx5 ≤ 7) → (zx4 ≤ 6) → (0 ≤ zx4 ∧ zx4 ≤ 7) → ((8 - zx4) ≤ M72) → (8 - zx5) < (n : Int) → pX5_gather_84 k72  post  n x3 x4 x5 w := by
  intro n
  induction n with
  | zero =>
    intro x3 x4 x5 zx3 zx4 zx5 w tx3 tx4 tx5 hI h0 h1 h2 h3 hm
    exact absurd hm (by omega)
  | succ n ih =>
    intro x3 x4 x5 zx3 zx4 zx5 w tx3 tx4 tx5 hI h0 h1 h2 h3 hm
    unfold pX5_gather_84
    have hk := ix_k hI
    obtain ⟨z2957, t2958⟩ := t_any (w.1 90 0)
    have f2959 := ixg_90_0 hI t2958
    refine ⟨fun c2960 => ?_, fun c2960 => ?_⟩
    · replace c2960 := c_le t2958 tx5 c2960
      obtain ⟨z2961, t2962, f2963⟩ := t_add tx4 lit_1
      first | replace f2963 := f2963 (by omega) | clear f2963
      intro x4_2v1545 ex4_2v1545
      have tx4_2v1545 : Ti x4_2v1545 z2961 := by rw [ex4_2v1545]; exact t2962
      exact hk72 _ _ _ _ _ tx3 tx4_2v1545 hI (by omega) (by omega)
    · replace c2960 := c_nle t2958 tx5 c2960
      refine ⟨vp_of tx4 (by omega) (by omega), ?_⟩
      refine ⟨vp_of tx5 (by omega) (by omega), ?_⟩
      obtain ⟨z2964, t2965⟩ := t_any (w.2.1 95 x4.toNatClampNeg)
      obtain ⟨z2966, t2967⟩ := t_any (w.2.1 95 x5.toNatClampNeg)
      refine sX10_changes   (hI := hI) (tx0 := t2965) (tx1 := t2967) (tx2 := tx3)  (hp := fun r_3v1546 zr_3v1546 tr_3v1546 => ?_)
      obtain ⟨z2968, t2969, f2970⟩ := t_mul tx4 lit_7
      first | replace f2970 := f2970 (by omega) | clear f2970
      obtain ⟨z2971, t2972, f2973⟩ := t_add t2969 tx5
      first | replace f2973 := f2973 (by omega) | clear f2973
      refine ⟨vp_of t2972 (by omega) (by omega), ?_⟩
      intro w_5v1550 ew_5v1550
      have hIw_5v1550 := ixs_A hI ew_5v1550 (by decide)
      obtain ⟨z2974, t2975, f2976⟩ := t_add tx5 lit_1
      first | replace f2976 := f2976 (by omega) | clear f2976
      intro x5_6v1551 ex5_6v1551
      have tx5_6v1551 : Ti x5_6v1551 z2974 := by rw [ex5_6v1551]; exact t2975
      exact ih _ _ _ _ _ _ _ tx3 tx4 tx5_6v1551 hIw_5v1550 (by omega) (by omega) (by omega) (by omega) (by omega)
set_option maxHeartbeats 4000000 in
set_option maxRecDepth 100000 in
theorem sX5_gather_72 {T D : Int} {k : Nat} {post : Wd → Prop}   (hp : ∀ (w9 : Wd), IX k T D w9 → post w9) : ∀ (n : Nat) (x3 : Int32) (x4 : Int32) (zx3 : Int) (zx4 : Int) (w : Wd), Ti x3 zx3 → Ti x4 zx4 → IX k T D w → (0 ≤ zx4 ∧ zx4 ≤ 7) → (8 - zx4) < (n : Int) → pX5_gather_72   post  n x3 x4 w := by
  intro n
  induction n with
  | zero =>
    intro x3 x4 zx3 zx4 w tx3 tx4 hI h0 hm
    exact absurd hm (by omega)
  | succ n ih =>
    intro x3 x4 zx3 zx4 w tx3 tx4 hI h0 hm
    unfold pX5_gather_72
    have hk := ix_k hI
    obtain ⟨z2977, t2978⟩ := t_any (w.1 90 0)
    have f2979 := ixg_90_0 hI t2978
    refine ⟨fun c2980 => ?_, fun c2980 => ?_⟩
    · replace c2980 := c_le t2978 tx4 c2980
      exact hp  _   hI 
    · replace c2980 := c_nle t2978 tx4 c2980
      exact ⟨70000, sX5_gather_84 (M72 := (n : Int)) (hk72 := ih)  (hp := hp) 70000 _ _ _ _ _ _ _ tx3 tx4 lit_0 hI (by omega) (by omega) (by omega) (by omega) (by omega)⟩
set_option maxHeartbeats 4000000 in
set_option maxRecDepth 100000 in
theorem sX5_gather_8 {T D : Int} {k : Nat} {post : Wd → Prop}   (hp : ∀ (w9 : Wd), IX k T D w9 → post w9) : ∀ (n : Nat) (x2 : Int32) (x3 : Int32) (x4 : Int32) (zx2 : Int) (zx3 : Int) (zx4 : Int) (w : Wd), Ti x2 zx2 → Ti x3 zx3 → Ti x4 zx4 → IX k T D w → (0 ≤ zx4 ∧ zx4 ≤ 40) → (41 - zx4) < (n : Int) → pX5_gather_8   post  n x2 x3 x4 w := by
  intro n
  induction n with
  | zero =>
    intro x2 x3 x4 zx2 zx3 zx4 w tx2 tx3 tx4 hI h0 hm
    exact absurd hm (by omega)
  | succ n ih =>
    intro x2 x3 x4 zx2 zx3 zx4 w tx2 tx3 tx4 hI h0 hm
    unfold pX5_gather_8
    have hk := ix_k hI
    obtain ⟨z2981, t2982⟩ := t_any (w.1 70 0)
    have f2983 := ixg_70_0 hI t2982
    refine ⟨fun c2984 => ?_, fun c2984 => ?_⟩
    · replace c2984 := c_le t2982 tx4 c2984
      unfold pX5_gather_69
      exact ⟨70000, sX5_gather_72   (hp := hp) 70000 _ _ _ _ _ tx3 lit_0 hI (by omega) (by omega)⟩
    · replace c2984 := c_nle t2982 tx4 c2984
      obtain ⟨z2985, t2986⟩ := t_any (w.1 90 0)
      have f2987 := ixg_90_0 hI t2986
      refine ⟨fun c2988 => ?_, fun c2988 => ?_⟩
      · replace c2988 := c_le lit_7 t2986 c2988
        unfold pX5_gather_69
        exact ⟨70000, sX5_gather_72   (hp := hp) 70000 _ _ _ _ _ tx3 lit_0 hI (by omega) (by omega)⟩
      · replace c2988 := c_nle lit_7 t2986 c2988
        refine sX3_counts   (hI := hI) (tx1 := tx4) (tx2 := lit_0) (tx3 := tx2)  (hp := fun r_3v1552 zr_3v1552 tr_3v1552 => ?_)
        refine ⟨fun c2989 => ?_, fun c2989 => ?_⟩
        · replace c2989 := c_eq tr_3v1552 lit_0 c2989
          unfold pX5_gather_63
          obtain ⟨z2990, t2991, f2992⟩ := t_add tx4 lit_1
          first | replace f2992 := f2992 (by omega) | clear f2992
          intro x4_1v1558 ex4_1v1558
          have tx4_1v1558 : Ti x4_1v1558 z2990 := by rw [ex4_1v1558]; exact t2991
          exact ih _ _ _ _ _ _ _ tx2 tx3 tx4_1v1558 hI (by omega) (by omega)
        · replace c2989 := c_neq tr_3v1552 lit_0 c2989
          refine ⟨vp_of tx4 (by omega) (by omega), ?_⟩
          refine ⟨vp_of t2986 (by omega) (by omega), ?_⟩
          intro w_6v1556 ew_6v1556
          have hIw_6v1556 := ixs_A hI ew_6v1556 (by decide)
          intro w_7v1557 ew_7v1557
          have t2993 : Ti (w_6v1556.1 90 0) z2985 := by rw [e1_A ew_6v1556]; exact t2986
          obtain ⟨z2994, t2995, f2996⟩ := t_add t2993 lit_1
          first | replace f2996 := f2996 (by omega) | clear f2996
          have hIw_7v1557 := ixs_90_0 hIw_6v1556 ew_7v1557 t2995 (by omega) (by omega)
          unfold pX5_gather_63
          obtain ⟨z2997, t2998, f2999⟩ := t_add tx4 lit_1
          first | replace f2999 := f2999 (by omega) | clear f2999
          intro x4_1v1559 ex4_1v1559
          have tx4_1v1559 : Ti x4_1v1559 z2997 := by rw [ex4_1v1559]; exact t2998
          exact ih _ _ _ _ _ _ _ tx2 tx3 tx4_1v1559 hIw_7v1557 (by omega) (by omega)
set_option maxHeartbeats 4000000 in
set_option maxRecDepth 100000 in
theorem sX5_gather {T D : Int} {k : Nat} {post : Wd → Prop} {x2 : Int32} {zx2 : Int} {x3 : Int32} {zx3 : Int} {w : Wd}  (tx2 : Ti x2 zx2) (tx3 : Ti x3 zx3) (hI : IX k T D w)  (hp : ∀ (w9 : Wd), IX k T D w9 → post w9) : pX5_gather   post  x2 x3 w := by
  unfold pX5_gather
  have hk := ix_k hI
  intro w_1v1560 ew_1v1560
  have hIw_1v1560 := ixs_90_0 hI ew_1v1560 lit_0 (by omega) (by omega)
  exact ⟨70000, sX5_gather_8   (hp := hp) 70000 _ _ _ _ _ _ _ tx2 tx3 lit_0 hIw_1v1560 (by omega) (by omega)⟩
set_option maxHeartbeats 4000000 in
set_option maxRecDepth 100000 in
theorem sX5_changesFrom {T D : Int} {k : Nat} {post : Int32 → Wd → Prop} {x1 : Int32} {zx1 : Int} {x2 : Int32} {zx2 : Int} {w : Wd}  (tx1 : Ti x1 zx1) (tx2 : Ti x2 zx2) (hI : IX k T D w) (h0 : 0 ≤ zx1 ∧ zx1 ≤ 6) (h1 : 0 ≤ zx2 ∧ zx2 ≤ 6) (hp : ∀ (r : Int32) (zr : Int), Ti r zr → post r w) : pX5_changesFrom   post  x1 x2 w := by
  unfold pX5_changesFrom
  have hk := ix_k hI
  obtain ⟨z3000, t3001, f3002⟩ := t_mul tx1 lit_7
  first | replace f3002 := f3002 (by omega) | clear f3002
  obtain ⟨z3003, t3004, f3005⟩ := t_add t3001 tx2
  first | replace f3005 := f3005 (by omega) | clear f3005
  refine ⟨vp_of t3004 (by omega) (by omega), ?_⟩
  obtain ⟨z3006, t3007⟩ := t_any (w.2.1 96 ((x1 * (7 : Int32)) + x2).toNatClampNeg)
  exact hp _ _ t3007 
set_option maxHeartbeats 4000000 in
set_option maxRecDepth 100000 in
theorem sX5_fewestTo_16 {T D : Int} {k : Nat} {post : Int32 → Wd → Prop} {w : Wd}  (hp : ∀ (r : Int32) (zr : Int), Ti r zr → post r w) : ∀ (n : Nat) (x1 : Int32) (x2 : Int32) (x3 : Int32) (zx1 : Int) (zx2 : Int) (zx3 : Int), Ti x1 zx1 → Ti x2 zx2 → Ti x3 zx3 → IX k T D w → (0 ≤ zx3 ∧ zx3 ≤ 7) → (0 ≤ zx1 ∧ zx1 ≤ 6) → (8 - zx3) < (n : Int) → pX5_fewestTo_16   post  n x1 x2 x3 w := by
  intro n
  induction n with
  | zero =>
    intro x1 x2 x3 zx1 zx2 zx3  tx1 tx2 tx3 hI h0 h1 hm
    exact absurd hm (by omega)
  | succ n ih =>
    intro x1 x2 x3 zx1 zx2 zx3  tx1 tx2 tx3 hI h0 h1 hm
    unfold pX5_fewestTo_16
    have hk := ix_k hI
    obtain ⟨z3008, t3009⟩ := t_any (w.1 90 0)
    have f3010 := ixg_90_0 hI t3009
    refine ⟨fun c3011 => ?_, fun c3011 => ?_⟩
    · replace c3011 := c_le t3009 tx3 c3011
      exact hp _ _ tx2 
    · replace c3011 := c_nle t3009 tx3 c3011
      refine ⟨fun c3012 => ?_, fun c3012 => ?_⟩
      · replace c3012 := c_eq tx3 tx1 c3012
        unfold pX5_fewestTo_40
        obtain ⟨z3013, t3014, f3015⟩ := t_add tx3 lit_1
        first | replace f3015 := f3015 (by omega) | clear f3015
        intro x3_1v1564 ex3_1v1564
        have tx3_1v1564 : Ti x3_1v1564 z3013 := by rw [ex3_1v1564]; exact t3014
        exact ih _ _ _ _ _ _  tx1 tx2 tx3_1v1564 hI (by omega) (by omega) (by omega)
      · replace c3012 := c_neq tx3 tx1 c3012
        refine sX5_changesFrom   (hI := hI) (tx1 := tx3) (tx2 := tx1) (h0 := (by omega)) (h1 := (by omega)) (hp := fun r_3v1561 zr_3v1561 tr_3v1561 => ?_)
        obtain ⟨z3016, t3017, f3018⟩ := t_ite tr_3v1561 tx2 tr_3v1561 tx2
        intro x2_5v1565 ex2_5v1565
        have tx2_5v1565 : Ti x2_5v1565 z3016 := by rw [ex2_5v1565]; exact t3017
        unfold pX5_fewestTo_40
        obtain ⟨z3019, t3020, f3021⟩ := t_add tx3 lit_1
        first | replace f3021 := f3021 (by omega) | clear f3021
        intro x3_1v1566 ex3_1v1566
        have tx3_1v1566 : Ti x3_1v1566 z3019 := by rw [ex3_1v1566]; exact t3020
        exact ih _ _ _ _ _ _  tx1 tx2_5v1565 tx3_1v1566 hI (by omega) (by omega) (by omega)
set_option maxHeartbeats 4000000 in
set_option maxRecDepth 100000 in
theorem sX5_fewestTo {T D : Int} {k : Nat} {post : Int32 → Wd → Prop} {x1 : Int32} {zx1 : Int} {w : Wd}  (tx1 : Ti x1 zx1) (hI : IX k T D w) (h0 : 0 ≤ zx1 ∧ zx1 ≤ 6) (hp : ∀ (r : Int32) (zr : Int), Ti r zr → post r w) : pX5_fewestTo   post  x1 w := by
  unfold pX5_fewestTo
  have hk := ix_k hI
  obtain ⟨z3022, t3023⟩ := t_any (w.1 90 6)
  refine ⟨fun c3024 => ?_, fun c3024 => ?_⟩
  · replace c3024 := c_neq tx1 t3023 c3024
    exact ⟨70000, sX5_fewestTo_16   (hp := hp) 70000 _ _ _ _ _ _  tx1 lit_1000 lit_0 hI (by omega) (by omega) (by omega)⟩
  · replace c3024 := c_eq tx1 t3023 c3024
    exact hp _ _ lit_0 
set_option maxHeartbeats 4000000 in
set_option maxRecDepth 100000 in
theorem sX5_comesFrom_5 {T D : Int} {k : Nat} {post : Int32 → Wd → Prop} {w : Wd}  (hp : ∀ (r : Int32) (zr : Int), Ti r zr → post r w) : ∀ (n : Nat) (x2 : Int32) (x3 : Int32) (x4 : Int32) (zx2 : Int) (zx3 : Int) (zx4 : Int), Ti x2 zx2 → Ti x3 zx3 → Ti x4 zx4 → IX k T D w → (0 ≤ zx4 ∧ zx4 ≤ 7) → (-1 ≤ zx3 ∧ zx3 ≤ 6) → (8 - zx4) < (n : Int) → pX5_comesFrom_5   post  n x2 x3 x4 w := by
  intro n
  induction n with
  | zero =>
    intro x2 x3 x4 zx2 zx3 zx4  tx2 tx3 tx4 hI h0 h1 hm
    exact absurd hm (by omega)
  | succ n ih =>
    intro x2 x3 x4 zx2 zx3 zx4  tx2 tx3 tx4 hI h0 h1 hm
    unfold pX5_comesFrom_5
    have hk := ix_k hI
    refine ⟨fun c3025 => ?_, fun c3025 => ?_⟩
    · replace c3025 := c_le lit_7 tx4 c3025
      refine ⟨fun c3026 => ?_, fun c3026 => ?_⟩
      · replace c3026 := c_neq tx3 tx2 c3026
        exact hp _ _ lit_0 
      · replace c3026 := c_eq tx3 tx2 c3026
        exact hp _ _ lit_1 
    · replace c3025 := c_nle lit_7 tx4 c3025
      refine ⟨fun c3027 => ?_, fun c3027 => ?_⟩
      · replace c3027 := c_eq tx3 tx2 c3027
        refine ⟨fun c3028 => ?_, fun c3028 => ?_⟩
        · replace c3028 := c_neq tx3 tx2 c3028
          exact hp _ _ lit_0 
        · replace c3028 := c_eq tx3 tx2 c3028
          exact hp _ _ lit_1 
      · replace c3027 := c_neq tx3 tx2 c3027
        refine ⟨fun c3029 => ?_, fun c3029 => ?_⟩
        · replace c3029 := c_eq tx3 lit_m1 c3029
          refine ⟨fun c3030 => ?_, fun c3030 => ?_⟩
          · replace c3030 := c_neq tx3 tx2 c3030
            exact hp _ _ lit_0 
          · replace c3030 := c_eq tx3 tx2 c3030
            exact hp _ _ lit_1 
        · replace c3029 := c_neq tx3 lit_m1 c3029
          refine ⟨vp_of tx3 (by omega) (by omega), ?_⟩
          obtain ⟨z3031, t3032⟩ := t_any (w.2.1 98 x3.toNatClampNeg)
          have f3033 := ixg_98 hI t3032
          intro x3_7v1567 ex3_7v1567
          have tx3_7v1567 : Ti x3_7v1567 z3031 := by rw [ex3_7v1567]; exact t3032
          obtain ⟨z3034, t3035, f3036⟩ := t_add tx4 lit_1
          first | replace f3036 := f3036 (by omega) | clear f3036
          intro x4_8v1568 ex4_8v1568
          have tx4_8v1568 : Ti x4_8v1568 z3034 := by rw [ex4_8v1568]; exact t3035
          exact ih _ _ _ _ _ _  tx2 tx3_7v1567 tx4_8v1568 hI (by omega) (by omega) (by omega)
set_option maxHeartbeats 4000000 in
set_option maxRecDepth 100000 in
theorem sX5_comesFrom {T D : Int} {k : Nat} {post : Int32 → Wd → Prop} {x1 : Int32} {zx1 : Int} {x2 : Int32} {zx2 : Int} {w : Wd}  (tx1 : Ti x1 zx1) (tx2 : Ti x2 zx2) (hI : IX k T D w) (h0 : 0 ≤ zx1 ∧ zx1 ≤ 6) (hp : ∀ (r : Int32) (zr : Int), Ti r zr → post r w) : pX5_comesFrom   post  x1 x2 w := by
  unfold pX5_comesFrom
  have hk := ix_k hI
  exact ⟨70000, sX5_comesFrom_5   (hp := hp) 70000 _ _ _ _ _ _  tx2 tx1 lit_0 hI (by omega) (by omega) (by omega)⟩
set_option maxHeartbeats 4000000 in
set_option maxRecDepth 100000 in
theorem sX5_keepTree {T D : Int} {k : Nat} {post : Wd → Prop} {x1 : Int32} {zx1 : Int} {w : Wd}  (tx1 : Ti x1 zx1) (hI : IX k T D w)  (hp : ∀ (w9 : Wd), IX k T D w9 → post w9) : pX5_keepTree   post  x1 w := by
  unfold pX5_keepTree
  have hk := ix_k hI
  obtain ⟨z3037, t3038⟩ := t_any (w.1 90 1)
  refine ⟨fun c3039 => ?_, fun c3039 => ?_⟩
  · replace c3039 := c_le t3038 tx1 c3039
    intro w_2v1569 ew_2v1569
    have hIw_2v1569 := ixs_n hI ew_2v1569 (by unfold nX; omega)
    exact hp  _   hIw_2v1569 
  · replace c3039 := c_nle t3038 tx1 c3039
    intro w_3v1570 ew_3v1570
    have hIw_3v1570 := ixs_n hI ew_3v1570 (by unfold nX; omega)
    intro w_4v1571 ew_4v1571
    have hIw_4v1571 := ixs_n hIw_3v1570 ew_4v1571 (by unfold nX; omega)
    intro w_5v1572 ew_5v1572
    have hIw_5v1572 := ixs_C hIw_4v1571 ew_5v1572 (by decide)
    intro w_6v1573 ew_6v1573
    have hIw_6v1573 := ixs_n hIw_5v1572 ew_6v1573 (by unfold nX; omega)
    exact hp  _   hIw_6v1573 
set_option maxHeartbeats 4000000 in
set_option maxRecDepth 100000 in
theorem sX5_grow_61 {T D : Int} {k : Nat} {qX5_grow : (Wd → Prop) → Int32 → Int32 → Wd → Prop} {Mq : Int} {post : Wd → Prop}  (hqX5_grow : ∀ (post : Wd → Prop) (x1 : Int32) (x2 : Int32) (zx1 : Int) (zx2 : Int) (w : Wd), Ti x1 zx1 → Ti x2 zx2 → IX k T D w → (0 ≤ zx1 ∧ zx1 ≤ 8) → (9 - zx1) < Mq → (∀ (w9 : Wd), IX k T D w9 → post w9) → qX5_grow post x1 x2 w) (hp : ∀ (w9 : Wd), IX k T D w9 → post w9) : ∀ (n : Nat) (x1 : Int32) (x2 : Int32) (x3 : Int32) (zx1 : Int) (zx2 : Int) (zx3 : Int) (w : Wd), Ti x1 zx1 → Ti x2 zx2 → Ti x3 zx3 → IX k T D w → (0 ≤ zx3 ∧ zx3 ≤ 7) → (0 ≤ zx1 ∧ zx1 ≤ 6) → ((9 - zx1) ≤ Mq) → (8 - zx3) < (n : Int) → pX5_grow_61  qX5_grow post  n x1 x2 x3 w := by
  intro n
  induction n with
  | zero =>
    intro x1 x2 x3 zx1 zx2 zx3 w tx1 tx2 tx3 hI h0 h1 h2 hm
    exact absurd hm (by omega)
  | succ n ih =>
    intro x1 x2 x3 zx1 zx2 zx3 w tx1 tx2 tx3 hI h0 h1 h2 hm
    unfold pX5_grow_61
    have hk := ix_k hI
    obtain ⟨z3040, t3041⟩ := t_any (w.1 90 0)
    have f3042 := ixg_90_0 hI t3041
    refine ⟨fun c3043 => ?_, fun c3043 => ?_⟩
    · replace c3043 := c_le t3041 tx3 c3043
      exact hp  _   hI 
    · replace c3043 := c_nle t3041 tx3 c3043
      refine sX5_comesFrom   (hI := hI) (tx1 := tx3) (tx2 := tx1) (h0 := (by omega)) (hp := fun r_2v1574 zr_2v1574 tr_2v1574 => ?_)
      refine ⟨fun c3044 => ?_, fun c3044 => ?_⟩
      · replace c3044 := c_neq tr_2v1574 lit_0 c3044
        unfold pX5_grow_107
        obtain ⟨z3045, t3046, f3047⟩ := t_add tx3 lit_1
        first | replace f3047 := f3047 (by omega) | clear f3047
        intro x3_1v1586 ex3_1v1586
        have tx3_1v1586 : Ti x3_1v1586 z3045 := by rw [ex3_1v1586]; exact t3046
        exact ih _ _ _ _ _ _ _ tx1 tx2 tx3_1v1586 hI (by omega) (by omega) (by omega) (by omega)
      · replace c3044 := c_eq tr_2v1574 lit_0 c3044
        refine ⟨vp_of tx1 (by omega) (by omega), ?_⟩
        intro w_5v1581 ew_5v1581
        have hIw_5v1581 := ixs_98 hI ew_5v1581 tx3 (by omega) (by omega)
        refine sX5_changesFrom   (hI := hIw_5v1581) (tx1 := tx3) (tx2 := tx1) (h0 := (by omega)) (h1 := (by omega)) (hp := fun r_6v1582 zr_6v1582 tr_6v1582 => ?_)
        obtain ⟨z3048, t3049, f3050⟩ := t_add tx1 lit_1
        first | replace f3050 := f3050 (by omega) | clear f3050
        obtain ⟨z3051, t3052, f3053⟩ := t_add tx2 tr_6v1582
        first | replace f3053 := f3053 (by omega) | clear f3053
        refine hqX5_grow _ _ _ _ _ _ t3049 t3052 hIw_5v1581 (by omega) (by omega) (fun  w_8v1587   hIw_8v1587  => ?_)
        refine ⟨vp_of tx1 (by omega) (by omega), ?_⟩
        intro w_9v1588 ew_9v1588
        have hIw_9v1588 := ixs_98 hIw_8v1587 ew_9v1588 lit_m1 (by omega) (by omega)
        unfold pX5_grow_107
        obtain ⟨z3054, t3055, f3056⟩ := t_add tx3 lit_1
        first | replace f3056 := f3056 (by omega) | clear f3056
        intro x3_1v1589 ex3_1v1589
        have tx3_1v1589 : Ti x3_1v1589 z3054 := by rw [ex3_1v1589]; exact t3055
        exact ih _ _ _ _ _ _ _ tx1 tx2 tx3_1v1589 hIw_9v1588 (by omega) (by omega) (by omega) (by omega)
set_option maxHeartbeats 4000000 in
set_option maxRecDepth 100000 in
theorem sX5_grow {T D : Int} {k : Nat} {qX5_grow : (Wd → Prop) → Int32 → Int32 → Wd → Prop} {Mq : Int} {post : Wd → Prop} {x1 : Int32} {zx1 : Int} {x2 : Int32} {zx2 : Int} {w : Wd} (hqX5_grow : ∀ (post : Wd → Prop) (x1 : Int32) (x2 : Int32) (zx1 : Int) (zx2 : Int) (w : Wd), Ti x1 zx1 → Ti x2 zx2 → IX k T D w → (0 ≤ zx1 ∧ zx1 ≤ 8) → (9 - zx1) < Mq → (∀ (w9 : Wd), IX k T D w9 → post w9) → qX5_grow post x1 x2 w) (tx1 : Ti x1 zx1) (tx2 : Ti x2 zx2) (hI : IX k T D w) (h0 : 0 ≤ zx1 ∧ zx1 ≤ 8) (h1 : (9 - zx1) ≤ Mq) (hp : ∀ (w9 : Wd), IX k T D w9 → post w9) : pX5_grow  qX5_grow post  x1 x2 w := by
  unfold pX5_grow
  have hk := ix_k hI
  obtain ⟨z3057, t3058⟩ := t_any (w.1 90 0)
  have f3059 := ixg_90_0 hI t3058
  refine ⟨fun c3060 => ?_, fun c3060 => ?_⟩
  · replace c3060 := c_lt t3058 tx1 c3060
    exact hp  _   hI 
  · replace c3060 := c_nlt t3058 tx1 c3060
    refine ⟨vp_of tx1 (by omega) (by omega), ?_⟩
    obtain ⟨z3061, t3062⟩ := t_any (w.2.1 99 x1.toNatClampNeg)
    obtain ⟨z3063, t3064, f3065⟩ := t_add tx2 t3062
    first | replace f3065 := f3065 (by omega) | clear f3065
    obtain ⟨z3066, t3067⟩ := t_any (w.1 90 1)
    refine ⟨fun c3068 => ?_, fun c3068 => ?_⟩
    · replace c3068 := c_le t3064 t3067 c3068
      refine ⟨fun c3069 => ?_, fun c3069 => ?_⟩
      · replace c3069 := c_neq tx1 t3058 c3069
        obtain ⟨z3070, t3071⟩ := t_any (w.1 90 6)
        refine ⟨fun c3072 => ?_, fun c3072 => ?_⟩
        · replace c3072 := c_neq tx1 t3071 c3072
          exact ⟨70000, sX5_grow_61  (hqX5_grow := hqX5_grow) (hp := hp) 70000 _ _ _ _ _ _ _ tx1 tx2 lit_0 hI (by omega) (by omega) (by omega) (by omega)⟩
        · replace c3072 := c_eq tx1 t3071 c3072
          obtain ⟨z3073, t3074, f3075⟩ := t_add tx1 lit_1
          first | replace f3075 := f3075 (by omega) | clear f3075
          refine hqX5_grow _ _ _ _ _ _ t3074 tx2 hI (by omega) (by omega) (fun  w_5v1590   hIw_5v1590  => ?_)
          exact hp  _   hIw_5v1590 
      · replace c3069 := c_eq tx1 t3058 c3069
        refine sX5_keepTree   (hI := hI) (tx1 := tx2)  (hp := fun  w_6v1591   hIw_6v1591  => ?_)
        exact hp  _   hIw_6v1591 
    · replace c3068 := c_nle t3064 t3067 c3068
      exact hp  _   hI 
theorem sd9X5_grow {T D : Int} {k : Nat} : ∀ (d : Nat) (post : Wd → Prop) (x1 : Int32) (x2 : Int32) (zx1 : Int) (zx2 : Int) (w : Wd), Ti x1 zx1 → Ti x2 zx2 → IX k T D w → (0 ≤ zx1 ∧ zx1 ≤ 8) → (9 - zx1) < (d : Int) → (∀ (w9 : Wd), IX k T D w9 → post w9) → d9X5_grow d post x1 x2 w := by
  intro d
  induction d with
  | zero =>
    intro post x1 x2 zx1 zx2 w tx1 tx2 hI h0 hm hp
    exact absurd hm (by omega)
  | succ d ih =>
    intro post x1 x2 zx1 zx2 w tx1 tx2 hI h0 hm hp
    show pX5_grow (d9X5_grow d) post x1 x2 w
    exact sX5_grow (Mq := (d : Int)) (hqX5_grow := ih) (hI := hI) (tx1 := tx1) (tx2 := tx2) (h0 := h0) (h1 := (by omega)) (hp := hp)
theorem sdX5_grow {T D : Int} {k : Nat} {d : Nat} {post : Wd → Prop} {x1 : Int32} {zx1 : Int} {x2 : Int32} {zx2 : Int} {w : Wd} (tx1 : Ti x1 zx1) (tx2 : Ti x2 zx2) (hI : IX k T D w) (h0 : 0 ≤ zx1 ∧ zx1 ≤ 8) (hm : (9 - zx1) < (d : Int)) (hp : ∀ (w9 : Wd), IX k T D w9 → post w9) : dX5_grow d post x1 x2 w := sd9X5_grow d post x1 x2 zx1 zx2 w tx1 tx2 hI h0 hm hp
set_option maxHeartbeats 4000000 in
set_option maxRecDepth 100000 in
theorem sX5_growFrom_34 {T D : Int} {k : Nat} {post : Wd → Prop}   (hp : ∀ (w9 : Wd), IX k T D w9 → post w9) : ∀ (n : Nat) (x2 : Int32) (zx2 : Int) (w : Wd), Ti x2 zx2 → IX k T D w → (-1 ≤ zx2 ∧ zx2 ≤ 6) → (zx2 + 2) < (n : Int) → pX5_growFrom_34   post  n x2 w := by
  intro n
  induction n with
  | zero =>
    intro x2 zx2 w tx2 hI h0 hm
    exact absurd hm (by omega)
  | succ n ih =>
    intro x2 zx2 w tx2 hI h0 hm
    unfold pX5_growFrom_34
    have hk := ix_k hI
    refine ⟨fun c3076 => ?_, fun c3076 => ?_⟩
    · replace c3076 := c_lt tx2 lit_0 c3076
      refine sdX5_grow lit_0 lit_0 hI (by omega) (by omega) (fun  w_2v1592   hIw_2v1592  => ?_)
      exact hp  _   hIw_2v1592 
    · replace c3076 := c_nlt tx2 lit_0 c3076
      obtain ⟨z3077, t3078, f3079⟩ := t_add tx2 lit_1
      first | replace f3079 := f3079 (by omega) | clear f3079
      refine ⟨vp_of t3078 (by omega) (by omega), ?_⟩
      refine sX5_fewestTo   (hI := hI) (tx1 := tx2) (h0 := (by omega)) (hp := fun r_3v1593 zr_3v1593 tr_3v1593 => ?_)
      refine ⟨vp_of tx2 (by omega) (by omega), ?_⟩
      intro w_5v1598 ew_5v1598
      have hIw_5v1598 := ixs_A hI ew_5v1598 (by decide)
      refine ⟨vp_of tx2 (by omega) (by omega), ?_⟩
      intro w_6v1599 ew_6v1599
      have hIw_6v1599 := ixs_98 hIw_5v1598 ew_6v1599 lit_m1 (by omega) (by omega)
      obtain ⟨z3080, t3081, f3082⟩ := t_add tx2 lit_m1
      first | replace f3082 := f3082 (by omega) | clear f3082
      intro x2_7v1600 ex2_7v1600
      have tx2_7v1600 : Ti x2_7v1600 z3080 := by rw [ex2_7v1600]; exact t3081
      exact ih _ _ _ tx2_7v1600 hIw_6v1599 (by omega) (by omega)
set_option maxHeartbeats 4000000 in
set_option maxRecDepth 100000 in
theorem sX5_growFrom {T D : Int} {k : Nat} {post : Wd → Prop} {x1 : Int32} {zx1 : Int} {w : Wd}  (tx1 : Ti x1 zx1) (hI : IX k T D w)  (hp : ∀ (w9 : Wd), IX k T D w9 → post w9) : pX5_growFrom   post  x1 w := by
  unfold pX5_growFrom
  have hk := ix_k hI
  intro w_1v1601 ew_1v1601
  have hIw_1v1601 := ixs_n hI ew_1v1601 (by unfold nX; omega)
  intro w_2v1602 ew_2v1602
  have hIw_2v1602 := ixs_n hIw_1v1601 ew_2v1602 (by unfold nX; omega)
  intro w_3v1603 ew_3v1603
  have hIw_3v1603 := ixs_n hIw_2v1602 ew_3v1603 (by unfold nX; omega)
  obtain ⟨z3086, t3087⟩ := t_any (w.1 90 0)
  have f3088 := ixg_90_0 hI t3087
  have t3085 : Ti (w_1v1601.1 90 0) z3086 := by rw [ew_1v1601, sI_ne (by omega)]; exact t3087
  have t3084 : Ti (w_2v1602.1 90 0) z3086 := by rw [ew_2v1602, sI_ne (by omega)]; exact t3085
  have t3083 : Ti (w_3v1603.1 90 0) z3086 := by rw [ew_3v1603, sI_ne (by omega)]; exact t3084
  refine ⟨vp_of t3083 (by omega) (by omega), ?_⟩
  intro w_4v1604 ew_4v1604
  have hIw_4v1604 := ixs_A hIw_3v1603 ew_4v1604 (by decide)
  have t3089 : Ti (w_4v1604.1 90 0) z3086 := by rw [e1_A ew_4v1604]; exact t3083
  obtain ⟨z3090, t3091, f3092⟩ := t_sub t3089 lit_1
  first | replace f3092 := f3092 (by omega) | clear f3092
  intro x2_5v1605 ex2_5v1605
  have tx2_5v1605 : Ti x2_5v1605 z3090 := by rw [ex2_5v1605]; exact t3091
  exact ⟨70000, sX5_growFrom_34   (hp := hp) 70000 _ _ _ tx2_5v1605 hIw_4v1604 (by omega) (by omega)⟩
set_option maxHeartbeats 4000000 in
set_option maxRecDepth 100000 in
theorem sX10_tree_64 {T D : Int} {k : Nat} {post : Int32 → Wd → Prop}   (hp : ∀ (r : Int32) (zr : Int) (w9 : Wd), Ti r zr → IX k T D w9 → post r w9) : ∀ (n : Nat) (x2 : Int32) (x4 : Int32) (zx2 : Int) (zx4 : Int) (w : Wd), Ti x2 zx2 → Ti x4 zx4 → IX k T D w → (0 ≤ zx4 ∧ zx4 ≤ 7) → (8 - zx4) < (n : Int) → pX10_tree_64   post  n x2 x4 w := by
  intro n
  induction n with
  | zero =>
    intro x2 x4 zx2 zx4 w tx2 tx4 hI h0 hm
    exact absurd hm (by omega)
  | succ n ih =>
    intro x2 x4 zx2 zx4 w tx2 tx4 hI h0 hm
    unfold pX10_tree_64
    have hk := ix_k hI
    obtain ⟨z3093, t3094⟩ := t_any (w.1 90 0)
    have f3095 := ixg_90_0 hI t3094
    refine ⟨fun c3096 => ?_, fun c3096 => ?_⟩
    · replace c3096 := c_le t3094 tx4 c3096
      refine ⟨fun c3097 => ?_, fun c3097 => ?_⟩
      · replace c3097 := c_neq tx2 lit_0 c3097
        obtain ⟨z3098, t3099⟩ := t_any (w.1 90 2)
        exact hp _ _ _  t3099 hI 
      · replace c3097 := c_eq tx2 lit_0 c3097
        obtain ⟨z3100, t3101⟩ := t_any (w.1 90 1)
        exact hp _ _ _  t3101 hI 
    · replace c3096 := c_nle t3094 tx4 c3096
      refine ⟨vp_of tx4 (by omega) (by omega), ?_⟩
      obtain ⟨z3102, t3103⟩ := t_any (w.2.1 94 x4.toNatClampNeg)
      refine sX4_lay   (hI := hI) (tx1 := t3103)  (hp := fun  w_3v1606   hIw_3v1606  => ?_)
      obtain ⟨z3104, t3105, f3106⟩ := t_add tx4 lit_1
      first | replace f3106 := f3106 (by omega) | clear f3106
      intro x4_4v1607 ex4_4v1607
      have tx4_4v1607 : Ti x4_4v1607 z3104 := by rw [ex4_4v1607]; exact t3105
      exact ih _ _ _ _ _ tx2 tx4_4v1607 hIw_3v1606 (by omega) (by omega)
set_option maxHeartbeats 4000000 in
set_option maxRecDepth 100000 in
theorem sX10_tree {T D : Int} {k : Nat} {post : Int32 → Wd → Prop} {x1 : Int32} {zx1 : Int} {x2 : Int32} {zx2 : Int} {x3 : Int32} {zx3 : Int} {w : Wd}  (tx1 : Ti x1 zx1) (tx2 : Ti x2 zx2) (tx3 : Ti x3 zx3) (hI : IX k T D w)  (hp : ∀ (r : Int32) (zr : Int) (w9 : Wd), Ti r zr → IX k T D w9 → post r w9) : pX10_tree   post  x1 x2 x3 w := by
  unfold pX10_tree
  have hk := ix_k hI
  intro w_1v1608 ew_1v1608
  have hIw_1v1608 := ixs_110_1 hI ew_1v1608 lit_0 (by omega) (by omega)
  obtain ⟨z3107, t3108⟩ := t_any (w_1v1608.1 (rl (w_1v1608.2.2.2.2 0)) 0)
  have f3109 := ixg_r0 hIw_1v1608 t3108
  refine sX5_gather   (hI := hIw_1v1608) (tx2 := tx3) (tx3 := t3108)  (hp := fun  w_2v1609   hIw_2v1609  => ?_)
  refine ⟨fun c3110 => ?_, fun c3110 => ?_⟩
  · replace c3110 := c_lt tx1 lit_0 c3110
    exact hp _ _ _  lit_m1 hIw_2v1609 
  · replace c3110 := c_nlt tx1 lit_0 c3110
    obtain ⟨z3111, t3112⟩ := t_any (w_2v1609.1 90 0)
    have f3113 := ixg_90_0 hIw_2v1609 t3112
    refine ⟨fun c3114 => ?_, fun c3114 => ?_⟩
    · replace c3114 := c_le t3112 tx1 c3114
      exact hp _ _ _  lit_m1 hIw_2v1609 
    · replace c3114 := c_nle t3112 tx1 c3114
      refine ⟨fun c3115 => ?_, fun c3115 => ?_⟩
      · replace c3115 := c_lt tx2 lit_0 c3115
        exact hp _ _ _  lit_m1 hIw_2v1609 
      · replace c3115 := c_nlt tx2 lit_0 c3115
        refine ⟨fun c3116 => ?_, fun c3116 => ?_⟩
        · replace c3116 := c_le tx2 lit_1 c3116
          refine sX5_growFrom   (hI := hIw_2v1609) (tx1 := tx1)  (hp := fun  w_7v1610   hIw_7v1610  => ?_)
          exact ⟨70000, sX10_tree_64   (hp := hp) 70000 _ _ _ _ _ tx2 lit_0 hIw_7v1610 (by omega) (by omega)⟩
        · replace c3116 := c_nle tx2 lit_1 c3116
          exact hp _ _ _  lit_m1 hIw_2v1609 
set_option maxHeartbeats 4000000 in
set_option maxRecDepth 100000 in
theorem sX5_changesToOthers_4 {T D : Int} {k : Nat} {post : Int32 → Wd → Prop} {w : Wd}  (hp : ∀ (r : Int32) (zr : Int), Ti r zr → post r w) : ∀ (n : Nat) (x1 : Int32) (x2 : Int32) (x3 : Int32) (zx1 : Int) (zx2 : Int) (zx3 : Int), Ti x1 zx1 → Ti x2 zx2 → Ti x3 zx3 → IX k T D w → (0 ≤ zx3 ∧ zx3 ≤ 7) → (0 ≤ zx1 ∧ zx1 ≤ 6) → (8 - zx3) < (n : Int) → pX5_changesToOthers_4   post  n x1 x2 x3 w := by
  intro n
  induction n with
  | zero =>
    intro x1 x2 x3 zx1 zx2 zx3  tx1 tx2 tx3 hI h0 h1 hm
    exact absurd hm (by omega)
  | succ n ih =>
    intro x1 x2 x3 zx1 zx2 zx3  tx1 tx2 tx3 hI h0 h1 hm
    unfold pX5_changesToOthers_4
    have hk := ix_k hI
    obtain ⟨z3117, t3118⟩ := t_any (w.1 90 0)
    have f3119 := ixg_90_0 hI t3118
    refine ⟨fun c3120 => ?_, fun c3120 => ?_⟩
    · replace c3120 := c_le t3118 tx3 c3120
      exact hp _ _ tx2 
    · replace c3120 := c_nle t3118 tx3 c3120
      refine ⟨fun c3121 => ?_, fun c3121 => ?_⟩
      · replace c3121 := c_neq tx3 tx1 c3121
        refine sX5_changesFrom   (hI := hI) (tx1 := tx1) (tx2 := tx3) (h0 := (by omega)) (h1 := (by omega)) (hp := fun r_3v1611 zr_3v1611 tr_3v1611 => ?_)
        unfold pX5_changesToOthers_28
        obtain ⟨z3122, t3123, f3124⟩ := t_add tx2 tr_3v1611
        first | replace f3124 := f3124 (by omega) | clear f3124
        intro x2_1v1613 ex2_1v1613
        have tx2_1v1613 : Ti x2_1v1613 z3122 := by rw [ex2_1v1613]; exact t3123
        obtain ⟨z3125, t3126, f3127⟩ := t_add tx3 lit_1
        first | replace f3127 := f3127 (by omega) | clear f3127
        intro x3_2v1614 ex3_2v1614
        have tx3_2v1614 : Ti x3_2v1614 z3125 := by rw [ex3_2v1614]; exact t3126
        exact ih _ _ _ _ _ _  tx1 tx2_1v1613 tx3_2v1614 hI (by omega) (by omega) (by omega)
      · replace c3121 := c_eq tx3 tx1 c3121
        unfold pX5_changesToOthers_28
        obtain ⟨z3128, t3129, f3130⟩ := t_add tx2 lit_0
        first | replace f3130 := f3130 (by omega) | clear f3130
        intro x2_1v1615 ex2_1v1615
        have tx2_1v1615 : Ti x2_1v1615 z3128 := by rw [ex2_1v1615]; exact t3129
        obtain ⟨z3131, t3132, f3133⟩ := t_add tx3 lit_1
        first | replace f3133 := f3133 (by omega) | clear f3133
        intro x3_2v1616 ex3_2v1616
        have tx3_2v1616 : Ti x3_2v1616 z3131 := by rw [ex3_2v1616]; exact t3132
        exact ih _ _ _ _ _ _  tx1 tx2_1v1615 tx3_2v1616 hI (by omega) (by omega) (by omega)
set_option maxHeartbeats 4000000 in
set_option maxRecDepth 100000 in
theorem sX5_changesToOthers {T D : Int} {k : Nat} {post : Int32 → Wd → Prop} {x1 : Int32} {zx1 : Int} {w : Wd}  (tx1 : Ti x1 zx1) (hI : IX k T D w) (h0 : 0 ≤ zx1 ∧ zx1 ≤ 6) (hp : ∀ (r : Int32) (zr : Int), Ti r zr → post r w) : pX5_changesToOthers   post  x1 w := by
  unfold pX5_changesToOthers
  have hk := ix_k hI
  exact ⟨70000, sX5_changesToOthers_4   (hp := hp) 70000 _ _ _ _ _ _  tx1 lit_0 lit_0 hI (by omega) (by omega) (by omega)⟩
set_option maxHeartbeats 4000000 in
set_option maxRecDepth 100000 in
theorem sX10_centre_45 {T D : Int} {k : Nat} {post : Int32 → Wd → Prop}   (hp : ∀ (r : Int32) (zr : Int) (w9 : Wd), Ti r zr → IX k T D w9 → post r w9) : ∀ (n : Nat) (x1 : Int32) (x3 : Int32) (x4 : Int32) (zx1 : Int) (zx3 : Int) (zx4 : Int) (w : Wd), Ti x1 zx1 → Ti x3 zx3 → Ti x4 zx4 → IX k T D w → (0 ≤ zx4 ∧ zx4 ≤ 7) → (0 ≤ zx3 ∧ zx3 ≤ 6) → (8 - zx4) < (n : Int) → pX10_centre_45   post  n x1 x3 x4 w := by
  intro n
  induction n with
  | zero =>
    intro x1 x3 x4 zx1 zx3 zx4 w tx1 tx3 tx4 hI h0 h1 hm
    exact absurd hm (by omega)
  | succ n ih =>
    intro x1 x3 x4 zx1 zx3 zx4 w tx1 tx3 tx4 hI h0 h1 hm
    unfold pX10_centre_45
    have hk := ix_k hI
    obtain ⟨z3134, t3135⟩ := t_any (w.1 90 0)
    have f3136 := ixg_90_0 hI t3135
    refine ⟨fun c3137 => ?_, fun c3137 => ?_⟩
    · replace c3137 := c_le t3135 tx4 c3137
      refine ⟨fun c3138 => ?_, fun c3138 => ?_⟩
      · replace c3138 := c_neq tx1 lit_0 c3138
        refine sX5_changesToOthers   (hI := hI) (tx1 := tx3) (h0 := (by omega)) (hp := fun r_3v1617 zr_3v1617 tr_3v1617 => ?_)
        exact hp _ _ _  tr_3v1617 hI 
      · replace c3138 := c_eq tx1 lit_0 c3138
        exact hp _ _ _  tx3 hI 
    · replace c3137 := c_nle t3135 tx4 c3137
      refine sX5_changesToOthers   (hI := hI) (tx1 := tx4) (h0 := (by omega)) (hp := fun r_5v1619 zr_5v1619 tr_5v1619 => ?_)
      refine sX5_changesToOthers   (hI := hI) (tx1 := tx3) (h0 := (by omega)) (hp := fun r_7v1623 zr_7v1623 tr_7v1623 => ?_)
      refine ⟨fun c3139 => ?_, fun c3139 => ?_⟩
      · replace c3139 := c_le tr_7v1623 tr_5v1619 c3139
        unfold pX10_centre_80
        obtain ⟨z3140, t3141, f3142⟩ := t_add tx4 lit_1
        first | replace f3142 := f3142 (by omega) | clear f3142
        intro x4_1v1625 ex4_1v1625
        have tx4_1v1625 : Ti x4_1v1625 z3140 := by rw [ex4_1v1625]; exact t3141
        exact ih _ _ _ _ _ _ _ tx1 tx3 tx4_1v1625 hI (by omega) (by omega) (by omega)
      · replace c3139 := c_nle tr_7v1623 tr_5v1619 c3139
        unfold pX10_centre_80
        obtain ⟨z3143, t3144, f3145⟩ := t_add tx4 lit_1
        first | replace f3145 := f3145 (by omega) | clear f3145
        intro x4_1v1626 ex4_1v1626
        have tx4_1v1626 : Ti x4_1v1626 z3143 := by rw [ex4_1v1626]; exact t3144
        exact ih _ _ _ _ _ _ _ tx1 tx4 tx4_1v1626 hI (by omega) (by omega) (by omega)
set_option maxHeartbeats 4000000 in
set_option maxRecDepth 100000 in
theorem sX10_centre {T D : Int} {k : Nat} {post : Int32 → Wd → Prop} {x1 : Int32} {zx1 : Int} {x2 : Int32} {zx2 : Int} {w : Wd}  (tx1 : Ti x1 zx1) (tx2 : Ti x2 zx2) (hI : IX k T D w)  (hp : ∀ (r : Int32) (zr : Int) (w9 : Wd), Ti r zr → IX k T D w9 → post r w9) : pX10_centre   post  x1 x2 w := by
  unfold pX10_centre
  have hk := ix_k hI
  obtain ⟨z3146, t3147⟩ := t_any (w.1 (rl (w.2.2.2.2 0)) 0)
  have f3148 := ixg_r0 hI t3147
  refine sX5_gather   (hI := hI) (tx2 := tx2) (tx3 := t3147)  (hp := fun  w_1v1627   hIw_1v1627  => ?_)
  obtain ⟨z3149, t3150⟩ := t_any (w_1v1627.1 90 0)
  have f3151 := ixg_90_0 hIw_1v1627 t3150
  refine ⟨fun c3152 => ?_, fun c3152 => ?_⟩
  · replace c3152 := c_eq t3150 lit_0 c3152
    exact hp _ _ _  lit_m1 hIw_1v1627 
  · replace c3152 := c_neq t3150 lit_0 c3152
    refine ⟨fun c3153 => ?_, fun c3153 => ?_⟩
    · replace c3153 := c_lt tx1 lit_0 c3153
      exact hp _ _ _  lit_m1 hIw_1v1627 
    · replace c3153 := c_nlt tx1 lit_0 c3153
      refine ⟨fun c3154 => ?_, fun c3154 => ?_⟩
      · replace c3154 := c_le tx1 lit_1 c3154
        exact ⟨70000, sX10_centre_45   (hp := hp) 70000 _ _ _ _ _ _ _ tx1 lit_0 lit_1 hIw_1v1627 (by omega) (by omega) (by omega)⟩
      · replace c3154 := c_nle tx1 lit_1 c3154
        exact hp _ _ _  lit_m1 hIw_1v1627 
set_option maxHeartbeats 4000000 in
set_option maxRecDepth 100000 in
theorem sX5_clanCount_4 {T D : Int} {k : Nat} {post : Int32 → Wd → Prop} {w : Wd}  (hp : ∀ (r : Int32) (zr : Int), Ti r zr → post r w) : ∀ (n : Nat) (x1 : Int32) (x2 : Int32) (zx1 : Int) (zx2 : Int), Ti x1 zx1 → Ti x2 zx2 → IX k T D w → (0 ≤ zx2 ∧ zx2 ≤ 7) → (8 - zx2) < (n : Int) → pX5_clanCount_4   post  n x1 x2 w := by
  intro n
  induction n with
  | zero =>
    intro x1 x2 zx1 zx2  tx1 tx2 hI h0 hm
    exact absurd hm (by omega)
  | succ n ih =>
    intro x1 x2 zx1 zx2  tx1 tx2 hI h0 hm
    unfold pX5_clanCount_4
    have hk := ix_k hI
    obtain ⟨z3155, t3156⟩ := t_any (w.1 90 0)
    have f3157 := ixg_90_0 hI t3156
    refine ⟨fun c3158 => ?_, fun c3158 => ?_⟩
    · replace c3158 := c_le t3156 tx2 c3158
      exact hp _ _ tx1 
    · replace c3158 := c_nle t3156 tx2 c3158
      refine ⟨vp_of tx2 (by omega) (by omega), ?_⟩
      obtain ⟨z3159, t3160⟩ := t_any (w.2.1 100 x2.toNatClampNeg)
      refine ⟨fun c3161 => ?_, fun c3161 => ?_⟩
      · replace c3161 := c_neq t3160 tx2 c3161
        unfold pX5_clanCount_28
        obtain ⟨z3162, t3163, f3164⟩ := t_add tx1 lit_0
        first | replace f3164 := f3164 (by omega) | clear f3164
        intro x1_1v1628 ex1_1v1628
        have tx1_1v1628 : Ti x1_1v1628 z3162 := by rw [ex1_1v1628]; exact t3163
        obtain ⟨z3165, t3166, f3167⟩ := t_add tx2 lit_1
        first | replace f3167 := f3167 (by omega) | clear f3167
        intro x2_2v1629 ex2_2v1629
        have tx2_2v1629 : Ti x2_2v1629 z3165 := by rw [ex2_2v1629]; exact t3166
        exact ih _ _ _ _  tx1_1v1628 tx2_2v1629 hI (by omega) (by omega)
      · replace c3161 := c_eq t3160 tx2 c3161
        unfold pX5_clanCount_28
        obtain ⟨z3168, t3169, f3170⟩ := t_add tx1 lit_1
        first | replace f3170 := f3170 (by omega) | clear f3170
        intro x1_1v1630 ex1_1v1630
        have tx1_1v1630 : Ti x1_1v1630 z3168 := by rw [ex1_1v1630]; exact t3169
        obtain ⟨z3171, t3172, f3173⟩ := t_add tx2 lit_1
        first | replace f3173 := f3173 (by omega) | clear f3173
        intro x2_2v1631 ex2_2v1631
        have tx2_2v1631 : Ti x2_2v1631 z3171 := by rw [ex2_2v1631]; exact t3172
        exact ih _ _ _ _  tx1_1v1630 tx2_2v1631 hI (by omega) (by omega)
set_option maxHeartbeats 4000000 in
set_option maxRecDepth 100000 in
theorem sX5_clanCount {T D : Int} {k : Nat} {post : Int32 → Wd → Prop}  {w : Wd}   (hI : IX k T D w)  (hp : ∀ (r : Int32) (zr : Int), Ti r zr → post r w) : pX5_clanCount   post   w := by
  unfold pX5_clanCount
  have hk := ix_k hI
  exact ⟨70000, sX5_clanCount_4   (hp := hp) 70000 _ _ _ _  lit_0 lit_0 hI (by omega) (by omega)⟩
set_option maxHeartbeats 4000000 in
set_option maxRecDepth 100000 in
theorem sX5_joinClan_9 {T D : Int} {k : Nat} {post : Wd → Prop}   (hp : ∀ (w9 : Wd), IX k T D w9 → post w9) : ∀ (n : Nat) (x1 : Int32) (x2 : Int32) (x3 : Int32) (x4 : Int32) (zx1 : Int) (zx2 : Int) (zx3 : Int) (zx4 : Int) (w : Wd), Ti x1 zx1 → Ti x2 zx2 → Ti x3 zx3 → Ti x4 zx4 → IX k T D w → (0 ≤ zx4 ∧ zx4 ≤ 7) → (8 - zx4) < (n : Int) → pX5_joinClan_9   post  n x1 x2 x3 x4 w := by
  intro n
  induction n with
  | zero =>
    intro x1 x2 x3 x4 zx1 zx2 zx3 zx4 w tx1 tx2 tx3 tx4 hI h0 hm
    exact absurd hm (by omega)
  | succ n ih =>
    intro x1 x2 x3 x4 zx1 zx2 zx3 zx4 w tx1 tx2 tx3 tx4 hI h0 hm
    unfold pX5_joinClan_9
    have hk := ix_k hI
    obtain ⟨z3174, t3175⟩ := t_any (w.1 90 0)
    have f3176 := ixg_90_0 hI t3175
    refine ⟨fun c3177 => ?_, fun c3177 => ?_⟩
    · replace c3177 := c_le t3175 tx4 c3177
      exact hp  _   hI 
    · replace c3177 := c_nle t3175 tx4 c3177
      refine ⟨vp_of tx4 (by omega) (by omega), ?_⟩
      obtain ⟨z3178, t3179⟩ := t_any (w.2.1 100 x4.toNatClampNeg)
      refine ⟨fun c3180 => ?_, fun c3180 => ?_⟩
      · replace c3180 := c_eq t3179 tx1 c3180
        unfold pX5_joinClan_40
        refine ⟨vp_of tx4 (by omega) (by omega), ?_⟩
        intro w_1v1632 ew_1v1632
        have hIw_1v1632 := ixs_A hI ew_1v1632 (by decide)
        unfold pX5_joinClan_48
        obtain ⟨z3181, t3182, f3183⟩ := t_add tx4 lit_1
        first | replace f3183 := f3183 (by omega) | clear f3183
        intro x4_1v1633 ex4_1v1633
        have tx4_1v1633 : Ti x4_1v1633 z3181 := by rw [ex4_1v1633]; exact t3182
        exact ih _ _ _ _ _ _ _ _ _ tx1 tx2 tx3 tx4_1v1633 hIw_1v1632 (by omega) (by omega)
      · replace c3180 := c_neq t3179 tx1 c3180
        refine ⟨vp_of tx4 (by omega) (by omega), ?_⟩
        refine ⟨fun c3184 => ?_, fun c3184 => ?_⟩
        · replace c3184 := c_neq t3179 tx2 c3184
          unfold pX5_joinClan_48
          obtain ⟨z3185, t3186, f3187⟩ := t_add tx4 lit_1
          first | replace f3187 := f3187 (by omega) | clear f3187
          intro x4_1v1634 ex4_1v1634
          have tx4_1v1634 : Ti x4_1v1634 z3185 := by rw [ex4_1v1634]; exact t3186
          exact ih _ _ _ _ _ _ _ _ _ tx1 tx2 tx3 tx4_1v1634 hI (by omega) (by omega)
        · replace c3184 := c_eq t3179 tx2 c3184
          unfold pX5_joinClan_40
          refine ⟨vp_of tx4 (by omega) (by omega), ?_⟩
          intro w_1v1635 ew_1v1635
          have hIw_1v1635 := ixs_A hI ew_1v1635 (by decide)
          unfold pX5_joinClan_48
          obtain ⟨z3188, t3189, f3190⟩ := t_add tx4 lit_1
          first | replace f3190 := f3190 (by omega) | clear f3190
          intro x4_1v1636 ex4_1v1636
          have tx4_1v1636 : Ti x4_1v1636 z3188 := by rw [ex4_1v1636]; exact t3189
          exact ih _ _ _ _ _ _ _ _ _ tx1 tx2 tx3 tx4_1v1636 hIw_1v1635 (by omega) (by omega)
set_option maxHeartbeats 4000000 in
set_option maxRecDepth 100000 in
theorem sX5_joinClan {T D : Int} {k : Nat} {post : Wd → Prop} {x1 : Int32} {zx1 : Int} {x2 : Int32} {zx2 : Int} {w : Wd}  (tx1 : Ti x1 zx1) (tx2 : Ti x2 zx2) (hI : IX k T D w)  (hp : ∀ (w9 : Wd), IX k T D w9 → post w9) : pX5_joinClan   post  x1 x2 w := by
  unfold pX5_joinClan
  have hk := ix_k hI
  obtain ⟨z3191, t3192, f3193⟩ := t_ite tx2 tx1 tx2 tx1
  intro x3_1v1637 ex3_1v1637
  have tx3_1v1637 : Ti x3_1v1637 z3191 := by rw [ex3_1v1637]; exact t3192
  exact ⟨70000, sX5_joinClan_9   (hp := hp) 70000 _ _ _ _ _ _ _ _ _ tx1 tx2 tx3_1v1637 lit_0 hI (by omega) (by omega)⟩
set_option maxHeartbeats 4000000 in
set_option maxRecDepth 100000 in
theorem sX5_joinClans_35 {T D : Int} {k : Nat} {k25 : Int32 → Int32 → Wd → Prop} {M25 : Int} {post : Wd → Prop}  (hk25 : ∀ (x1 : Int32) (x2 : Int32) (zx1 : Int) (zx2 : Int) (w : Wd), Ti x1 zx1 → Ti x2 zx2 → IX k T D w → (0 ≤ zx2 ∧ zx2 ≤ 7) → (8 - zx2) < M25 → k25 x1 x2 w) (hp : ∀ (w9 : Wd), IX k T D w9 → post w9) : ∀ (n : Nat) (x1 : Int32) (x2 : Int32) (x3 : Int32) (zx1 : Int) (zx2 : Int) (zx3 : Int) (w : Wd), Ti x1 zx1 → Ti x2 zx2 → Ti x3 zx3 → IX k T D w → (0 ≤ zx3 ∧ zx3 ≤ 7) → (zx2 ≤ 6) → (0 ≤ zx2 ∧ zx2 ≤ 7) → ((8 - zx2) ≤ M25) → (8 - zx3) < (n : Int) → pX5_joinClans_35 k25  post  n x1 x2 x3 w := by
  intro n
  induction n with
  | zero =>
    intro x1 x2 x3 zx1 zx2 zx3 w tx1 tx2 tx3 hI h0 h1 h2 h3 hm
    exact absurd hm (by omega)
  | succ n ih =>
    intro x1 x2 x3 zx1 zx2 zx3 w tx1 tx2 tx3 hI h0 h1 h2 h3 hm
    unfold pX5_joinClans_35
    have hk := ix_k hI
    refine ⟨fun c3194 => ?_, fun c3194 => ?_⟩
    · replace c3194 := c_le tx2 tx3 c3194
      obtain ⟨z3195, t3196, f3197⟩ := t_add tx2 lit_1
      first | replace f3197 := f3197 (by omega) | clear f3197
      intro x2_2v1638 ex2_2v1638
      have tx2_2v1638 : Ti x2_2v1638 z3195 := by rw [ex2_2v1638]; exact t3196
      exact hk25 _ _ _ _ _ tx1 tx2_2v1638 hI (by omega) (by omega)
    · replace c3194 := c_nle tx2 tx3 c3194
      refine sX5_changesFrom   (hI := hI) (tx1 := tx2) (tx2 := tx3) (h0 := (by omega)) (h1 := (by omega)) (hp := fun r_3v1639 zr_3v1639 tr_3v1639 => ?_)
      refine sX5_changesFrom   (hI := hI) (tx1 := tx3) (tx2 := tx2) (h0 := (by omega)) (h1 := (by omega)) (hp := fun r_5v1644 zr_5v1644 tr_5v1644 => ?_)
      obtain ⟨z3198, t3199, f3200⟩ := t_ite tr_5v1644 tr_3v1639 tr_5v1644 tr_3v1639
      refine ⟨fun c3201 => ?_, fun c3201 => ?_⟩
      · replace c3201 := c_lt tx1 t3199 c3201
        unfold pX5_joinClans_75
        obtain ⟨z3202, t3203, f3204⟩ := t_add tx3 lit_1
        first | replace f3204 := f3204 (by omega) | clear f3204
        intro x3_1v1648 ex3_1v1648
        have tx3_1v1648 : Ti x3_1v1648 z3202 := by rw [ex3_1v1648]; exact t3203
        exact ih _ _ _ _ _ _ _ tx1 tx2 tx3_1v1648 hI (by omega) (by omega) (by omega) (by omega) (by omega)
      · replace c3201 := c_nlt tx1 t3199 c3201
        refine ⟨vp_of tx2 (by omega) (by omega), ?_⟩
        refine ⟨vp_of tx3 (by omega) (by omega), ?_⟩
        obtain ⟨z3205, t3206⟩ := t_any (w.2.1 100 x2.toNatClampNeg)
        obtain ⟨z3207, t3208⟩ := t_any (w.2.1 100 x3.toNatClampNeg)
        refine sX5_joinClan   (hI := hI) (tx1 := t3206) (tx2 := t3208)  (hp := fun  w_8v1647   hIw_8v1647  => ?_)
        unfold pX5_joinClans_75
        obtain ⟨z3209, t3210, f3211⟩ := t_add tx3 lit_1
        first | replace f3211 := f3211 (by omega) | clear f3211
        intro x3_1v1649 ex3_1v1649
        have tx3_1v1649 : Ti x3_1v1649 z3209 := by rw [ex3_1v1649]; exact t3210
        exact ih _ _ _ _ _ _ _ tx1 tx2 tx3_1v1649 hIw_8v1647 (by omega) (by omega) (by omega) (by omega) (by omega)
set_option maxHeartbeats 4000000 in
set_option maxRecDepth 100000 in
theorem sX5_joinClans_25 {T D : Int} {k : Nat} {post : Wd → Prop}   (hp : ∀ (w9 : Wd), IX k T D w9 → post w9) : ∀ (n : Nat) (x1 : Int32) (x2 : Int32) (zx1 : Int) (zx2 : Int) (w : Wd), Ti x1 zx1 → Ti x2 zx2 → IX k T D w → (0 ≤ zx2 ∧ zx2 ≤ 7) → (8 - zx2) < (n : Int) → pX5_joinClans_25   post  n x1 x2 w := by
  intro n
  induction n with
  | zero =>
    intro x1 x2 zx1 zx2 w tx1 tx2 hI h0 hm
    exact absurd hm (by omega)
  | succ n ih =>
    intro x1 x2 zx1 zx2 w tx1 tx2 hI h0 hm
    unfold pX5_joinClans_25
    have hk := ix_k hI
    obtain ⟨z3212, t3213⟩ := t_any (w.1 90 0)
    have f3214 := ixg_90_0 hI t3213
    refine ⟨fun c3215 => ?_, fun c3215 => ?_⟩
    · replace c3215 := c_le t3213 tx2 c3215
      exact hp  _   hI 
    · replace c3215 := c_nle t3213 tx2 c3215
      exact ⟨70000, sX5_joinClans_35 (M25 := (n : Int)) (hk25 := ih)  (hp := hp) 70000 _ _ _ _ _ _ _ tx1 tx2 lit_0 hI (by omega) (by omega) (by omega) (by omega) (by omega)⟩
