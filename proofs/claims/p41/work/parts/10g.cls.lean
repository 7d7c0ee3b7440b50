set_option maxHeartbeats 4000000 in
set_option maxRecDepth 100000 in
theorem sX9_seek {T D : Int} {k : Nat} {post : Int32 → Wd → Prop} {x1 : Int32} {zx1 : Int} {x2 : Int32} {zx2 : Int} {w : Wd}  (tx1 : Ti x1 zx1) (tx2 : Ti x2 zx2) (hI : IX k T D w) (h0 : 0 ≤ zx2) (hp : ∀ (r : Int32) (zr : Int) (w9 : Wd), Ti r zr → IX k T D w9 → post r w9) : pX9_seek   post  x1 x2 w := by
  unfold pX9_seek
  have hk := ix_k hI
  intro w_1v1430 ew_1v1430
  have hIw_1v1430 := ixs_n hI ew_1v1430 (by unfold nX; omega)
  intro w_2v1431 ew_2v1431
  obtain ⟨z2871, t2872, f2873⟩ := t_ite lit_4096 tx2 lit_4096 tx2
  have hIw_2v1431 := ixs_60_4 hIw_1v1430 ew_2v1431 t2872 (by omega) (by omega)
  exact ⟨70000, sX9_seek_18    (hp := hp) 70000 _ _ _ lit_0 hIw_2v1431 (by omega) (by omega)⟩
set_option maxHeartbeats 4000000 in
set_option maxRecDepth 100000 in
theorem sX10_wax {T D : Int} {k : Nat} {post : Int32 → Wd → Prop} {x1 : Int32} {zx1 : Int} {w : Wd}  (tx1 : Ti x1 zx1) (hI : IX k T D w)  (hp : ∀ (r : Int32) (zr : Int) (w9 : Wd), Ti r zr → IX k T D w9 → post r w9) : pX10_wax   post  x1 w := by
  unfold pX10_wax
  have hk := ix_k hI
  intro w_1v1432 ew_1v1432
  have hIw_1v1432 := ixs_110_1 hI ew_1v1432 lit_0 (by omega) (by omega)
  refine sX10_isRow   (hI := hIw_1v1432) (tx1 := tx1)  (hp := fun r_2v1433 zr_2v1433 tr_2v1433 p2874 => ?_)
  refine ⟨fun c2875 => ?_, fun c2875 => ?_⟩
  · replace c2875 := c_neq tr_2v1433 lit_0 c2875
    refine sX7_rows   (hI := hIw_1v1432)   (hp := fun r_5v1443 zr_5v1443 tr_5v1443 p2876 => ?_)
    refine sX9_seek   (hI := hIw_1v1432) (tx1 := tx1) (tx2 := tr_5v1443) (h0 := (by omega)) (hp := fun r_7v1451 zr_7v1451 w_8v1452  tr_7v1451 hIw_8v1452  => ?_)
    refine sX10_isSeal   (hI := hIw_8v1452) (tx1 := tr_7v1451)  (hp := fun r_9v1453 zr_9v1453 tr_9v1453 p2877 => ?_)
    refine ⟨fun c2878 => ?_, fun c2878 => ?_⟩
    · replace c2878 := c_neq tr_9v1453 lit_0 c2878
      refine sX4_lay   (hI := hIw_8v1452) (tx1 := tr_7v1451)  (hp := fun  w_12v1457   hIw_12v1457  => ?_)
      refine ⟨vp_of tr_7v1451 (by omega) (by omega), ?_⟩
      obtain ⟨z2879, t2880⟩ := t_any (w_12v1457.2.1 162 r_7v1451.toNatClampNeg)
      refine sX9_layWay   (hI := hIw_12v1457) (tx1 := t2880)  (hp := fun  w_13v1458   hIw_13v1458  => ?_)
      obtain ⟨z2881, t2882⟩ := t_any (w_13v1458.1 60 5)
      exact hp _ _ _  t2882 hIw_13v1458 
    · replace c2878 := c_eq tr_9v1453 lit_0 c2878
      exact hp _ _ _  lit_m1 hIw_8v1452 
  · replace c2875 := c_eq tr_2v1433 lit_0 c2875
    exact hp _ _ _  lit_m1 hIw_1v1432 
set_option maxHeartbeats 4000000 in
set_option maxRecDepth 100000 in
theorem sX3_add {T D : Int} {k : Nat} {post : Int32 → Wd → Prop} {x1 : Int32} {zx1 : Int} {x2 : Int32} {zx2 : Int} {x3 : Int32} {zx3 : Int} {x4 : Int32} {zx4 : Int} {w : Wd}  (tx1 : Ti x1 zx1) (tx2 : Ti x2 zx2) (tx3 : Ti x3 zx3) (tx4 : Ti x4 zx4) (hI : IX k T D w)  (hp : ∀ (r : Int32) (zr : Int) (w9 : Wd), Ti r zr → IX k T D w9 → post r w9) : pX3_add   post  x1 x2 x3 x4 w := by
  unfold pX3_add
  have hk := ix_k hI
  obtain ⟨z2883, t2884⟩ := t_any (w.1 70 0)
  have f2885 := ixg_70_0 hI t2884
  refine ⟨fun c2886 => ?_, fun c2886 => ?_⟩
  · replace c2886 := c_lt t2884 lit_0 c2886
    exact hp _ _ _  lit_m1 hI 
  · replace c2886 := c_nlt t2884 lit_0 c2886
    refine ⟨fun c2887 => ?_, fun c2887 => ?_⟩
    · replace c2887 := c_lt t2884 lit_40 c2887
      refine ⟨vp_of t2884 (by omega) (by omega), ?_⟩
      intro w_3v1459 ew_3v1459
      have hIw_3v1459 := ixs_A hI ew_3v1459 (by decide)
      have t2888 : Ti (w_3v1459.1 70 0) z2883 := by rw [e1_A ew_3v1459]; exact t2884
      refine ⟨vp_of t2888 (by omega) (by omega), ?_⟩
      intro w_4v1460 ew_4v1460
      have hIw_4v1460 := ixs_A hIw_3v1459 ew_4v1460 (by decide)
      have t2889 : Ti (w_4v1460.1 70 0) z2883 := by rw [e1_A ew_4v1460]; exact t2888
      refine ⟨vp_of t2889 (by omega) (by omega), ?_⟩
      intro w_5v1461 ew_5v1461
      have hIw_5v1461 := ixs_A hIw_4v1460 ew_5v1461 (by decide)
      have t2890 : Ti (w_5v1461.1 70 0) z2883 := by rw [e1_A ew_5v1461]; exact t2889
      refine ⟨vp_of t2890 (by omega) (by omega), ?_⟩
      intro w_6v1462 ew_6v1462
      have hIw_6v1462 := ixs_A hIw_5v1461 ew_6v1462 (by decide)
      have t2891 : Ti (w_6v1462.1 70 0) z2883 := by rw [e1_A ew_6v1462]; exact t2890
      refine ⟨vp_of t2891 (by omega) (by omega), ?_⟩
      intro w_7v1463 ew_7v1463
      have hIw_7v1463 := ixs_A hIw_6v1462 ew_7v1463 (by decide)
      have t2892 : Ti (w_7v1463.1 70 0) z2883 := by rw [e1_A ew_7v1463]; exact t2891
      refine ⟨vp_of t2892 (by omega) (by omega), ?_⟩
      intro w_8v1464 ew_8v1464
      have hIw_8v1464 := ixs_A hIw_7v1463 ew_8v1464 (by decide)
      intro w_9v1465 ew_9v1465
      have t2893 : Ti (w_8v1464.1 70 0) z2883 := by rw [e1_A ew_8v1464]; exact t2892
      obtain ⟨z2894, t2895, f2896⟩ := t_add t2893 lit_1
      first | replace f2896 := f2896 (by omega) | clear f2896
      have hIw_9v1465 := ixs_70_0 hIw_8v1464 ew_9v1465 t2895 (by omega) (by omega)
      have t2897 : Ti (w_9v1465.1 70 0) z2894 := by rw [ew_9v1465, sI_at]; exact t2895
      obtain ⟨z2898, t2899, f2900⟩ := t_sub t2897 lit_1
      first | replace f2900 := f2900 (by omega) | clear f2900
      exact hp _ _ _  t2899 hIw_9v1465 
    · replace c2887 := c_nlt t2884 lit_40 c2887
      exact hp _ _ _  lit_m1 hI 
set_option maxHeartbeats 4000000 in
set_option maxRecDepth 100000 in
theorem sX10_sample {T D : Int} {k : Nat} {post : Int32 → Wd → Prop} {x1 : Int32} {zx1 : Int} {x2 : Int32} {zx2 : Int} {w : Wd}  (tx1 : Ti x1 zx1) (tx2 : Ti x2 zx2) (hI : IX k T D w)  (hp : ∀ (r : Int32) (zr : Int) (w9 : Wd), Ti r zr → IX k T D w9 → post r w9) : pX10_sample   post  x1 x2 w := by
  unfold pX10_sample
  have hk := ix_k hI
  refine sX10_isRow   (hI := hI) (tx1 := tx1)  (hp := fun r_1v1466 zr_1v1466 tr_1v1466 p2901 => ?_)
  refine ⟨fun c2902 => ?_, fun c2902 => ?_⟩
  · replace c2902 := c_eq tr_1v1466 lit_0 c2902
    exact hp _ _ _  lit_m1 hI 
  · replace c2902 := c_neq tr_1v1466 lit_0 c2902
    refine ⟨fun c2903 => ?_, fun c2903 => ?_⟩
    · replace c2903 := c_eq tx2 lit_0 c2903
      refine sX3_add   (hI := hI) (tx1 := lit_0) (tx2 := tx1) (tx3 := lit_0) (tx4 := lit_0)  (hp := fun r_5v1472 zr_5v1472 w_6v1473  tr_5v1472 hIw_6v1473  => ?_)
      exact hp _ _ _  tr_5v1472 hIw_6v1473 
    · replace c2903 := c_neq tx2 lit_0 c2903
      refine sX3_add   (hI := hI) (tx1 := lit_0) (tx2 := tx1) (tx3 := lit_0) (tx4 := lit_1)  (hp := fun r_7v1474 zr_7v1474 w_8v1475  tr_7v1474 hIw_8v1475  => ?_)
      exact hp _ _ _  tr_7v1474 hIw_8v1475 
set_option maxHeartbeats 4000000 in
set_option maxRecDepth 100000 in
theorem sX10_isYear {T D : Int} {k : Nat} {post : Int32 → Wd → Prop} {x0 : Int32} {zx0 : Int} {w : Wd}  (tx0 : Ti x0 zx0) (hI : IX k T D w)  (hp : ∀ (r : Int32) (zr : Int), Ti r zr → post r w) : pX10_isYear   post  x0 w := by
  unfold pX10_isYear
  have hk := ix_k hI
  refine ⟨fun c2904 => ?_, fun c2904 => ?_⟩
  · replace c2904 := c_lt tx0 lit_0 c2904
    exact hp _ _ lit_0 
  · replace c2904 := c_nlt tx0 lit_0 c2904
    refine ⟨fun c2905 => ?_, fun c2905 => ?_⟩
    · replace c2905 := c_lt lit_999 tx0 c2905
      exact hp _ _ lit_0 
    · replace c2905 := c_nlt lit_999 tx0 c2905
      exact hp _ _ lit_1 
set_option maxHeartbeats 4000000 in
set_option maxRecDepth 100000 in
theorem sX10_claim {T D : Int} {k : Nat} {post : Int32 → Wd → Prop} {x1 : Int32} {zx1 : Int} {x2 : Int32} {zx2 : Int} {x3 : Int32} {zx3 : Int} {w : Wd}  (tx1 : Ti x1 zx1) (tx2 : Ti x2 zx2) (tx3 : Ti x3 zx3) (hI : IX k T D w)  (hp : ∀ (r : Int32) (zr : Int) (w9 : Wd), Ti r zr → IX k T D w9 → post r w9) : pX10_claim   post  x1 x2 x3 w := by
  unfold pX10_claim
  have hk := ix_k hI
  refine sX10_isRow   (hI := hI) (tx1 := tx1)  (hp := fun r_1v1476 zr_1v1476 tr_1v1476 p2906 => ?_)
  refine ⟨fun c2907 => ?_, fun c2907 => ?_⟩
  · replace c2907 := c_eq tr_1v1476 lit_0 c2907
    exact hp _ _ _  lit_m1 hI 
  · replace c2907 := c_neq tr_1v1476 lit_0 c2907
    refine sX10_isSeal   (hI := hI) (tx1 := tx2)  (hp := fun r_4v1484 zr_4v1484 tr_4v1484 p2908 => ?_)
    refine ⟨fun c2909 => ?_, fun c2909 => ?_⟩
    · replace c2909 := c_eq tr_4v1484 lit_0 c2909
      exact hp _ _ _  lit_m1 hI 
    · replace c2909 := c_neq tr_4v1484 lit_0 c2909
      refine sX10_isYear   (hI := hI) (tx0 := tx3)  (hp := fun r_7v1490 zr_7v1490 tr_7v1490 => ?_)
      refine ⟨fun c2910 => ?_, fun c2910 => ?_⟩
      · replace c2910 := c_neq tr_7v1490 lit_0 c2910
        refine sX3_add   (hI := hI) (tx1 := lit_1) (tx2 := tx1) (tx3 := tx2) (tx4 := tx3)  (hp := fun r_10v1494 zr_10v1494 w_11v1495  tr_10v1494 hIw_11v1495  => ?_)
        exact hp _ _ _  tr_10v1494 hIw_11v1495 
      · replace c2910 := c_eq tr_7v1490 lit_0 c2910
        exact hp _ _ _  lit_m1 hI 
set_option maxHeartbeats 4000000 in
set_option maxRecDepth 100000 in
theorem sX10_saw {T D : Int} {k : Nat} {post : Int32 → Wd → Prop} {x1 : Int32} {zx1 : Int} {x2 : Int32} {zx2 : Int} {x3 : Int32} {zx3 : Int} {w : Wd}  (tx1 : Ti x1 zx1) (tx2 : Ti x2 zx2) (tx3 : Ti x3 zx3) (hI : IX k T D w)  (hp : ∀ (r : Int32) (zr : Int) (w9 : Wd), Ti r zr → IX k T D w9 → post r w9) : pX10_saw   post  x1 x2 x3 w := by
  unfold pX10_saw
  have hk := ix_k hI
  refine sX10_isMark   (hI := hI) (tx1 := tx1)  (hp := fun r_1v1496 zr_1v1496 tr_1v1496 p2911 => ?_)
  refine ⟨fun c2912 => ?_, fun c2912 => ?_⟩
  · replace c2912 := c_eq tr_1v1496 lit_0 c2912
    exact hp _ _ _  lit_m1 hI 
  · replace c2912 := c_neq tr_1v1496 lit_0 c2912
    refine sX10_isYear   (hI := hI) (tx0 := tx2)  (hp := fun r_4v1504 zr_4v1504 tr_4v1504 => ?_)
    refine ⟨fun c2913 => ?_, fun c2913 => ?_⟩
    · replace c2913 := c_eq tr_4v1504 lit_0 c2913
      exact hp _ _ _  lit_m1 hI 
    · replace c2913 := c_neq tr_4v1504 lit_0 c2913
      refine ⟨fun c2914 => ?_, fun c2914 => ?_⟩
      · replace c2914 := c_eq tx3 lit_0 c2914
        refine sX3_add   (hI := hI) (tx1 := lit_2) (tx2 := tx1) (tx3 := tx2) (tx4 := lit_0)  (hp := fun r_8v1510 zr_8v1510 w_9v1511  tr_8v1510 hIw_9v1511  => ?_)
        exact hp _ _ _  tr_8v1510 hIw_9v1511 
      · replace c2914 := c_neq tx3 lit_0 c2914
        refine sX3_add   (hI := hI) (tx1 := lit_2) (tx2 := tx1) (tx3 := tx2) (tx4 := lit_1)  (hp := fun r_10v1512 zr_10v1512 w_11v1513  tr_10v1512 hIw_11v1513  => ?_)
        exact hp _ _ _  tr_10v1512 hIw_11v1513 
set_option maxHeartbeats 4000000 in
set_option maxRecDepth 100000 in
theorem sX10_isPaper {T D : Int} {k : Nat} {post : Int32 → Wd → Prop} {x0 : Int32} {zx0 : Int} {w : Wd}  (tx0 : Ti x0 zx0) (hI : IX k T D w)  (hp : ∀ (r : Int32) (zr : Int), Ti r zr → ((zr = 0 ∨ (0 ≤ zx0 ∧ zx0 ≤ 7))) → post r w) : pX10_isPaper   post  x0 w := by
  unfold pX10_isPaper
  have hk := ix_k hI
  refine ⟨fun c2915 => ?_, fun c2915 => ?_⟩
  · replace c2915 := c_lt tx0 lit_0 c2915
    exact hp _ _ lit_0 (by omega)
  · replace c2915 := c_nlt tx0 lit_0 c2915
    refine ⟨fun c2916 => ?_, fun c2916 => ?_⟩
    · replace c2916 := c_le lit_8 tx0 c2916
      exact hp _ _ lit_0 (by omega)
    · replace c2916 := c_nle lit_8 tx0 c2916
      exact hp _ _ lit_1 (by omega)
set_option maxHeartbeats 4000000 in
set_option maxRecDepth 100000 in
theorem sX10_link {T D : Int} {k : Nat} {post : Int32 → Wd → Prop} {x1 : Int32} {zx1 : Int} {x2 : Int32} {zx2 : Int} {x3 : Int32} {zx3 : Int} {w : Wd}  (tx1 : Ti x1 zx1) (tx2 : Ti x2 zx2) (tx3 : Ti x3 zx3) (hI : IX k T D w)  (hp : ∀ (r : Int32) (zr : Int) (w9 : Wd), Ti r zr → IX k T D w9 → post r w9) : pX10_link   post  x1 x2 x3 w := by
  unfold pX10_link
  have hk := ix_k hI
  refine sX10_isPaper   (hI := hI) (tx0 := tx1)  (hp := fun r_1v1514 zr_1v1514 tr_1v1514 p2917 => ?_)
  refine ⟨fun c2918 => ?_, fun c2918 => ?_⟩
  · replace c2918 := c_eq tr_1v1514 lit_0 c2918
    exact hp _ _ _  lit_m1 hI 
  · replace c2918 := c_neq tr_1v1514 lit_0 c2918
    refine sX10_isPaper   (hI := hI) (tx0 := tx2)  (hp := fun r_4v1522 zr_4v1522 tr_4v1522 p2919 => ?_)
    refine ⟨fun c2920 => ?_, fun c2920 => ?_⟩
    · replace c2920 := c_eq tr_4v1522 lit_0 c2920
      exact hp _ _ _  lit_m1 hI 
    · replace c2920 := c_neq tr_4v1522 lit_0 c2920
      refine ⟨fun c2921 => ?_, fun c2921 => ?_⟩
      · replace c2921 := c_neq tx1 tx2 c2921
        refine ⟨fun c2922 => ?_, fun c2922 => ?_⟩
        · replace c2922 := c_eq tx3 lit_0 c2922
          refine sX3_add   (hI := hI) (tx1 := lit_3) (tx2 := tx1) (tx3 := tx2) (tx4 := lit_0)  (hp := fun r_9v1528 zr_9v1528 w_10v1529  tr_9v1528 hIw_10v1529  => ?_)
          exact hp _ _ _  tr_9v1528 hIw_10v1529 
        · replace c2922 := c_neq tx3 lit_0 c2922
          refine sX3_add   (hI := hI) (tx1 := lit_3) (tx2 := tx1) (tx3 := tx2) (tx4 := lit_1)  (hp := fun r_11v1530 zr_11v1530 w_12v1531  tr_11v1530 hIw_12v1531  => ?_)
          exact hp _ _ _  tr_11v1530 hIw_12v1531 
      · replace c2921 := c_eq tx1 tx2 c2921
        exact hp _ _ _  lit_m1 hI 
set_option maxHeartbeats 4000000 in
set_option maxRecDepth 100000 in
theorem sX10_untell {T D : Int} {k : Nat} {post : Int32 → Wd → Prop} {x1 : Int32} {zx1 : Int} {w : Wd}  (tx1 : Ti x1 zx1) (hI : IX k T D w)  (hp : ∀ (r : Int32) (zr : Int) (w9 : Wd), Ti r zr → IX k T D w9 → post r w9) : pX10_untell   post  x1 w := by
  unfold pX10_untell
  have hk := ix_k hI
  refine ⟨fun c2923 => ?_, fun c2923 => ?_⟩
  · replace c2923 := c_lt tx1 lit_0 c2923
    exact hp _ _ _  lit_0 hI 
  · replace c2923 := c_nlt tx1 lit_0 c2923
    obtain ⟨z2924, t2925⟩ := t_any (w.1 70 0)
    have f2926 := ixg_70_0 hI t2925
    refine ⟨fun c2927 => ?_, fun c2927 => ?_⟩
    · replace c2927 := c_le t2925 tx1 c2927
      exact hp _ _ _  lit_0 hI 
    · replace c2927 := c_nle t2925 tx1 c2927
      refine ⟨vp_of tx1 (by omega) (by omega), ?_⟩
      obtain ⟨z2928, t2929⟩ := t_any (w.2.1 78 x1.toNatClampNeg)
      refine ⟨fun c2930 => ?_, fun c2930 => ?_⟩
      · replace c2930 := c_eq t2929 lit_m1 c2930
        refine ⟨vp_of tx1 (by omega) (by omega), ?_⟩
        intro w_4v1532 ew_4v1532
        have hIw_4v1532 := ixs_A hI ew_4v1532 (by decide)
        exact hp _ _ _  lit_1 hIw_4v1532 
      · replace c2930 := c_neq t2929 lit_m1 c2930
        exact hp _ _ _  lit_0 hI 
theorem sX10_later {T D : Int} {k : Nat} {post : Int32 → Wd → Prop} {x1 : Int32} {zx1 : Int} {w : Wd} (tx1 : Ti x1 zx1) (hI : IX k T D w) (hT : 0 ≤ T ∧ T ≤ 100000) (hp : ∀ (r : Int32) (zr : Int) (w9 : Wd) (T9 : Int), Ti r zr → IX k T9 D w9 → (((0 ≤ zx1 ∧ zx1 ≤ 1000 ∧ T + zx1 ≤ 100000) ∧ T9 = T + zx1 ∧ zr = T9) ∨ (¬ (0 ≤ zx1 ∧ zx1 ≤ 1000 ∧ T + zx1 ≤ 100000) ∧ T9 = T ∧ zr = -1)) → post r w9) : pX10_later post x1 w := by
  unfold pX10_later
  obtain ⟨z, t⟩ := t_any (w.1 70 1)
  have b := ixg_70_1 hI t
  refine ⟨fun c => ?_, fun c => ⟨fun c2 => ?_, fun c2 => ?_⟩⟩
  · replace c := c_lt tx1 lit_0 c
    exact hp _ _ _ _ lit_m1 hI (by omega)
  · replace c2 := c_lt lit_1000 tx1 c2
    exact hp _ _ _ _ lit_m1 hI (by omega)
  · replace c := c_nlt tx1 lit_0 c
    replace c2 := c_nlt lit_1000 tx1 c2
    obtain ⟨y, u, f⟩ := t_add t tx1
    replace f := f (by omega)
    refine ⟨fun c3 => ?_, fun c3 => ?_⟩
    · replace c3 := c_le u lit_100000 c3
      intro w_4 e4
      have i4 := ixs_70_1 hI e4 u
      obtain ⟨z4, t4⟩ := t_any (w_4.1 70 1)
      have b4 := ixg_70_1 i4 t4
      exact hp _ _ _ _ t4 i4 (by omega)
    · replace c3 := c_nle u lit_100000 c3
      exact hp _ _ _ _ lit_m1 hI (by omega)
set_option maxHeartbeats 4000000 in
set_option maxRecDepth 100000 in
theorem sX10_changes {T D : Int} {k : Nat} {post : Int32 → Wd → Prop} {x0 : Int32} {zx0 : Int} {x1 : Int32} {zx1 : Int} {x2 : Int32} {zx2 : Int} {w : Wd}  (tx0 : Ti x0 zx0) (tx1 : Ti x1 zx1) (tx2 : Ti x2 zx2) (hI : IX k T D w)  (hp : ∀ (r : Int32) (zr : Int), Ti r zr → post r w) : pX10_changes   post  x0 x1 x2 w := by
  unfold pX10_changes
  have hk := ix_k hI
  refine sX10_turn   (hI := hI) (tx0 := tx0) (tx1 := tx2)  (hp := fun r_1v1533 zr_1v1533 tr_1v1533 => ?_)
  obtain ⟨z2931, t2932⟩ := t_any (r_1v1533 &&& (x1 ^^^ (-1 : Int32)))
  refine sJ6_bitCount_0f7a4   (hI := hI) (tx0 := t2932)  (hp := fun r_3v1539 zr_3v1539 tr_3v1539 p2933 => ?_)
  obtain ⟨z2934, t2935⟩ := t_any (x1 &&& (r_1v1533 ^^^ (-1 : Int32)))
  refine sJ6_bitCount_0f7a4   (hI := hI) (tx0 := t2935)  (hp := fun r_5v1543 zr_5v1543 tr_5v1543 p2936 => ?_)
  obtain ⟨z2937, t2938, f2939⟩ := t_mul lit_2 tr_5v1543
  first | replace f2939 := f2939 (by omega) | clear f2939
  obtain ⟨z2940, t2941, f2942⟩ := t_add tr_3v1539 t2938
  first | replace f2942 := f2942 (by omega) | clear f2942
  exact hp _ _ t2941 
set_option maxHeartbeats 4000000 in
set_option maxRecDepth 100000 in
theorem sX3_counts {T D : Int} {k : Nat} {post : Int32 → Wd → Prop} {x1 : Int32} {zx1 : Int} {x2 : Int32} {zx2 : Int} {x3 : Int32} {zx3 : Int} {w : Wd}  (tx1 : Ti x1 zx1) (tx2 : Ti x2 zx2) (tx3 : Ti x3 zx3) (hI : IX k T D w)  (hp : ∀ (r : Int32) (zr : Int), Ti r zr → post r w) : pX3_counts   post  x1 x2 x3 w := by
  unfold pX3_counts
  have hk := ix_k hI
  refine ⟨fun c2943 => ?_, fun c2943 => ?_⟩
  · replace c2943 := c_lt tx1 lit_0 c2943
    exact hp _ _ lit_0 
  · replace c2943 := c_nlt tx1 lit_0 c2943
    obtain ⟨z2944, t2945⟩ := t_any (w.1 70 0)
    have f2946 := ixg_70_0 hI t2945
    refine ⟨fun c2947 => ?_, fun c2947 => ?_⟩
    · replace c2947 := c_le t2945 tx1 c2947
      exact hp _ _ lit_0 
    · replace c2947 := c_nle t2945 tx1 c2947
      refine ⟨vp_of tx1 (by omega) (by omega), ?_⟩
      obtain ⟨z2948, t2949⟩ := t_any (w.2.1 73 x1.toNatClampNeg)
      refine ⟨fun c2950 => ?_, fun c2950 => ?_⟩
      · replace c2950 := c_neq t2949 tx2 c2950
        exact hp _ _ lit_0 
      · replace c2950 := c_eq t2949 tx2 c2950
        refine ⟨vp_of tx1 (by omega) (by omega), ?_⟩
        obtain ⟨z2951, t2952⟩ := t_any (w.2.1 77 x1.toNatClampNeg)
        refine ⟨fun c2953 => ?_, fun c2953 => ?_⟩
        · replace c2953 := c_lt tx3 t2952 c2953
          exact hp _ _ lit_0 
        · replace c2953 := c_nlt tx3 t2952 c2953
          refine ⟨vp_of tx1 (by omega) (by omega), ?_⟩
          obtain ⟨z2954, t2955⟩ := t_any (w.2.1 78 x1.toNatClampNeg)
          refine ⟨fun c2956 => ?_, fun c2956 => ?_⟩
          · replace c2956 := c_eq t2955 lit_m1 c2956
            exact hp _ _ lit_1 
          · replace c2956 := c_neq t2955 lit_m1 c2956
            refine ⟨vp_of tx1 (by omega) (by omega), ?_⟩
            refine ⟨fun c2957 => ?_, fun c2957 => ?_⟩
            · replace c2957 := c_le t2955 tx3 c2957
              exact hp _ _ lit_0 
            · replace c2957 := c_nle t2955 tx3 c2957
              exact hp _ _ lit_1 
set_option maxHeartbeats 4000000 in
set_option maxRecDepth 100000 in
theorem sX5_gather_84 {T D : Int} {k : Nat} {k72 : Int32 → Int32 → Wd → Prop} {M72 : Int} {post : Wd → Prop}  (hk72 : ∀ (x3 : Int32) (x4 : Int32) (zx3 : Int) (zx4 : Int) (w : Wd), Ti x3 zx3 → Ti x4 zx4 → IX k T D w → (0 ≤ zx4 ∧ zx4 ≤ 7) → (8 - zx4) < M72 → k72 x3 x4 w) (hp : ∀ (w9 : Wd), IX k T D w9 → post w9) : ∀ (n : Nat) (x3 : Int32) (x4 : Int32) (x5 : Int32) (zx3 : Int) (zx4 : Int) (zx5 : Int) (w : Wd), Ti x3 zx3 → Ti x4 zx4 → Ti x5 zx5 → IX k T D w → (0 ≤ zx5 ∧ zx5 ≤ 7) → (zx4 ≤ 6) → (0 ≤ zx4 ∧ zx4 ≤ 7) → ((8 - zx4) ≤ M72) → (8 - zx5) < (n : Int) → pX5_gather_84 k72  post  n x3 x4 x5 w := by
  intro n
  induction n with
  | zero =>
    intro x3 x4 x5 zx3 zx4 zx5 w tx3 tx4 tx5 hI h0 h1 h2 h3 hm
    exact absurd hm (by omega)
  | succ n ih =>
    intro x3 x4 x5 zx3 zx4 zx5 w tx3 tx4 tx5 hI h0 h1 h2 h3 hm
    unfold pX5_gather_84
    have hk := ix_k hI
    obtain ⟨z2958, t2959⟩ := t_any (w.1 90 0)
    have f2960 := ixg_90_0 hI t2959
    refine ⟨fun c2961 => ?_, fun c2961 => ?_⟩
    · replace c2961 := c_le t2959 tx5 c2961
      obtain ⟨z2962, t2963, f2964⟩ := t_add tx4 lit_1
      first | replace f2964 := f2964 (by omega) | clear f2964
      intro x4_2v1545 ex4_2v1545
      have tx4_2v1545 : Ti x4_2v1545 z2962 := by rw [ex4_2v1545]; exact t2963
      exact hk72 _ _ _ _ _ tx3 tx4_2v1545 hI (by omega) (by omega)
    · replace c2961 := c_nle t2959 tx5 c2961
      refine ⟨vp_of tx4 (by omega) (by omega), ?_⟩
      refine ⟨vp_of tx5 (by omega) (by omega), ?_⟩
      obtain ⟨z2965, t2966⟩ := t_any (w.2.1 95 x4.toNatClampNeg)
      obtain ⟨z2967, t2968⟩ := t_any (w.2.1 95 x5.toNatClampNeg)
      refine sX10_changes   (hI := hI) (tx0 := t2966) (tx1 := t2968) (tx2 := tx3)  (hp := fun r_3v1546 zr_3v1546 tr_3v1546 => ?_)
      obtain ⟨z2969, t2970, f2971⟩ := t_mul tx4 lit_7
      first | replace f2971 := f2971 (by omega) | clear f2971
      obtain ⟨z2972, t2973, f2974⟩ := t_add t2970 tx5
      first | replace f2974 := f2974 (by omega) | clear f2974
      refine ⟨vp_of t2973 (by omega) (by omega), ?_⟩
      intro w_5v1550 ew_5v1550
      have hIw_5v1550 := ixs_A hI ew_5v1550 (by decide)
      obtain ⟨z2975, t2976, f2977⟩ := t_add tx5 lit_1
      first | replace f2977 := f2977 (by omega) | clear f2977
      intro x5_6v1551 ex5_6v1551
      have tx5_6v1551 : Ti x5_6v1551 z2975 := by rw [ex5_6v1551]; exact t2976
      exact ih _ _ _ _ _ _ _ tx3 tx4 tx5_6v1551 hIw_5v1550 (by omega) (by omega) (by omega) (by omega) (by omega)
set_option maxHeartbeats 4000000 in
set_option maxRecDepth 100000 in
theorem sX5_gather_72 {T D : Int} {k : Nat} {post : Wd → Prop}   (hp : ∀ (w9 : Wd), IX k T D w9 → post w9) : ∀ (n : Nat) (x3 : Int32) (x4 : Int32) (zx3 : Int) (zx4 : Int) (w : Wd), Ti x3 zx3 → Ti x4 zx4 → IX k T D w → (0 ≤ zx4 ∧ zx4 ≤ 7) → (8 - zx4) < (n : Int) → pX5_gather_72   post  n x3 x4 w := by
  intro n
  induction n with
  | zero =>
    intro x3 x4 zx3 zx4 w tx3 tx4 hI h0 hm
    exact absurd hm (by omega)
  | succ n ih =>
    intro x3 x4 zx3 zx4 w tx3 tx4 hI h0 hm
    unfold pX5_gather_72
    have hk := ix_k hI
    obtain ⟨z2978, t2979⟩ := t_any (w.1 90 0)
    have f2980 := ixg_90_0 hI t2979
    refine ⟨fun c2981 => ?_, fun c2981 => ?_⟩
    · replace c2981 := c_le t2979 tx4 c2981
      exact hp  _   hI 
    · replace c2981 := c_nle t2979 tx4 c2981
      exact ⟨70000, sX5_gather_84  (M72 := (n : Int)) (hk72 := ih)  (hp := hp) 70000 _ _ _ _ _ _ _ tx3 tx4 lit_0 hI (by omega) (by omega) (by omega) (by omega) (by omega)⟩
set_option maxHeartbeats 4000000 in
set_option maxRecDepth 100000 in
theorem sX5_gather_8 {T D : Int} {k : Nat} {post : Wd → Prop}   (hp : ∀ (w9 : Wd), IX k T D w9 → post w9) : ∀ (n : Nat) (x2 : Int32) (x3 : Int32) (x4 : Int32) (zx2 : Int) (zx3 : Int) (zx4 : Int) (w : Wd), Ti x2 zx2 → Ti x3 zx3 → Ti x4 zx4 → IX k T D w → (0 ≤ zx4 ∧ zx4 ≤ 40) → (41 - zx4) < (n : Int) → pX5_gather_8   post  n x2 x3 x4 w := by
  intro n
  induction n with
  | zero =>
    intro x2 x3 x4 zx2 zx3 zx4 w tx2 tx3 tx4 hI h0 hm
    exact absurd hm (by omega)
  | succ n ih =>
    intro x2 x3 x4 zx2 zx3 zx4 w tx2 tx3 tx4 hI h0 hm
    unfold pX5_gather_8
    have hk := ix_k hI
    obtain ⟨z2982, t2983⟩ := t_any (w.1 70 0)
    have f2984 := ixg_70_0 hI t2983
    refine ⟨fun c2985 => ?_, fun c2985 => ?_⟩
    · replace c2985 := c_le t2983 tx4 c2985
      unfold pX5_gather_69
      exact ⟨70000, sX5_gather_72    (hp := hp) 70000 _ _ _ _ _ tx3 lit_0 hI (by omega) (by omega)⟩
    · replace c2985 := c_nle t2983 tx4 c2985
      obtain ⟨z2986, t2987⟩ := t_any (w.1 90 0)
      have f2988 := ixg_90_0 hI t2987
      refine ⟨fun c2989 => ?_, fun c2989 => ?_⟩
      · replace c2989 := c_le lit_7 t2987 c2989
        unfold pX5_gather_69
        exact ⟨70000, sX5_gather_72    (hp := hp) 70000 _ _ _ _ _ tx3 lit_0 hI (by omega) (by omega)⟩
      · replace c2989 := c_nle lit_7 t2987 c2989
        refine sX3_counts   (hI := hI) (tx1 := tx4) (tx2 := lit_0) (tx3 := tx2)  (hp := fun r_3v1552 zr_3v1552 tr_3v1552 => ?_)
        refine ⟨fun c2990 => ?_, fun c2990 => ?_⟩
        · replace c2990 := c_eq tr_3v1552 lit_0 c2990
          unfold pX5_gather_63
          obtain ⟨z2991, t2992, f2993⟩ := t_add tx4 lit_1
          first | replace f2993 := f2993 (by omega) | clear f2993
          intro x4_1v1558 ex4_1v1558
          have tx4_1v1558 : Ti x4_1v1558 z2991 := by rw [ex4_1v1558]; exact t2992
          exact ih _ _ _ _ _ _ _ tx2 tx3 tx4_1v1558 hI (by omega) (by omega)
        · replace c2990 := c_neq tr_3v1552 lit_0 c2990
          refine ⟨vp_of tx4 (by omega) (by omega), ?_⟩
          refine ⟨vp_of t2987 (by omega) (by omega), ?_⟩
          intro w_6v1556 ew_6v1556
          have hIw_6v1556 := ixs_A hI ew_6v1556 (by decide)
          intro w_7v1557 ew_7v1557
          have t2994 : Ti (w_6v1556.1 90 0) z2986 := by rw [e1_A ew_6v1556]; exact t2987
          obtain ⟨z2995, t2996, f2997⟩ := t_add t2994 lit_1
          first | replace f2997 := f2997 (by omega) | clear f2997
          have hIw_7v1557 := ixs_90_0 hIw_6v1556 ew_7v1557 t2996 (by omega) (by omega)
          unfold pX5_gather_63
          obtain ⟨z2998, t2999, f3000⟩ := t_add tx4 lit_1
          first | replace f3000 := f3000 (by omega) | clear f3000
          intro x4_1v1559 ex4_1v1559
          have tx4_1v1559 : Ti x4_1v1559 z2998 := by rw [ex4_1v1559]; exact t2999
          exact ih _ _ _ _ _ _ _ tx2 tx3 tx4_1v1559 hIw_7v1557 (by omega) (by omega)
set_option maxHeartbeats 4000000 in
set_option maxRecDepth 100000 in
theorem sX5_gather {T D : Int} {k : Nat} {post : Wd → Prop} {x2 : Int32} {zx2 : Int} {x3 : Int32} {zx3 : Int} {w : Wd}  (tx2 : Ti x2 zx2) (tx3 : Ti x3 zx3) (hI : IX k T D w)  (hp : ∀ (w9 : Wd), IX k T D w9 → post w9) : pX5_gather   post  x2 x3 w := by
  unfold pX5_gather
  have hk := ix_k hI
  intro w_1v1560 ew_1v1560
  have hIw_1v1560 := ixs_90_0 hI ew_1v1560 lit_0 (by omega) (by omega)
  exact ⟨70000, sX5_gather_8    (hp := hp) 70000 _ _ _ _ _ _ _ tx2 tx3 lit_0 hIw_1v1560 (by omega) (by omega)⟩
set_option maxHeartbeats 4000000 in
set_option maxRecDepth 100000 in
theorem sX5_changesFrom {T D : Int} {k : Nat} {post : Int32 → Wd → Prop} {x1 : Int32} {zx1 : Int} {x2 : Int32} {zx2 : Int} {w : Wd}  (tx1 : Ti x1 zx1) (tx2 : Ti x2 zx2) (hI : IX k T D w) (h0 : 0 ≤ zx1 ∧ zx1 ≤ 6) (h1 : 0 ≤ zx2 ∧ zx2 ≤ 6) (hp : ∀ (r : Int32) (zr : Int), Ti r zr → post r w) : pX5_changesFrom   post  x1 x2 w := by
  unfold pX5_changesFrom
  have hk := ix_k hI
  obtain ⟨z3001, t3002, f3003⟩ := t_mul tx1 lit_7
  first | replace f3003 := f3003 (by omega) | clear f3003
  obtain ⟨z3004, t3005, f3006⟩ := t_add t3002 tx2
  first | replace f3006 := f3006 (by omega) | clear f3006
  refine ⟨vp_of t3005 (by omega) (by omega), ?_⟩
  obtain ⟨z3007, t3008⟩ := t_any (w.2.1 96 ((x1 * (7 : Int32)) + x2).toNatClampNeg)
  exact hp _ _ t3008 
set_option maxHeartbeats 4000000 in
set_option maxRecDepth 100000 in
theorem sX5_fewestTo_16 {T D : Int} {k : Nat} {post : Int32 → Wd → Prop} {w : Wd}  (hp : ∀ (r : Int32) (zr : Int), Ti r zr → post r w) : ∀ (n : Nat) (x1 : Int32) (x2 : Int32) (x3 : Int32) (zx1 : Int) (zx2 : Int) (zx3 : Int), Ti x1 zx1 → Ti x2 zx2 → Ti x3 zx3 → IX k T D w → (0 ≤ zx3 ∧ zx3 ≤ 7) → (0 ≤ zx1 ∧ zx1 ≤ 6) → (8 - zx3) < (n : Int) → pX5_fewestTo_16   post  n x1 x2 x3 w := by
  intro n
  induction n with
  | zero =>
    intro x1 x2 x3 zx1 zx2 zx3  tx1 tx2 tx3 hI h0 h1 hm
    exact absurd hm (by omega)
  | succ n ih =>
    intro x1 x2 x3 zx1 zx2 zx3  tx1 tx2 tx3 hI h0 h1 hm
    unfold pX5_fewestTo_16
    have hk := ix_k hI
    obtain ⟨z3009, t3010⟩ := t_any (w.1 90 0)
    have f3011 := ixg_90_0 hI t3010
    refine ⟨fun c3012 => ?_, fun c3012 => ?_⟩
    · replace c3012 := c_le t3010 tx3 c3012
      exact hp _ _ tx2 
    · replace c3012 := c_nle t3010 tx3 c3012
      refine ⟨fun c3013 => ?_, fun c3013 => ?_⟩
      · replace c3013 := c_eq tx3 tx1 c3013
        unfold pX5_fewestTo_40
        obtain ⟨z3014, t3015, f3016⟩ := t_add tx3 lit_1
        first | replace f3016 := f3016 (by omega) | clear f3016
        intro x3_1v1564 ex3_1v1564
        have tx3_1v1564 : Ti x3_1v1564 z3014 := by rw [ex3_1v1564]; exact t3015
        exact ih _ _ _ _ _ _  tx1 tx2 tx3_1v1564 hI (by omega) (by omega) (by omega)
      · replace c3013 := c_neq tx3 tx1 c3013
        refine sX5_changesFrom   (hI := hI) (tx1 := tx3) (tx2 := tx1) (h0 := (by omega)) (h1 := (by omega)) (hp := fun r_3v1561 zr_3v1561 tr_3v1561 => ?_)
        obtain ⟨z3017, t3018, f3019⟩ := t_ite tr_3v1561 tx2 tr_3v1561 tx2
        intro x2_5v1565 ex2_5v1565
        have tx2_5v1565 : Ti x2_5v1565 z3017 := by rw [ex2_5v1565]; exact t3018
        unfold pX5_fewestTo_40
        obtain ⟨z3020, t3021, f3022⟩ := t_add tx3 lit_1
        first | replace f3022 := f3022 (by omega) | clear f3022
        intro x3_1v1566 ex3_1v1566
        have tx3_1v1566 : Ti x3_1v1566 z3020 := by rw [ex3_1v1566]; exact t3021
        exact ih _ _ _ _ _ _  tx1 tx2_5v1565 tx3_1v1566 hI (by omega) (by omega) (by omega)
set_option maxHeartbeats 4000000 in
set_option maxRecDepth 100000 in
theorem sX5_fewestTo {T D : Int} {k : Nat} {post : Int32 → Wd → Prop} {x1 : Int32} {zx1 : Int} {w : Wd}  (tx1 : Ti x1 zx1) (hI : IX k T D w) (h0 : 0 ≤ zx1 ∧ zx1 ≤ 6) (hp : ∀ (r : Int32) (zr : Int), Ti r zr → post r w) : pX5_fewestTo   post  x1 w := by
  unfold pX5_fewestTo
  have hk := ix_k hI
  obtain ⟨z3023, t3024⟩ := t_any (w.1 90 6)
  refine ⟨fun c3025 => ?_, fun c3025 => ?_⟩
  · replace c3025 := c_neq tx1 t3024 c3025
    exact ⟨70000, sX5_fewestTo_16    (hp := hp) 70000 _ _ _ _ _ _  tx1 lit_1000 lit_0 hI (by omega) (by omega) (by omega)⟩
  · replace c3025 := c_eq tx1 t3024 c3025
    exact hp _ _ lit_0 
set_option maxHeartbeats 4000000 in
set_option maxRecDepth 100000 in
theorem sX5_comesFrom_5 {T D : Int} {k : Nat} {post : Int32 → Wd → Prop} {w : Wd}  (hp : ∀ (r : Int32) (zr : Int), Ti r zr → post r w) : ∀ (n : Nat) (x2 : Int32) (x3 : Int32) (x4 : Int32) (zx2 : Int) (zx3 : Int) (zx4 : Int), Ti x2 zx2 → Ti x3 zx3 → Ti x4 zx4 → IX k T D w → (0 ≤ zx4 ∧ zx4 ≤ 7) → (-1 ≤ zx3 ∧ zx3 ≤ 6) → (8 - zx4) < (n : Int) → pX5_comesFrom_5   post  n x2 x3 x4 w := by
  intro n
  induction n with
  | zero =>
    intro x2 x3 x4 zx2 zx3 zx4  tx2 tx3 tx4 hI h0 h1 hm
    exact absurd hm (by omega)
  | succ n ih =>
    intro x2 x3 x4 zx2 zx3 zx4  tx2 tx3 tx4 hI h0 h1 hm
    unfold pX5_comesFrom_5
    have hk := ix_k hI
    refine ⟨fun c3026 => ?_, fun c3026 => ?_⟩
    · replace c3026 := c_le lit_7 tx4 c3026
      refine ⟨fun c3027 => ?_, fun c3027 => ?_⟩
      · replace c3027 := c_neq tx3 tx2 c3027
        exact hp _ _ lit_0 
      · replace c3027 := c_eq tx3 tx2 c3027
        exact hp _ _ lit_1 
    · replace c3026 := c_nle lit_7 tx4 c3026
      refine ⟨fun c3028 => ?_, fun c3028 => ?_⟩
      · replace c3028 := c_eq tx3 tx2 c3028
        refine ⟨fun c3029 => ?_, fun c3029 => ?_⟩
        · replace c3029 := c_neq tx3 tx2 c3029
          exact hp _ _ lit_0 
        · replace c3029 := c_eq tx3 tx2 c3029
          exact hp _ _ lit_1 
      · replace c3028 := c_neq tx3 tx2 c3028
        refine ⟨fun c3030 => ?_, fun c3030 => ?_⟩
        · replace c3030 := c_eq tx3 lit_m1 c3030
          refine ⟨fun c3031 => ?_, fun c3031 => ?_⟩
          · replace c3031 := c_neq tx3 tx2 c3031
            exact hp _ _ lit_0 
          · replace c3031 := c_eq tx3 tx2 c3031
            exact hp _ _ lit_1 
        · replace c3030 := c_neq tx3 lit_m1 c3030
          refine ⟨vp_of tx3 (by omega) (by omega), ?_⟩
          obtain ⟨z3032, t3033⟩ := t_any (w.2.1 98 x3.toNatClampNeg)
          have f3034 := ixg_98 hI t3033
          intro x3_7v1567 ex3_7v1567
          have tx3_7v1567 : Ti x3_7v1567 z3032 := by rw [ex3_7v1567]; exact t3033
          obtain ⟨z3035, t3036, f3037⟩ := t_add tx4 lit_1
          first | replace f3037 := f3037 (by omega) | clear f3037
          intro x4_8v1568 ex4_8v1568
          have tx4_8v1568 : Ti x4_8v1568 z3035 := by rw [ex4_8v1568]; exact t3036
          exact ih _ _ _ _ _ _  tx2 tx3_7v1567 tx4_8v1568 hI (by omega) (by omega) (by omega)
set_option maxHeartbeats 4000000 in
set_option maxRecDepth 100000 in
theorem sX5_comesFrom {T D : Int} {k : Nat} {post : Int32 → Wd → Prop} {x1 : Int32} {zx1 : Int} {x2 : Int32} {zx2 : Int} {w : Wd}  (tx1 : Ti x1 zx1) (tx2 : Ti x2 zx2) (hI : IX k T D w) (h0 : 0 ≤ zx1 ∧ zx1 ≤ 6) (hp : ∀ (r : Int32) (zr : Int), Ti r zr → post r w) : pX5_comesFrom   post  x1 x2 w := by
  unfold pX5_comesFrom
  have hk := ix_k hI
  exact ⟨70000, sX5_comesFrom_5    (hp := hp) 70000 _ _ _ _ _ _  tx2 tx1 lit_0 hI (by omega) (by omega) (by omega)⟩
set_option maxHeartbeats 4000000 in
set_option maxRecDepth 100000 in
theorem sX5_keepTree {T D : Int} {k : Nat} {post : Wd → Prop} {x1 : Int32} {zx1 : Int} {w : Wd}  (tx1 : Ti x1 zx1) (hI : IX k T D w)  (hp : ∀ (w9 : Wd), IX k T D w9 → post w9) : pX5_keepTree   post  x1 w := by
  unfold pX5_keepTree
  have hk := ix_k hI
  obtain ⟨z3038, t3039⟩ := t_any (w.1 90 1)
  refine ⟨fun c3040 => ?_, fun c3040 => ?_⟩
  · replace c3040 := c_le t3039 tx1 c3040
    intro w_2v1569 ew_2v1569
    have hIw_2v1569 := ixs_n hI ew_2v1569 (by unfold nX; omega)
    exact hp  _   hIw_2v1569 
  · replace c3040 := c_nle t3039 tx1 c3040
    intro w_3v1570 ew_3v1570
    have hIw_3v1570 := ixs_n hI ew_3v1570 (by unfold nX; omega)
    intro w_4v1571 ew_4v1571
    have hIw_4v1571 := ixs_n hIw_3v1570 ew_4v1571 (by unfold nX; omega)
    intro w_5v1572 ew_5v1572
    have hIw_5v1572 := ixs_C hIw_4v1571 ew_5v1572 (by decide)
    intro w_6v1573 ew_6v1573
    have hIw_6v1573 := ixs_n hIw_5v1572 ew_6v1573 (by unfold nX; omega)
    exact hp  _   hIw_6v1573 
set_option maxHeartbeats 4000000 in
set_option maxRecDepth 100000 in
theorem sX5_grow_61 {T D : Int} {k : Nat} {qX5_grow : (Wd → Prop) → Int32 → Int32 → Wd → Prop} {Mq : Int} {post : Wd → Prop}  (hqX5_grow : ∀ (post : Wd → Prop) (x1 : Int32) (x2 : Int32) (zx1 : Int) (zx2 : Int) (w : Wd), Ti x1 zx1 → Ti x2 zx2 → IX k T D w → (0 ≤ zx1 ∧ zx1 ≤ 8) → (9 - zx1) < Mq → (∀ (w9 : Wd), IX k T D w9 → post w9) → qX5_grow post x1 x2 w) (hp : ∀ (w9 : Wd), IX k T D w9 → post w9) : ∀ (n : Nat) (x1 : Int32) (x2 : Int32) (x3 : Int32) (zx1 : Int) (zx2 : Int) (zx3 : Int) (w : Wd), Ti x1 zx1 → Ti x2 zx2 → Ti x3 zx3 → IX k T D w → (0 ≤ zx3 ∧ zx3 ≤ 7) → (0 ≤ zx1 ∧ zx1 ≤ 6) → ((9 - zx1) ≤ Mq) → (8 - zx3) < (n : Int) → pX5_grow_61  qX5_grow post  n x1 x2 x3 w := by
  intro n
  induction n with
  | zero =>
    intro x1 x2 x3 zx1 zx2 zx3 w tx1 tx2 tx3 hI h0 h1 h2 hm
    exact absurd hm (by omega)
  | succ n ih =>
    intro x1 x2 x3 zx1 zx2 zx3 w tx1 tx2 tx3 hI h0 h1 h2 hm
    unfold pX5_grow_61
    have hk := ix_k hI
    obtain ⟨z3041, t3042⟩ := t_any (w.1 90 0)
    have f3043 := ixg_90_0 hI t3042
    refine ⟨fun c3044 => ?_, fun c3044 => ?_⟩
    · replace c3044 := c_le t3042 tx3 c3044
      exact hp  _   hI 
    · replace c3044 := c_nle t3042 tx3 c3044
      refine sX5_comesFrom   (hI := hI) (tx1 := tx3) (tx2 := tx1) (h0 := (by omega)) (hp := fun r_2v1574 zr_2v1574 tr_2v1574 => ?_)
      refine ⟨fun c3045 => ?_, fun c3045 => ?_⟩
      · replace c3045 := c_neq tr_2v1574 lit_0 c3045
        unfold pX5_grow_107
        obtain ⟨z3046, t3047, f3048⟩ := t_add tx3 lit_1
        first | replace f3048 := f3048 (by omega) | clear f3048
        intro x3_1v1586 ex3_1v1586
        have tx3_1v1586 : Ti x3_1v1586 z3046 := by rw [ex3_1v1586]; exact t3047
        exact ih _ _ _ _ _ _ _ tx1 tx2 tx3_1v1586 hI (by omega) (by omega) (by omega) (by omega)
      · replace c3045 := c_eq tr_2v1574 lit_0 c3045
        refine ⟨vp_of tx1 (by omega) (by omega), ?_⟩
        intro w_5v1581 ew_5v1581
        have hIw_5v1581 := ixs_98 hI ew_5v1581 tx3 (by omega) (by omega)
        refine sX5_changesFrom   (hI := hIw_5v1581) (tx1 := tx3) (tx2 := tx1) (h0 := (by omega)) (h1 := (by omega)) (hp := fun r_6v1582 zr_6v1582 tr_6v1582 => ?_)
        obtain ⟨z3049, t3050, f3051⟩ := t_add tx1 lit_1
        first | replace f3051 := f3051 (by omega) | clear f3051
        obtain ⟨z3052, t3053, f3054⟩ := t_add tx2 tr_6v1582
        first | replace f3054 := f3054 (by omega) | clear f3054
        refine hqX5_grow _ _ _ _ _ _ t3050 t3053 hIw_5v1581 (by omega) (by omega) (fun  w_8v1587   hIw_8v1587  => ?_)
        refine ⟨vp_of tx1 (by omega) (by omega), ?_⟩
        intro w_9v1588 ew_9v1588
        have hIw_9v1588 := ixs_98 hIw_8v1587 ew_9v1588 lit_m1 (by omega) (by omega)
        unfold pX5_grow_107
        obtain ⟨z3055, t3056, f3057⟩ := t_add tx3 lit_1
        first | replace f3057 := f3057 (by omega) | clear f3057
        intro x3_1v1589 ex3_1v1589
        have tx3_1v1589 : Ti x3_1v1589 z3055 := by rw [ex3_1v1589]; exact t3056
        exact ih _ _ _ _ _ _ _ tx1 tx2 tx3_1v1589 hIw_9v1588 (by omega) (by omega) (by omega) (by omega)
set_option maxHeartbeats 4000000 in
set_option maxRecDepth 100000 in
theorem sX5_grow {T D : Int} {k : Nat} {qX5_grow : (Wd → Prop) → Int32 → Int32 → Wd → Prop} {Mq : Int} {post : Wd → Prop} {x1 : Int32} {zx1 : Int} {x2 : Int32} {zx2 : Int} {w : Wd} (hqX5_grow : ∀ (post : Wd → Prop) (x1 : Int32) (x2 : Int32) (zx1 : Int) (zx2 : Int) (w : Wd), Ti x1 zx1 → Ti x2 zx2 → IX k T D w → (0 ≤ zx1 ∧ zx1 ≤ 8) → (9 - zx1) < Mq → (∀ (w9 : Wd), IX k T D w9 → post w9) → qX5_grow post x1 x2 w) (tx1 : Ti x1 zx1) (tx2 : Ti x2 zx2) (hI : IX k T D w) (h0 : 0 ≤ zx1 ∧ zx1 ≤ 8) (h1 : (9 - zx1) ≤ Mq) (hp : ∀ (w9 : Wd), IX k T D w9 → post w9) : pX5_grow  qX5_grow post  x1 x2 w := by
  unfold pX5_grow
  have hk := ix_k hI
  obtain ⟨z3058, t3059⟩ := t_any (w.1 90 0)
  have f3060 := ixg_90_0 hI t3059
  refine ⟨fun c3061 => ?_, fun c3061 => ?_⟩
  · replace c3061 := c_lt t3059 tx1 c3061
    exact hp  _   hI 
  · replace c3061 := c_nlt t3059 tx1 c3061
    refine ⟨vp_of tx1 (by omega) (by omega), ?_⟩
    obtain ⟨z3062, t3063⟩ := t_any (w.2.1 99 x1.toNatClampNeg)
    obtain ⟨z3064, t3065, f3066⟩ := t_add tx2 t3063
    first | replace f3066 := f3066 (by omega) | clear f3066
    obtain ⟨z3067, t3068⟩ := t_any (w.1 90 1)
    refine ⟨fun c3069 => ?_, fun c3069 => ?_⟩
    · replace c3069 := c_le t3065 t3068 c3069
      refine ⟨fun c3070 => ?_, fun c3070 => ?_⟩
      · replace c3070 := c_neq tx1 t3059 c3070
        obtain ⟨z3071, t3072⟩ := t_any (w.1 90 6)
        refine ⟨fun c3073 => ?_, fun c3073 => ?_⟩
        · replace c3073 := c_neq tx1 t3072 c3073
          exact ⟨70000, sX5_grow_61   (hqX5_grow := hqX5_grow) (hp := hp) 70000 _ _ _ _ _ _ _ tx1 tx2 lit_0 hI (by omega) (by omega) (by omega) (by omega)⟩
        · replace c3073 := c_eq tx1 t3072 c3073
          obtain ⟨z3074, t3075, f3076⟩ := t_add tx1 lit_1
          first | replace f3076 := f3076 (by omega) | clear f3076
          refine hqX5_grow _ _ _ _ _ _ t3075 tx2 hI (by omega) (by omega) (fun  w_5v1590   hIw_5v1590  => ?_)
          exact hp  _   hIw_5v1590 
      · replace c3070 := c_eq tx1 t3059 c3070
        refine sX5_keepTree   (hI := hI) (tx1 := tx2)  (hp := fun  w_6v1591   hIw_6v1591  => ?_)
        exact hp  _   hIw_6v1591 
    · replace c3069 := c_nle t3065 t3068 c3069
      exact hp  _   hI 
theorem sd9X5_grow {T D : Int} {k : Nat} : ∀ (d : Nat) (post : Wd → Prop) (x1 : Int32) (x2 : Int32) (zx1 : Int) (zx2 : Int) (w : Wd), Ti x1 zx1 → Ti x2 zx2 → IX k T D w → (0 ≤ zx1 ∧ zx1 ≤ 8) → (9 - zx1) < (d : Int) → (∀ (w9 : Wd), IX k T D w9 → post w9) → d9X5_grow d post x1 x2 w := by
  intro d
  induction d with
  | zero =>
    intro post x1 x2 zx1 zx2 w tx1 tx2 hI h0 hm hp
    exact absurd hm (by omega)
  | succ d ih =>
    intro post x1 x2 zx1 zx2 w tx1 tx2 hI h0 hm hp
    show pX5_grow (d9X5_grow d) post x1 x2 w
    exact sX5_grow (Mq := (d : Int)) (hqX5_grow := ih) (hI := hI) (tx1 := tx1) (tx2 := tx2) (h0 := h0) (h1 := (by omega)) (hp := hp)
theorem sdX5_grow {T D : Int} {k : Nat} {d : Nat} {post : Wd → Prop} {x1 : Int32} {zx1 : Int} {x2 : Int32} {zx2 : Int} {w : Wd} (tx1 : Ti x1 zx1) (tx2 : Ti x2 zx2) (hI : IX k T D w) (h0 : 0 ≤ zx1 ∧ zx1 ≤ 8) (hm : (9 - zx1) < (d : Int)) (hp : ∀ (w9 : Wd), IX k T D w9 → post w9) : dX5_grow d post x1 x2 w := sd9X5_grow d post x1 x2 zx1 zx2 w tx1 tx2 hI h0 hm hp
set_option maxHeartbeats 4000000 in
set_option maxRecDepth 100000 in
theorem sX5_growFrom_34 {T D : Int} {k : Nat} {post : Wd → Prop}   (hp : ∀ (w9 : Wd), IX k T D w9 → post w9) : ∀ (n : Nat) (x2 : Int32) (zx2 : Int) (w : Wd), Ti x2 zx2 → IX k T D w → (-1 ≤ zx2 ∧ zx2 ≤ 6) → (zx2 + 2) < (n : Int) → pX5_growFrom_34   post  n x2 w := by
  intro n
  induction n with
  | zero =>
    intro x2 zx2 w tx2 hI h0 hm
    exact absurd hm (by omega)
  | succ n ih =>
    intro x2 zx2 w tx2 hI h0 hm
    unfold pX5_growFrom_34
    have hk := ix_k hI
    refine ⟨fun c3077 => ?_, fun c3077 => ?_⟩
    · replace c3077 := c_lt tx2 lit_0 c3077
      refine sdX5_grow lit_0 lit_0 hI (by omega) (by omega) (fun  w_2v1592   hIw_2v1592  => ?_)
      exact hp  _   hIw_2v1592 
    · replace c3077 := c_nlt tx2 lit_0 c3077
      obtain ⟨z3078, t3079, f3080⟩ := t_add tx2 lit_1
      first | replace f3080 := f3080 (by omega) | clear f3080
      refine ⟨vp_of t3079 (by omega) (by omega), ?_⟩
      refine sX5_fewestTo   (hI := hI) (tx1 := tx2) (h0 := (by omega)) (hp := fun r_3v1593 zr_3v1593 tr_3v1593 => ?_)
      refine ⟨vp_of tx2 (by omega) (by omega), ?_⟩
      intro w_5v1598 ew_5v1598
      have hIw_5v1598 := ixs_A hI ew_5v1598 (by decide)
      refine ⟨vp_of tx2 (by omega) (by omega), ?_⟩
      intro w_6v1599 ew_6v1599
      have hIw_6v1599 := ixs_98 hIw_5v1598 ew_6v1599 lit_m1 (by omega) (by omega)
      obtain ⟨z3081, t3082, f3083⟩ := t_add tx2 lit_m1
      first | replace f3083 := f3083 (by omega) | clear f3083
      intro x2_7v1600 ex2_7v1600
      have tx2_7v1600 : Ti x2_7v1600 z3081 := by rw [ex2_7v1600]; exact t3082
      exact ih _ _ _ tx2_7v1600 hIw_6v1599 (by omega) (by omega)
set_option maxHeartbeats 4000000 in
set_option maxRecDepth 100000 in
theorem sX5_growFrom {T D : Int} {k : Nat} {post : Wd → Prop} {x1 : Int32} {zx1 : Int} {w : Wd}  (tx1 : Ti x1 zx1) (hI : IX k T D w)  (hp : ∀ (w9 : Wd), IX k T D w9 → post w9) : pX5_growFrom   post  x1 w := by
  unfold pX5_growFrom
  have hk := ix_k hI
  intro w_1v1601 ew_1v1601
  have hIw_1v1601 := ixs_n hI ew_1v1601 (by unfold nX; omega)
  intro w_2v1602 ew_2v1602
  have hIw_2v1602 := ixs_n hIw_1v1601 ew_2v1602 (by unfold nX; omega)
  intro w_3v1603 ew_3v1603
  have hIw_3v1603 := ixs_n hIw_2v1602 ew_3v1603 (by unfold nX; omega)
  obtain ⟨z3087, t3088⟩ := t_any (w.1 90 0)
  have f3089 := ixg_90_0 hI t3088
  have t3086 : Ti (w_1v1601.1 90 0) z3087 := by rw [ew_1v1601, sI_ne (by omega)]; exact t3088
  have t3085 : Ti (w_2v1602.1 90 0) z3087 := by rw [ew_2v1602, sI_ne (by omega)]; exact t3086
  have t3084 : Ti (w_3v1603.1 90 0) z3087 := by rw [ew_3v1603, sI_ne (by omega)]; exact t3085
  refine ⟨vp_of t3084 (by omega) (by omega), ?_⟩
  intro w_4v1604 ew_4v1604
  have hIw_4v1604 := ixs_A hIw_3v1603 ew_4v1604 (by decide)
  have t3090 : Ti (w_4v1604.1 90 0) z3087 := by rw [e1_A ew_4v1604]; exact t3084
  obtain ⟨z3091, t3092, f3093⟩ := t_sub t3090 lit_1
  first | replace f3093 := f3093 (by omega) | clear f3093
  intro x2_5v1605 ex2_5v1605
  have tx2_5v1605 : Ti x2_5v1605 z3091 := by rw [ex2_5v1605]; exact t3092
  exact ⟨70000, sX5_growFrom_34    (hp := hp) 70000 _ _ _ tx2_5v1605 hIw_4v1604 (by omega) (by omega)⟩
set_option maxHeartbeats 4000000 in
set_option maxRecDepth 100000 in
theorem sX10_tree_64 {T D : Int} {k : Nat} {post : Int32 → Wd → Prop}   (hp : ∀ (r : Int32) (zr : Int) (w9 : Wd), Ti r zr → IX k T D w9 → post r w9) : ∀ (n : Nat) (x2 : Int32) (x4 : Int32) (zx2 : Int) (zx4 : Int) (w : Wd), Ti x2 zx2 → Ti x4 zx4 → IX k T D w → (0 ≤ zx4 ∧ zx4 ≤ 7) → (8 - zx4) < (n : Int) → pX10_tree_64   post  n x2 x4 w := by
  intro n
  induction n with
  | zero =>
    intro x2 x4 zx2 zx4 w tx2 tx4 hI h0 hm
    exact absurd hm (by omega)
  | succ n ih =>
    intro x2 x4 zx2 zx4 w tx2 tx4 hI h0 hm
    unfold pX10_tree_64
    have hk := ix_k hI
    obtain ⟨z3094, t3095⟩ := t_any (w.1 90 0)
    have f3096 := ixg_90_0 hI t3095
    refine ⟨fun c3097 => ?_, fun c3097 => ?_⟩
    · replace c3097 := c_le t3095 tx4 c3097
      refine ⟨fun c3098 => ?_, fun c3098 => ?_⟩
      · replace c3098 := c_neq tx2 lit_0 c3098
        obtain ⟨z3099, t3100⟩ := t_any (w.1 90 2)
        exact hp _ _ _  t3100 hI 
      · replace c3098 := c_eq tx2 lit_0 c3098
        obtain ⟨z3101, t3102⟩ := t_any (w.1 90 1)
        exact hp _ _ _  t3102 hI 
    · replace c3097 := c_nle t3095 tx4 c3097
      refine ⟨vp_of tx4 (by omega) (by omega), ?_⟩
      obtain ⟨z3103, t3104⟩ := t_any (w.2.1 94 x4.toNatClampNeg)
      refine sX4_lay   (hI := hI) (tx1 := t3104)  (hp := fun  w_3v1606   hIw_3v1606  => ?_)
      obtain ⟨z3105, t3106, f3107⟩ := t_add tx4 lit_1
      first | replace f3107 := f3107 (by omega) | clear f3107
      intro x4_4v1607 ex4_4v1607
      have tx4_4v1607 : Ti x4_4v1607 z3105 := by rw [ex4_4v1607]; exact t3106
      exact ih _ _ _ _ _ tx2 tx4_4v1607 hIw_3v1606 (by omega) (by omega)
set_option maxHeartbeats 4000000 in
set_option maxRecDepth 100000 in
theorem sX10_tree {T D : Int} {k : Nat} {post : Int32 → Wd → Prop} {x1 : Int32} {zx1 : Int} {x2 : Int32} {zx2 : Int} {x3 : Int32} {zx3 : Int} {w : Wd}  (tx1 : Ti x1 zx1) (tx2 : Ti x2 zx2) (tx3 : Ti x3 zx3) (hI : IX k T D w)  (hp : ∀ (r : Int32) (zr : Int) (w9 : Wd), Ti r zr → IX k T D w9 → post r w9) : pX10_tree   post  x1 x2 x3 w := by
  unfold pX10_tree
  have hk := ix_k hI
  intro w_1v1608 ew_1v1608
  have hIw_1v1608 := ixs_110_1 hI ew_1v1608 lit_0 (by omega) (by omega)
  obtain ⟨z3108, t3109⟩ := t_any (w_1v1608.1 (rl (w_1v1608.2.2.2.2 0)) 0)
  have f3110 := ixg_r0 hIw_1v1608 t3109
  refine sX5_gather   (hI := hIw_1v1608) (tx2 := tx3) (tx3 := t3109)  (hp := fun  w_2v1609   hIw_2v1609  => ?_)
  refine ⟨fun c3111 => ?_, fun c3111 => ?_⟩
  · replace c3111 := c_lt tx1 lit_0 c3111
    exact hp _ _ _  lit_m1 hIw_2v1609 
  · replace c3111 := c_nlt tx1 lit_0 c3111
    obtain ⟨z3112, t3113⟩ := t_any (w_2v1609.1 90 0)
    have f3114 := ixg_90_0 hIw_2v1609 t3113
    refine ⟨fun c3115 => ?_, fun c3115 => ?_⟩
    · replace c3115 := c_le t3113 tx1 c3115
      exact hp _ _ _  lit_m1 hIw_2v1609 
    · replace c3115 := c_nle t3113 tx1 c3115
      refine ⟨fun c3116 => ?_, fun c3116 => ?_⟩
      · replace c3116 := c_lt tx2 lit_0 c3116
        exact hp _ _ _  lit_m1 hIw_2v1609 
      · replace c3116 := c_nlt tx2 lit_0 c3116
        refine ⟨fun c3117 => ?_, fun c3117 => ?_⟩
        · replace c3117 := c_le tx2 lit_1 c3117
          refine sX5_growFrom   (hI := hIw_2v1609) (tx1 := tx1)  (hp := fun  w_7v1610   hIw_7v1610  => ?_)
          exact ⟨70000, sX10_tree_64    (hp := hp) 70000 _ _ _ _ _ tx2 lit_0 hIw_7v1610 (by omega) (by omega)⟩
        · replace c3117 := c_nle tx2 lit_1 c3117
          exact hp _ _ _  lit_m1 hIw_2v1609 
set_option maxHeartbeats 4000000 in
set_option maxRecDepth 100000 in
theorem sX5_changesToOthers_4 {T D : Int} {k : Nat} {post : Int32 → Wd → Prop} {w : Wd}  (hp : ∀ (r : Int32) (zr : Int), Ti r zr → post r w) : ∀ (n : Nat) (x1 : Int32) (x2 : Int32) (x3 : Int32) (zx1 : Int) (zx2 : Int) (zx3 : Int), Ti x1 zx1 → Ti x2 zx2 → Ti x3 zx3 → IX k T D w → (0 ≤ zx3 ∧ zx3 ≤ 7) → (0 ≤ zx1 ∧ zx1 ≤ 6) → (8 - zx3) < (n : Int) → pX5_changesToOthers_4   post  n x1 x2 x3 w := by
  intro n
  induction n with
  | zero =>
    intro x1 x2 x3 zx1 zx2 zx3  tx1 tx2 tx3 hI h0 h1 hm
    exact absurd hm (by omega)
  | succ n ih =>
    intro x1 x2 x3 zx1 zx2 zx3  tx1 tx2 tx3 hI h0 h1 hm
    unfold pX5_changesToOthers_4
    have hk := ix_k hI
    obtain ⟨z3118, t3119⟩ := t_any (w.1 90 0)
    have f3120 := ixg_90_0 hI t3119
    refine ⟨fun c3121 => ?_, fun c3121 => ?_⟩
    · replace c3121 := c_le t3119 tx3 c3121
      exact hp _ _ tx2 
    · replace c3121 := c_nle t3119 tx3 c3121
      refine ⟨fun c3122 => ?_, fun c3122 => ?_⟩
      · replace c3122 := c_neq tx3 tx1 c3122
        refine sX5_changesFrom   (hI := hI) (tx1 := tx1) (tx2 := tx3) (h0 := (by omega)) (h1 := (by omega)) (hp := fun r_3v1611 zr_3v1611 tr_3v1611 => ?_)
        unfold pX5_changesToOthers_28
        obtain ⟨z3123, t3124, f3125⟩ := t_add tx2 tr_3v1611
        first | replace f3125 := f3125 (by omega) | clear f3125
        intro x2_1v1613 ex2_1v1613
        have tx2_1v1613 : Ti x2_1v1613 z3123 := by rw [ex2_1v1613]; exact t3124
        obtain ⟨z3126, t3127, f3128⟩ := t_add tx3 lit_1
        first | replace f3128 := f3128 (by omega) | clear f3128
        intro x3_2v1614 ex3_2v1614
        have tx3_2v1614 : Ti x3_2v1614 z3126 := by rw [ex3_2v1614]; exact t3127
        exact ih _ _ _ _ _ _  tx1 tx2_1v1613 tx3_2v1614 hI (by omega) (by omega) (by omega)
      · replace c3122 := c_eq tx3 tx1 c3122
        unfold pX5_changesToOthers_28
        obtain ⟨z3129, t3130, f3131⟩ := t_add tx2 lit_0
        first | replace f3131 := f3131 (by omega) | clear f3131
        intro x2_1v1615 ex2_1v1615
        have tx2_1v1615 : Ti x2_1v1615 z3129 := by rw [ex2_1v1615]; exact t3130
        obtain ⟨z3132, t3133, f3134⟩ := t_add tx3 lit_1
        first | replace f3134 := f3134 (by omega) | clear f3134
        intro x3_2v1616 ex3_2v1616
        have tx3_2v1616 : Ti x3_2v1616 z3132 := by rw [ex3_2v1616]; exact t3133
        exact ih _ _ _ _ _ _  tx1 tx2_1v1615 tx3_2v1616 hI (by omega) (by omega) (by omega)
set_option maxHeartbeats 4000000 in
set_option maxRecDepth 100000 in
theorem sX5_changesToOthers {T D : Int} {k : Nat} {post : Int32 → Wd → Prop} {x1 : Int32} {zx1 : Int} {w : Wd}  (tx1 : Ti x1 zx1) (hI : IX k T D w) (h0 : 0 ≤ zx1 ∧ zx1 ≤ 6) (hp : ∀ (r : Int32) (zr : Int), Ti r zr → post r w) : pX5_changesToOthers   post  x1 w := by
  unfold pX5_changesToOthers
  have hk := ix_k hI
  exact ⟨70000, sX5_changesToOthers_4    (hp := hp) 70000 _ _ _ _ _ _  tx1 lit_0 lit_0 hI (by omega) (by omega) (by omega)⟩
set_option maxHeartbeats 4000000 in
set_option maxRecDepth 100000 in
theorem sX10_centre_45 {T D : Int} {k : Nat} {post : Int32 → Wd → Prop}   (hp : ∀ (r : Int32) (zr : Int) (w9 : Wd), Ti r zr → IX k T D w9 → post r w9) : ∀ (n : Nat) (x1 : Int32) (x3 : Int32) (x4 : Int32) (zx1 : Int) (zx3 : Int) (zx4 : Int) (w : Wd), Ti x1 zx1 → Ti x3 zx3 → Ti x4 zx4 → IX k T D w → (0 ≤ zx4 ∧ zx4 ≤ 7) → (0 ≤ zx3 ∧ zx3 ≤ 6) → (8 - zx4) < (n : Int) → pX10_centre_45   post  n x1 x3 x4 w := by
  intro n
  induction n with
  | zero =>
    intro x1 x3 x4 zx1 zx3 zx4 w tx1 tx3 tx4 hI h0 h1 hm
    exact absurd hm (by omega)
  | succ n ih =>
    intro x1 x3 x4 zx1 zx3 zx4 w tx1 tx3 tx4 hI h0 h1 hm
    unfold pX10_centre_45
    have hk := ix_k hI
    obtain ⟨z3135, t3136⟩ := t_any (w.1 90 0)
    have f3137 := ixg_90_0 hI t3136
    refine ⟨fun c3138 => ?_, fun c3138 => ?_⟩
    · replace c3138 := c_le t3136 tx4 c3138
      refine ⟨fun c3139 => ?_, fun c3139 => ?_⟩
      · replace c3139 := c_neq tx1 lit_0 c3139
        refine sX5_changesToOthers   (hI := hI) (tx1 := tx3) (h0 := (by omega)) (hp := fun r_3v1617 zr_3v1617 tr_3v1617 => ?_)
        exact hp _ _ _  tr_3v1617 hI 
      · replace c3139 := c_eq tx1 lit_0 c3139
        exact hp _ _ _  tx3 hI 
    · replace c3138 := c_nle t3136 tx4 c3138
      refine sX5_changesToOthers   (hI := hI) (tx1 := tx4) (h0 := (by omega)) (hp := fun r_5v1619 zr_5v1619 tr_5v1619 => ?_)
      refine sX5_changesToOthers   (hI := hI) (tx1 := tx3) (h0 := (by omega)) (hp := fun r_7v1623 zr_7v1623 tr_7v1623 => ?_)
      refine ⟨fun c3140 => ?_, fun c3140 => ?_⟩
      · replace c3140 := c_le tr_7v1623 tr_5v1619 c3140
        unfold pX10_centre_80
        obtain ⟨z3141, t3142, f3143⟩ := t_add tx4 lit_1
        first | replace f3143 := f3143 (by omega) | clear f3143
        intro x4_1v1625 ex4_1v1625
        have tx4_1v1625 : Ti x4_1v1625 z3141 := by rw [ex4_1v1625]; exact t3142
        exact ih _ _ _ _ _ _ _ tx1 tx3 tx4_1v1625 hI (by omega) (by omega) (by omega)
      · replace c3140 := c_nle tr_7v1623 tr_5v1619 c3140
        unfold pX10_centre_80
        obtain ⟨z3144, t3145, f3146⟩ := t_add tx4 lit_1
        first | replace f3146 := f3146 (by omega) | clear f3146
        intro x4_1v1626 ex4_1v1626
        have tx4_1v1626 : Ti x4_1v1626 z3144 := by rw [ex4_1v1626]; exact t3145
        exact ih _ _ _ _ _ _ _ tx1 tx4 tx4_1v1626 hI (by omega) (by omega) (by omega)
set_option maxHeartbeats 4000000 in
set_option maxRecDepth 100000 in
theorem sX10_centre {T D : Int} {k : Nat} {post : Int32 → Wd → Prop} {x1 : Int32} {zx1 : Int} {x2 : Int32} {zx2 : Int} {w : Wd}  (tx1 : Ti x1 zx1) (tx2 : Ti x2 zx2) (hI : IX k T D w)  (hp : ∀ (r : Int32) (zr : Int) (w9 : Wd), Ti r zr → IX k T D w9 → post r w9) : pX10_centre   post  x1 x2 w := by
  unfold pX10_centre
  have hk := ix_k hI
  obtain ⟨z3147, t3148⟩ := t_any (w.1 (rl (w.2.2.2.2 0)) 0)
  have f3149 := ixg_r0 hI t3148
  refine sX5_gather   (hI := hI) (tx2 := tx2) (tx3 := t3148)  (hp := fun  w_1v1627   hIw_1v1627  => ?_)
  obtain ⟨z3150, t3151⟩ := t_any (w_1v1627.1 90 0)
  have f3152 := ixg_90_0 hIw_1v1627 t3151
  refine ⟨fun c3153 => ?_, fun c3153 => ?_⟩
  · replace c3153 := c_eq t3151 lit_0 c3153
    exact hp _ _ _  lit_m1 hIw_1v1627 
  · replace c3153 := c_neq t3151 lit_0 c3153
    refine ⟨fun c3154 => ?_, fun c3154 => ?_⟩
    · replace c3154 := c_lt tx1 lit_0 c3154
      exact hp _ _ _  lit_m1 hIw_1v1627 
    · replace c3154 := c_nlt tx1 lit_0 c3154
      refine ⟨fun c3155 => ?_, fun c3155 => ?_⟩
      · replace c3155 := c_le tx1 lit_1 c3155
        exact ⟨70000, sX10_centre_45    (hp := hp) 70000 _ _ _ _ _ _ _ tx1 lit_0 lit_1 hIw_1v1627 (by omega) (by omega) (by omega)⟩
      · replace c3155 := c_nle tx1 lit_1 c3155
        exact hp _ _ _  lit_m1 hIw_1v1627 
set_option maxHeartbeats 4000000 in
set_option maxRecDepth 100000 in
theorem sX5_clanCount_4 {T D : Int} {k : Nat} {post : Int32 → Wd → Prop} {w : Wd}  (hp : ∀ (r : Int32) (zr : Int), Ti r zr → post r w) : ∀ (n : Nat) (x1 : Int32) (x2 : Int32) (zx1 : Int) (zx2 : Int), Ti x1 zx1 → Ti x2 zx2 → IX k T D w → (0 ≤ zx2 ∧ zx2 ≤ 7) → (8 - zx2) < (n : Int) → pX5_clanCount_4   post  n x1 x2 w := by
  intro n
  induction n with
  | zero =>
    intro x1 x2 zx1 zx2  tx1 tx2 hI h0 hm
    exact absurd hm (by omega)
  | succ n ih =>
    intro x1 x2 zx1 zx2  tx1 tx2 hI h0 hm
    unfold pX5_clanCount_4
    have hk := ix_k hI
    obtain ⟨z3156, t3157⟩ := t_any (w.1 90 0)
    have f3158 := ixg_90_0 hI t3157
    refine ⟨fun c3159 => ?_, fun c3159 => ?_⟩
    · replace c3159 := c_le t3157 tx2 c3159
      exact hp _ _ tx1 
    · replace c3159 := c_nle t3157 tx2 c3159
      refine ⟨vp_of tx2 (by omega) (by omega), ?_⟩
      obtain ⟨z3160, t3161⟩ := t_any (w.2.1 100 x2.toNatClampNeg)
      refine ⟨fun c3162 => ?_, fun c3162 => ?_⟩
      · replace c3162 := c_neq t3161 tx2 c3162
        unfold pX5_clanCount_28
        obtain ⟨z3163, t3164, f3165⟩ := t_add tx1 lit_0
        first | replace f3165 := f3165 (by omega) | clear f3165
        intro x1_1v1628 ex1_1v1628
        have tx1_1v1628 : Ti x1_1v1628 z3163 := by rw [ex1_1v1628]; exact t3164
        obtain ⟨z3166, t3167, f3168⟩ := t_add tx2 lit_1
        first | replace f3168 := f3168 (by omega) | clear f3168
        intro x2_2v1629 ex2_2v1629
        have tx2_2v1629 : Ti x2_2v1629 z3166 := by rw [ex2_2v1629]; exact t3167
        exact ih _ _ _ _  tx1_1v1628 tx2_2v1629 hI (by omega) (by omega)
      · replace c3162 := c_eq t3161 tx2 c3162
        unfold pX5_clanCount_28
        obtain ⟨z3169, t3170, f3171⟩ := t_add tx1 lit_1
        first | replace f3171 := f3171 (by omega) | clear f3171
        intro x1_1v1630 ex1_1v1630
        have tx1_1v1630 : Ti x1_1v1630 z3169 := by rw [ex1_1v1630]; exact t3170
        obtain ⟨z3172, t3173, f3174⟩ := t_add tx2 lit_1
        first | replace f3174 := f3174 (by omega) | clear f3174
        intro x2_2v1631 ex2_2v1631
        have tx2_2v1631 : Ti x2_2v1631 z3172 := by rw [ex2_2v1631]; exact t3173
        exact ih _ _ _ _  tx1_1v1630 tx2_2v1631 hI (by omega) (by omega)
set_option maxHeartbeats 4000000 in
set_option maxRecDepth 100000 in
theorem sX5_clanCount {T D : Int} {k : Nat} {post : Int32 → Wd → Prop}  {w : Wd}   (hI : IX k T D w)  (hp : ∀ (r : Int32) (zr : Int), Ti r zr → post r w) : pX5_clanCount   post   w := by
  unfold pX5_clanCount
  have hk := ix_k hI
  exact ⟨70000, sX5_clanCount_4    (hp := hp) 70000 _ _ _ _  lit_0 lit_0 hI (by omega) (by omega)⟩
set_option maxHeartbeats 4000000 in
set_option maxRecDepth 100000 in
theorem sX5_joinClan_9 {T D : Int} {k : Nat} {post : Wd → Prop}   (hp : ∀ (w9 : Wd), IX k T D w9 → post w9) : ∀ (n : Nat) (x1 : Int32) (x2 : Int32) (x3 : Int32) (x4 : Int32) (zx1 : Int) (zx2 : Int) (zx3 : Int) (zx4 : Int) (w : Wd), Ti x1 zx1 → Ti x2 zx2 → Ti x3 zx3 → Ti x4 zx4 → IX k T D w → (0 ≤ zx4 ∧ zx4 ≤ 7) → (8 - zx4) < (n : Int) → pX5_joinClan_9   post  n x1 x2 x3 x4 w := by
  intro n
  induction n with
  | zero =>
    intro x1 x2 x3 x4 zx1 zx2 zx3 zx4 w tx1 tx2 tx3 tx4 hI h0 hm
    exact absurd hm (by omega)
  | succ n ih =>
    intro x1 x2 x3 x4 zx1 zx2 zx3 zx4 w tx1 tx2 tx3 tx4 hI h0 hm
    unfold pX5_joinClan_9
    have hk := ix_k hI
    obtain ⟨z3175, t3176⟩ := t_any (w.1 90 0)
    have f3177 := ixg_90_0 hI t3176
    refine ⟨fun c3178 => ?_, fun c3178 => ?_⟩
    · replace c3178 := c_le t3176 tx4 c3178
      exact hp  _   hI 
    · replace c3178 := c_nle t3176 tx4 c3178
      refine ⟨vp_of tx4 (by omega) (by omega), ?_⟩
      obtain ⟨z3179, t3180⟩ := t_any (w.2.1 100 x4.toNatClampNeg)
      refine ⟨fun c3181 => ?_, fun c3181 => ?_⟩
      · replace c3181 := c_eq t3180 tx1 c3181
        unfold pX5_joinClan_40
        refine ⟨vp_of tx4 (by omega) (by omega), ?_⟩
        intro w_1v1632 ew_1v1632
        have hIw_1v1632 := ixs_A hI ew_1v1632 (by decide)
        unfold pX5_joinClan_48
        obtain ⟨z3182, t3183, f3184⟩ := t_add tx4 lit_1
        first | replace f3184 := f3184 (by omega) | clear f3184
        intro x4_1v1633 ex4_1v1633
        have tx4_1v1633 : Ti x4_1v1633 z3182 := by rw [ex4_1v1633]; exact t3183
        exact ih _ _ _ _ _ _ _ _ _ tx1 tx2 tx3 tx4_1v1633 hIw_1v1632 (by omega) (by omega)
      · replace c3181 := c_neq t3180 tx1 c3181
        refine ⟨vp_of tx4 (by omega) (by omega), ?_⟩
        refine ⟨fun c3185 => ?_, fun c3185 => ?_⟩
        · replace c3185 := c_neq t3180 tx2 c3185
          unfold pX5_joinClan_48
          obtain ⟨z3186, t3187, f3188⟩ := t_add tx4 lit_1
          first | replace f3188 := f3188 (by omega) | clear f3188
          intro x4_1v1634 ex4_1v1634
          have tx4_1v1634 : Ti x4_1v1634 z3186 := by rw [ex4_1v1634]; exact t3187
          exact ih _ _ _ _ _ _ _ _ _ tx1 tx2 tx3 tx4_1v1634 hI (by omega) (by omega)
        · replace c3185 := c_eq t3180 tx2 c3185
          unfold pX5_joinClan_40
          refine ⟨vp_of tx4 (by omega) (by omega), ?_⟩
          intro w_1v1635 ew_1v1635
          have hIw_1v1635 := ixs_A hI ew_1v1635 (by decide)
          unfold pX5_joinClan_48
          obtain ⟨z3189, t3190, f3191⟩ := t_add tx4 lit_1
          first | replace f3191 := f3191 (by omega) | clear f3191
          intro x4_1v1636 ex4_1v1636
          have tx4_1v1636 : Ti x4_1v1636 z3189 := by rw [ex4_1v1636]; exact t3190
          exact ih _ _ _ _ _ _ _ _ _ tx1 tx2 tx3 tx4_1v1636 hIw_1v1635 (by omega) (by omega)
set_option maxHeartbeats 4000000 in
set_option maxRecDepth 100000 in
theorem sX5_joinClan {T D : Int} {k : Nat} {post : Wd → Prop} {x1 : Int32} {zx1 : Int} {x2 : Int32} {zx2 : Int} {w : Wd}  (tx1 : Ti x1 zx1) (tx2 : Ti x2 zx2) (hI : IX k T D w)  (hp : ∀ (w9 : Wd), IX k T D w9 → post w9) : pX5_joinClan   post  x1 x2 w := by
  unfold pX5_joinClan
  have hk := ix_k hI
  obtain ⟨z3192, t3193, f3194⟩ := t_ite tx2 tx1 tx2 tx1
  intro x3_1v1637 ex3_1v1637
  have tx3_1v1637 : Ti x3_1v1637 z3192 := by rw [ex3_1v1637]; exact t3193
  exact ⟨70000, sX5_joinClan_9    (hp := hp) 70000 _ _ _ _ _ _ _ _ _ tx1 tx2 tx3_1v1637 lit_0 hI (by omega) (by omega)⟩
set_option maxHeartbeats 4000000 in
set_option maxRecDepth 100000 in
theorem sX5_joinClans_35 {T D : Int} {k : Nat} {k25 : Int32 → Int32 → Wd → Prop} {M25 : Int} {post : Wd → Prop}  (hk25 : ∀ (x1 : Int32) (x2 : Int32) (zx1 : Int) (zx2 : Int) (w : Wd), Ti x1 zx1 → Ti x2 zx2 → IX k T D w → (0 ≤ zx2 ∧ zx2 ≤ 7) → (8 - zx2) < M25 → k25 x1 x2 w) (hp : ∀ (w9 : Wd), IX k T D w9 → post w9) : ∀ (n : Nat) (x1 : Int32) (x2 : Int32) (x3 : Int32) (zx1 : Int) (zx2 : Int) (zx3 : Int) (w : Wd), Ti x1 zx1 → Ti x2 zx2 → Ti x3 zx3 → IX k T D w → (0 ≤ zx3 ∧ zx3 ≤ 7) → (zx2 ≤ 6) → (0 ≤ zx2 ∧ zx2 ≤ 7) → ((8 - zx2) ≤ M25) → (8 - zx3) < (n : Int) → pX5_joinClans_35 k25  post  n x1 x2 x3 w := by
  intro n
  induction n with
  | zero =>
    intro x1 x2 x3 zx1 zx2 zx3 w tx1 tx2 tx3 hI h0 h1 h2 h3 hm
    exact absurd hm (by omega)
  | succ n ih =>
    intro x1 x2 x3 zx1 zx2 zx3 w tx1 tx2 tx3 hI h0 h1 h2 h3 hm
    unfold pX5_joinClans_35
    have hk := ix_k hI
    refine ⟨fun c3195 => ?_, fun c3195 => ?_⟩
    · replace c3195 := c_le tx2 tx3 c3195
      obtain ⟨z3196, t3197, f3198⟩ := t_add tx2 lit_1
      first | replace f3198 := f3198 (by omega) | clear f3198
      intro x2_2v1638 ex2_2v1638
      have tx2_2v1638 : Ti x2_2v1638 z3196 := by rw [ex2_2v1638]; exact t3197
      exact hk25 _ _ _ _ _ tx1 tx2_2v1638 hI (by omega) (by omega)
    · replace c3195 := c_nle tx2 tx3 c3195
      refine sX5_changesFrom   (hI := hI) (tx1 := tx2) (tx2 := tx3) (h0 := (by omega)) (h1 := (by omega)) (hp := fun r_3v1639 zr_3v1639 tr_3v1639 => ?_)
      refine sX5_changesFrom   (hI := hI) (tx1 := tx3) (tx2 := tx2) (h0 := (by omega)) (h1 := (by omega)) (hp := fun r_5v1644 zr_5v1644 tr_5v1644 => ?_)
      obtain ⟨z3199, t3200, f3201⟩ := t_ite tr_5v1644 tr_3v1639 tr_5v1644 tr_3v1639
      refine ⟨fun c3202 => ?_, fun c3202 => ?_⟩
      · replace c3202 := c_lt tx1 t3200 c3202
        unfold pX5_joinClans_75
        obtain ⟨z3203, t3204, f3205⟩ := t_add tx3 lit_1
        first | replace f3205 := f3205 (by omega) | clear f3205
        intro x3_1v1648 ex3_1v1648
        have tx3_1v1648 : Ti x3_1v1648 z3203 := by rw [ex3_1v1648]; exact t3204
        exact ih _ _ _ _ _ _ _ tx1 tx2 tx3_1v1648 hI (by omega) (by omega) (by omega) (by omega) (by omega)
      · replace c3202 := c_nlt tx1 t3200 c3202
        refine ⟨vp_of tx2 (by omega) (by omega), ?_⟩
        refine ⟨vp_of tx3 (by omega) (by omega), ?_⟩
        obtain ⟨z3206, t3207⟩ := t_any (w.2.1 100 x2.toNatClampNeg)
        obtain ⟨z3208, t3209⟩ := t_any (w.2.1 100 x3.toNatClampNeg)
        refine sX5_joinClan   (hI := hI) (tx1 := t3207) (tx2 := t3209)  (hp := fun  w_8v1647   hIw_8v1647  => ?_)
        unfold pX5_joinClans_75
        obtain ⟨z3210, t3211, f3212⟩ := t_add tx3 lit_1
        first | replace f3212 := f3212 (by omega) | clear f3212
        intro x3_1v1649 ex3_1v1649
        have tx3_1v1649 : Ti x3_1v1649 z3210 := by rw [ex3_1v1649]; exact t3211
        exact ih _ _ _ _ _ _ _ tx1 tx2 tx3_1v1649 hIw_8v1647 (by omega) (by omega) (by omega) (by omega) (by omega)
set_option maxHeartbeats 4000000 in
set_option maxRecDepth 100000 in
theorem sX5_joinClans_25 {T D : Int} {k : Nat} {post : Wd → Prop}   (hp : ∀ (w9 : Wd), IX k T D w9 → post w9) : ∀ (n : Nat) (x1 : Int32) (x2 : Int32) (zx1 : Int) (zx2 : Int) (w : Wd), Ti x1 zx1 → Ti x2 zx2 → IX k T D w → (0 ≤ zx2 ∧ zx2 ≤ 7) → (8 - zx2) < (n : Int) → pX5_joinClans_25   post  n x1 x2 w := by
  intro n
  induction n with
  | zero =>
    intro x1 x2 zx1 zx2 w tx1 tx2 hI h0 hm
    exact absurd hm (by omega)
  | succ n ih =>
    intro x1 x2 zx1 zx2 w tx1 tx2 hI h0 hm
    unfold pX5_joinClans_25
    have hk := ix_k hI
    obtain ⟨z3213, t3214⟩ := t_any (w.1 90 0)
    have f3215 := ixg_90_0 hI t3214
    refine ⟨fun c3216 => ?_, fun c3216 => ?_⟩
    · replace c3216 := c_le t3214 tx2 c3216
      exact hp  _   hI 
    · replace c3216 := c_nle t3214 tx2 c3216
      exact ⟨70000, sX5_joinClans_35  (M25 := (n : Int)) (hk25 := ih)  (hp := hp) 70000 _ _ _ _ _ _ _ tx1 tx2 lit_0 hI (by omega) (by omega) (by omega) (by omega) (by omega)⟩
