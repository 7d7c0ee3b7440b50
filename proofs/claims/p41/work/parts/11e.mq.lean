set_option maxHeartbeats 4000000 in
set_option maxRecDepth 100000 in
theorem sX11_nearest_27 {T W H P S M : Int} {post : Int32 → Wd → Prop} {w : Wd}  (hp : ∀ (r : Int32) (zr : Int), Ti r zr → post r w) : ∀ (n : Nat) (x1 : Int32) (x2 : Int32) (x3 : Int32) (x4 : Int32) (x5 : Int32) (zx1 : Int) (zx2 : Int) (zx3 : Int) (zx4 : Int) (zx5 : Int), Ti x1 zx1 → Ti x2 zx2 → Ti x3 zx3 → Ti x4 zx4 → Ti x5 zx5 → IM T W H P S M w → (0 ≤ zx5 ∧ zx5 ≤ 48) → (-1 ≤ zx3) → (49 - zx5) < (n : Int) → pX11_nearest_27   post  n x1 x2 x3 x4 x5 w := by
  intro n
  induction n with
  | zero =>
    intro x1 x2 x3 x4 x5 zx1 zx2 zx3 zx4 zx5  tx1 tx2 tx3 tx4 tx5 hI h0 h1 hm
    exact absurd hm (by omega)
  | succ n ih =>
    intro x1 x2 x3 x4 x5 zx1 zx2 zx3 zx4 zx5  tx1 tx2 tx3 tx4 tx5 hI h0 h1 hm
    unfold pX11_nearest_27
    have hk := im_k hI
    obtain ⟨z920, t921⟩ := t_any (w.2.1 341 (216 : Int32).toNatClampNeg)
    have f922 := img_216 hI t921
    obtain ⟨z923, t924, f925⟩ := t_mul lit_2 t921
    first | replace f925 := f925 (by omega) | clear f925
    refine ⟨fun c926 => ?_, fun c926 => ?_⟩
    · replace c926 := c_le t924 tx5 c926
      refine ⟨fun c927 => ?_, fun c927 => ?_⟩
      · replace c927 := c_neq tx2 lit_0 c927
        refine ⟨fun c928 => ?_, fun c928 => ?_⟩
        · replace c928 := c_neq tx2 lit_1 c928
          refine ⟨nz_of t921 (by omega), ?_⟩
          obtain ⟨z929, t930, f931⟩ := t_divv tx3 t921
          first | replace f931 := f931 (by omega) | clear f931
          exact hp _ _ t930 
        · replace c928 := c_eq tx2 lit_1 c928
          refine ⟨nz_of t921 (by omega), ?_⟩
          obtain ⟨z932, t933, f934⟩ := t_remv tx3 t921
          first | replace f934 := f934 (by omega) | clear f934
          exact hp _ _ t933 
      · replace c927 := c_eq tx2 lit_0 c927
        exact hp _ _ tx4 
    · replace c926 := c_nle t924 tx5 c926
      refine ⟨nz_of t921 (by omega), ?_⟩
      obtain ⟨z935, t936, f937⟩ := t_remv tx5 t921
      first | replace f937 := f937 (by omega) | clear f937
      intro x6_4v546 ex6_4v546
      have tx6_4v546 : Ti x6_4v546 z935 := by rw [ex6_4v546]; exact t936
      refine ⟨fun c938 => ?_, fun c938 => ?_⟩
      · replace c938 := c_le t921 tx5 c938
        refine sX11_rowOf   (hI := hI) (tx1 := tx6_4v546) (h0 := (by omega)) (hp := fun r_6v547 zr_6v547 tr_6v547 p939 => ?_)
        unfold pX11_nearest_88
        obtain ⟨z940, t941⟩ := t_any (x1 ^^^ r_6v547)
        refine sX11_bitsOf   (hI := hI) (tx0 := t941)  (hp := fun r_1v553 zr_1v553 tr_1v553 => ?_)
        refine ⟨fun c942 => ?_, fun c942 => ?_⟩
        · replace c942 := c_lt tx3 lit_0 c942
          unfold pX11_nearest_108
          unfold pX11_nearest_115
          obtain ⟨z943, t944, f945⟩ := t_add tx5 lit_1
          first | replace f945 := f945 (by omega) | clear f945
          intro x5_1v555 ex5_1v555
          have tx5_1v555 : Ti x5_1v555 z943 := by rw [ex5_1v555]; exact t944
          exact ih _ _ _ _ _ _ _ _ _ _  tx1 tx2 tx5 tr_1v553 tx5_1v555 hI (by omega) (by omega) (by omega)
        · replace c942 := c_nlt tx3 lit_0 c942
          refine ⟨fun c946 => ?_, fun c946 => ?_⟩
          · replace c946 := c_lt tr_1v553 tx4 c946
            unfold pX11_nearest_108
            unfold pX11_nearest_115
            obtain ⟨z947, t948, f949⟩ := t_add tx5 lit_1
            first | replace f949 := f949 (by omega) | clear f949
            intro x5_1v556 ex5_1v556
            have tx5_1v556 : Ti x5_1v556 z947 := by rw [ex5_1v556]; exact t948
            exact ih _ _ _ _ _ _ _ _ _ _  tx1 tx2 tx5 tr_1v553 tx5_1v556 hI (by omega) (by omega) (by omega)
          · replace c946 := c_nlt tr_1v553 tx4 c946
            unfold pX11_nearest_115
            obtain ⟨z950, t951, f952⟩ := t_add tx5 lit_1
            first | replace f952 := f952 (by omega) | clear f952
            intro x5_1v557 ex5_1v557
            have tx5_1v557 : Ti x5_1v557 z950 := by rw [ex5_1v557]; exact t951
            exact ih _ _ _ _ _ _ _ _ _ _  tx1 tx2 tx3 tx4 tx5_1v557 hI (by omega) (by omega) (by omega)
      · replace c938 := c_nle t921 tx5 c938
        refine sX11_rowOf   (hI := hI) (tx1 := tx6_4v546) (h0 := (by omega)) (hp := fun r_8v549 zr_8v549 tr_8v549 p953 => ?_)
        refine sX11_turnedRow   (hI := hI) (tx1 := tr_8v549)  (hp := fun r_10v558 zr_10v558 tr_10v558 => ?_)
        unfold pX11_nearest_88
        obtain ⟨z954, t955⟩ := t_any (x1 ^^^ r_10v558)
        refine sX11_bitsOf   (hI := hI) (tx0 := t955)  (hp := fun r_1v560 zr_1v560 tr_1v560 => ?_)
        refine ⟨fun c956 => ?_, fun c956 => ?_⟩
        · replace c956 := c_lt tx3 lit_0 c956
          unfold pX11_nearest_108
          unfold pX11_nearest_115
          obtain ⟨z957, t958, f959⟩ := t_add tx5 lit_1
          first | replace f959 := f959 (by omega) | clear f959
          intro x5_1v562 ex5_1v562
          have tx5_1v562 : Ti x5_1v562 z957 := by rw [ex5_1v562]; exact t958
          exact ih _ _ _ _ _ _ _ _ _ _  tx1 tx2 tx5 tr_1v560 tx5_1v562 hI (by omega) (by omega) (by omega)
        · replace c956 := c_nlt tx3 lit_0 c956
          refine ⟨fun c960 => ?_, fun c960 => ?_⟩
          · replace c960 := c_lt tr_1v560 tx4 c960
            unfold pX11_nearest_108
            unfold pX11_nearest_115
            obtain ⟨z961, t962, f963⟩ := t_add tx5 lit_1
            first | replace f963 := f963 (by omega) | clear f963
            intro x5_1v563 ex5_1v563
            have tx5_1v563 : Ti x5_1v563 z961 := by rw [ex5_1v563]; exact t962
            exact ih _ _ _ _ _ _ _ _ _ _  tx1 tx2 tx5 tr_1v560 tx5_1v563 hI (by omega) (by omega) (by omega)
          · replace c960 := c_nlt tr_1v560 tx4 c960
            unfold pX11_nearest_115
            obtain ⟨z964, t965, f966⟩ := t_add tx5 lit_1
            first | replace f966 := f966 (by omega) | clear f966
            intro x5_1v564 ex5_1v564
            have tx5_1v564 : Ti x5_1v564 z964 := by rw [ex5_1v564]; exact t965
            exact ih _ _ _ _ _ _ _ _ _ _  tx1 tx2 tx3 tx4 tx5_1v564 hI (by omega) (by omega) (by omega)
set_option maxHeartbeats 4000000 in
set_option maxRecDepth 100000 in
theorem sX11_nearest {T W H P S M : Int} {post : Int32 → Wd → Prop} {x1 : Int32} {zx1 : Int} {x2 : Int32} {zx2 : Int} {w : Wd}  (tx1 : Ti x1 zx1) (tx2 : Ti x2 zx2) (hI : IM T W H P S M w)  (hp : ∀ (r : Int32) (zr : Int), Ti r zr → post r w) : pX11_nearest   post  x1 x2 w := by
  unfold pX11_nearest
  have hk := im_k hI
  refine sX11_isRow   (hI := hI) (tx1 := tx1)  (hp := fun r_1v565 zr_1v565 tr_1v565 p967 => ?_)
  refine ⟨fun c968 => ?_, fun c968 => ?_⟩
  · replace c968 := c_eq tr_1v565 lit_0 c968
    exact hp _ _ lit_m1 
  · replace c968 := c_neq tr_1v565 lit_0 c968
    refine sX11_isIn   (hI := hI) (tx0 := tx2) (tx1 := lit_0) (tx2 := lit_2)  (hp := fun r_4v569 zr_4v569 tr_4v569 p969 p970 => ?_)
    refine ⟨fun c971 => ?_, fun c971 => ?_⟩
    · replace c971 := c_neq tr_4v569 lit_0 c971
      exact ⟨70000, sX11_nearest_27    (hp := hp) 70000 _ _ _ _ _ _ _ _ _ _  tx1 tx2 lit_m1 lit_0 lit_0 hI (by omega) (by omega) (by omega)⟩
    · replace c971 := c_eq tr_4v569 lit_0 c971
      exact hp _ _ lit_m1 
set_option maxHeartbeats 4000000 in
set_option maxRecDepth 100000 in
theorem sX11_common_78 {T W H P S M : Int} {post : Int32 → Wd → Prop} {w : Wd}  (hp : ∀ (r : Int32) (zr : Int), Ti r zr → post r w) : ∀ (n : Nat) (x1 : Int32) (x2 : Int32) (x3 : Int32) (zx1 : Int) (zx2 : Int) (zx3 : Int), Ti x1 zx1 → Ti x2 zx2 → Ti x3 zx3 → IM T W H P S M w → (0 ≤ zx3 ∧ zx3 ≤ 40) → (41 - zx3) < (n : Int) → pX11_common_78   post  n x1 x2 x3 w := by
  intro n
  induction n with
  | zero =>
    intro x1 x2 x3 zx1 zx2 zx3  tx1 tx2 tx3 hI h0 hm
    exact absurd hm (by omega)
  | succ n ih =>
    intro x1 x2 x3 zx1 zx2 zx3  tx1 tx2 tx3 hI h0 hm
    unfold pX11_common_78
    have hk := im_k hI
    obtain ⟨z972, t973⟩ := t_any (w.2.1 341 (217 : Int32).toNatClampNeg)
    have f974 := img_217 hI t973
    refine ⟨fun c975 => ?_, fun c975 => ?_⟩
    · replace c975 := c_le t973 tx3 c975
      exact hp _ _ tx2 
    · replace c975 := c_nle t973 tx3 c975
      refine ⟨fun c976 => ?_, fun c976 => ?_⟩
      · replace c976 := c_neq tx1 lit_2 c976
        exact hp _ _ tx2 
      · replace c976 := c_eq tx1 lit_2 c976
        obtain ⟨z977, t978, f979⟩ := t_mul lit_3 tx3
        first | replace f979 := f979 (by omega) | clear f979
        obtain ⟨z980, t981, f982⟩ := t_add lit_96 t978
        first | replace f982 := f982 (by omega) | clear f982
        refine ⟨vp_of t981 (by omega) (by omega), ?_⟩
        obtain ⟨z983, t984⟩ := t_any (x2 &&& (w.2.1 341 ((96 : Int32) + ((3 : Int32) * x3)).toNatClampNeg))
        intro x2_3v571 ex2_3v571
        have tx2_3v571 : Ti x2_3v571 z983 := by rw [ex2_3v571]; exact t984
        obtain ⟨z985, t986, f987⟩ := t_add tx3 lit_1
        first | replace f987 := f987 (by omega) | clear f987
        intro x3_4v572 ex3_4v572
        have tx3_4v572 : Ti x3_4v572 z985 := by rw [ex3_4v572]; exact t986
        exact ih _ _ _ _ _ _  tx1 tx2_3v571 tx3_4v572 hI (by omega) (by omega)
set_option maxHeartbeats 4000000 in
set_option maxRecDepth 100000 in
theorem sX11_common_31 {T W H P S M : Int} {post : Int32 → Wd → Prop} {w : Wd}  (hp : ∀ (r : Int32) (zr : Int), Ti r zr → post r w) : ∀ (n : Nat) (x1 : Int32) (x2 : Int32) (x3 : Int32) (zx1 : Int) (zx2 : Int) (zx3 : Int), Ti x1 zx1 → Ti x2 zx2 → Ti x3 zx3 → IM T W H P S M w → (0 ≤ zx3 ∧ zx3 ≤ 24) → (25 - zx3) < (n : Int) → pX11_common_31   post  n x1 x2 x3 w := by
  intro n
  induction n with
  | zero =>
    intro x1 x2 x3 zx1 zx2 zx3  tx1 tx2 tx3 hI h0 hm
    exact absurd hm (by omega)
  | succ n ih =>
    intro x1 x2 x3 zx1 zx2 zx3  tx1 tx2 tx3 hI h0 hm
    unfold pX11_common_31
    have hk := im_k hI
    obtain ⟨z988, t989⟩ := t_any (w.2.1 341 (216 : Int32).toNatClampNeg)
    have f990 := img_216 hI t989
    refine ⟨fun c991 => ?_, fun c991 => ?_⟩
    · replace c991 := c_le t989 tx3 c991
      unfold pX11_common_76
      exact ⟨70000, sX11_common_78    (hp := hp) 70000 _ _ _ _ _ _  tx1 tx2 lit_0 hI (by omega) (by omega)⟩
    · replace c991 := c_nle t989 tx3 c991
      refine ⟨fun c992 => ?_, fun c992 => ?_⟩
      · replace c992 := c_le lit_2 tx1 c992
        unfold pX11_common_76
        exact ⟨70000, sX11_common_78    (hp := hp) 70000 _ _ _ _ _ _  tx1 tx2 lit_0 hI (by omega) (by omega)⟩
      · replace c992 := c_nle lit_2 tx1 c992
        refine ⟨fun c993 => ?_, fun c993 => ?_⟩
        · replace c993 := c_neq tx1 lit_0 c993
          refine sX11_rowOf   (hI := hI) (tx1 := tx3) (h0 := (by omega)) (hp := fun r_4v573 zr_4v573 tr_4v573 p994 => ?_)
          unfold pX11_common_69
          obtain ⟨z995, t996, f997⟩ := t_add tx3 lit_1
          first | replace f997 := f997 (by omega) | clear f997
          intro x3_1v577 ex3_1v577
          have tx3_1v577 : Ti x3_1v577 z995 := by rw [ex3_1v577]; exact t996
          obtain ⟨z998, t999, f1000⟩ := t_orW hI tx2 tr_4v573
          first | replace f1000 := f1000 (by omega) | clear f1000
          exact ih _ _ _ _ _ _  tx1 t999 tx3_1v577 hI (by omega) (by omega)
        · replace c993 := c_eq tx1 lit_0 c993
          refine sX11_rowOf   (hI := hI) (tx1 := tx3) (h0 := (by omega)) (hp := fun r_6v575 zr_6v575 tr_6v575 p1001 => ?_)
          unfold pX11_common_69
          obtain ⟨z1002, t1003, f1004⟩ := t_add tx3 lit_1
          first | replace f1004 := f1004 (by omega) | clear f1004
          intro x3_1v578 ex3_1v578
          have tx3_1v578 : Ti x3_1v578 z1002 := by rw [ex3_1v578]; exact t1003
          obtain ⟨z1005, t1006⟩ := t_any (x2 &&& r_6v575)
          exact ih _ _ _ _ _ _  tx1 t1006 tx3_1v578 hI (by omega) (by omega)
set_option maxHeartbeats 4000000 in
set_option maxRecDepth 100000 in
theorem sX11_common {T W H P S M : Int} {post : Int32 → Wd → Prop} {x1 : Int32} {zx1 : Int} {w : Wd}  (tx1 : Ti x1 zx1) (hI : IM T W H P S M w)  (hp : ∀ (r : Int32) (zr : Int), Ti r zr → post r w) : pX11_common   post  x1 w := by
  unfold pX11_common
  have hk := im_k hI
  refine sX11_isIn   (hI := hI) (tx0 := tx1) (tx1 := lit_0) (tx2 := lit_2)  (hp := fun r_1v579 zr_1v579 tr_1v579 p1007 p1008 => ?_)
  refine ⟨fun c1009 => ?_, fun c1009 => ?_⟩
  · replace c1009 := c_neq tr_1v579 lit_0 c1009
    refine ⟨fun c1010 => ?_, fun c1010 => ?_⟩
    · replace c1010 := c_neq tx1 lit_1 c1010
      refine sX11_width   (hI := hI)   (hp := fun r_5v583 zr_5v583 tr_5v583 p1011 => ?_)
      unfold pX11_common_28
      obtain ⟨z1012, t1013, f1014⟩ := t_shlW hI tr_5v583
      first | replace f1014 := f1014 (by omega) | clear f1014
      obtain ⟨z1015, t1016, f1017⟩ := t_sub t1013 lit_1
      first | replace f1017 := f1017 (by omega) | clear f1017
      exact ⟨70000, sX11_common_31    (hp := hp) 70000 _ _ _ _ _ _  tx1 t1016 lit_0 hI (by omega) (by omega)⟩
    · replace c1010 := c_eq tx1 lit_1 c1010
      unfold pX11_common_28
      exact ⟨70000, sX11_common_31    (hp := hp) 70000 _ _ _ _ _ _  tx1 lit_0 lit_0 hI (by omega) (by omega)⟩
  · replace c1009 := c_eq tr_1v579 lit_0 c1009
    exact hp _ _ lit_m1 
set_option maxHeartbeats 4000000 in
set_option maxRecDepth 100000 in
theorem sX11_alike_15 {T W H P S M : Int} {post : Int32 → Wd → Prop} {w : Wd}  (hp : ∀ (r : Int32) (zr : Int), Ti r zr → post r w) : ∀ (n : Nat) (x1 : Int32) (x2 : Int32) (x3 : Int32) (x4 : Int32) (zx1 : Int) (zx2 : Int) (zx3 : Int) (zx4 : Int), Ti x1 zx1 → Ti x2 zx2 → Ti x3 zx3 → Ti x4 zx4 → IM T W H P S M w → (0 ≤ zx4 ∧ zx4 ≤ 24) → (25 - zx4) < (n : Int) → pX11_alike_15   post  n x1 x2 x3 x4 w := by
  intro n
  induction n with
  | zero =>
    intro x1 x2 x3 x4 zx1 zx2 zx3 zx4  tx1 tx2 tx3 tx4 hI h0 hm
    exact absurd hm (by omega)
  | succ n ih =>
    intro x1 x2 x3 x4 zx1 zx2 zx3 zx4  tx1 tx2 tx3 tx4 hI h0 hm
    unfold pX11_alike_15
    have hk := im_k hI
    obtain ⟨z1018, t1019⟩ := t_any (w.2.1 341 (216 : Int32).toNatClampNeg)
    have f1020 := img_216 hI t1019
    refine ⟨fun c1021 => ?_, fun c1021 => ?_⟩
    · replace c1021 := c_le t1019 tx4 c1021
      exact hp _ _ tx3 
    · replace c1021 := c_nle t1019 tx4 c1021
      refine ⟨fun c1022 => ?_, fun c1022 => ?_⟩
      · replace c1022 := c_eq tx2 lit_0 c1022
        refine sX11_rowOf   (hI := hI) (tx1 := tx4) (h0 := (by omega)) (hp := fun r_3v585 zr_3v585 tr_3v585 p1023 => ?_)
        unfold pX11_alike_51
        refine ⟨fun c1024 => ?_, fun c1024 => ?_⟩
        · replace c1024 := c_neq tr_3v585 tx1 c1024
          unfold pX11_alike_62
          obtain ⟨z1025, t1026, f1027⟩ := t_add tx4 lit_1
          first | replace f1027 := f1027 (by omega) | clear f1027
          intro x4_1v592 ex4_1v592
          have tx4_1v592 : Ti x4_1v592 z1025 := by rw [ex4_1v592]; exact t1026
          exact ih _ _ _ _ _ _ _ _  tx1 tx2 tx3 tx4_1v592 hI (by omega) (by omega)
        · replace c1024 := c_eq tr_3v585 tx1 c1024
          obtain ⟨z1028, t1029, f1030⟩ := t_shlW hI tx4
          first | replace f1030 := f1030 (by omega) | clear f1030
          obtain ⟨z1031, t1032, f1033⟩ := t_orW hI tx3 t1029
          first | replace f1033 := f1033 (by omega) | clear f1033
          intro x3_2v591 ex3_2v591
          have tx3_2v591 : Ti x3_2v591 z1031 := by rw [ex3_2v591]; exact t1032
          unfold pX11_alike_62
          obtain ⟨z1034, t1035, f1036⟩ := t_add tx4 lit_1
          first | replace f1036 := f1036 (by omega) | clear f1036
          intro x4_1v593 ex4_1v593
          have tx4_1v593 : Ti x4_1v593 z1034 := by rw [ex4_1v593]; exact t1035
          exact ih _ _ _ _ _ _ _ _  tx1 tx2 tx3_2v591 tx4_1v593 hI (by omega) (by omega)
      · replace c1022 := c_neq tx2 lit_0 c1022
        refine sX11_rowOf   (hI := hI) (tx1 := tx4) (h0 := (by omega)) (hp := fun r_5v587 zr_5v587 tr_5v587 p1037 => ?_)
        refine sX11_turnedRow   (hI := hI) (tx1 := tr_5v587)  (hp := fun r_7v594 zr_7v594 tr_7v594 => ?_)
        unfold pX11_alike_51
        refine ⟨fun c1038 => ?_, fun c1038 => ?_⟩
        · replace c1038 := c_neq tr_7v594 tx1 c1038
          unfold pX11_alike_62
          obtain ⟨z1039, t1040, f1041⟩ := t_add tx4 lit_1
          first | replace f1041 := f1041 (by omega) | clear f1041
          intro x4_1v597 ex4_1v597
          have tx4_1v597 : Ti x4_1v597 z1039 := by rw [ex4_1v597]; exact t1040
          exact ih _ _ _ _ _ _ _ _  tx1 tx2 tx3 tx4_1v597 hI (by omega) (by omega)
        · replace c1038 := c_eq tr_7v594 tx1 c1038
          obtain ⟨z1042, t1043, f1044⟩ := t_shlW hI tx4
          first | replace f1044 := f1044 (by omega) | clear f1044
          obtain ⟨z1045, t1046, f1047⟩ := t_orW hI tx3 t1043
          first | replace f1047 := f1047 (by omega) | clear f1047
          intro x3_2v596 ex3_2v596
          have tx3_2v596 : Ti x3_2v596 z1045 := by rw [ex3_2v596]; exact t1046
          unfold pX11_alike_62
          obtain ⟨z1048, t1049, f1050⟩ := t_add tx4 lit_1
          first | replace f1050 := f1050 (by omega) | clear f1050
          intro x4_1v598 ex4_1v598
          have tx4_1v598 : Ti x4_1v598 z1048 := by rw [ex4_1v598]; exact t1049
          exact ih _ _ _ _ _ _ _ _  tx1 tx2 tx3_2v596 tx4_1v598 hI (by omega) (by omega)
set_option maxHeartbeats 4000000 in
set_option maxRecDepth 100000 in
theorem sX11_alike {T W H P S M : Int} {post : Int32 → Wd → Prop} {x1 : Int32} {zx1 : Int} {x2 : Int32} {zx2 : Int} {w : Wd}  (tx1 : Ti x1 zx1) (tx2 : Ti x2 zx2) (hI : IM T W H P S M w)  (hp : ∀ (r : Int32) (zr : Int), Ti r zr → post r w) : pX11_alike   post  x1 x2 w := by
  unfold pX11_alike
  have hk := im_k hI
  refine sX11_isRow   (hI := hI) (tx1 := tx1)  (hp := fun r_1v599 zr_1v599 tr_1v599 p1051 => ?_)
  refine ⟨fun c1052 => ?_, fun c1052 => ?_⟩
  · replace c1052 := c_neq tr_1v599 lit_0 c1052
    exact ⟨70000, sX11_alike_15    (hp := hp) 70000 _ _ _ _ _ _ _ _  tx1 tx2 lit_0 lit_0 hI (by omega) (by omega)⟩
  · replace c1052 := c_eq tr_1v599 lit_0 c1052
    exact hp _ _ lit_m1 
set_option maxHeartbeats 4000000 in
set_option maxRecDepth 100000 in
theorem sX11_doTell_16 {T W H P S M : Int} {k2 : Int32 → Int32 → Wd → Prop} {M2 : Int} {post : Int32 → Wd → Prop} {w : Wd} (hk2 : ∀ (x1 : Int32) (x2 : Int32) (zx1 : Int) (zx2 : Int), Ti x1 zx1 → Ti x2 zx2 → IM T W H P S M w → (0 ≤ zx2 ∧ zx2 ≤ 24) → (25 - zx2) < M2 → k2 x1 x2 w) (hp : ∀ (r : Int32) (zr : Int), Ti r zr → post r w) : ∀ (n : Nat) (x1 : Int32) (x2 : Int32) (x3 : Int32) (zx1 : Int) (zx2 : Int) (zx3 : Int), Ti x1 zx1 → Ti x2 zx2 → Ti x3 zx3 → IM T W H P S M w → (0 ≤ zx3 ∧ zx3 ≤ 24) → (zx2 < S) → (0 ≤ zx2 ∧ zx2 ≤ 24) → ((25 - zx2) ≤ M2) → (25 - zx3) < (n : Int) → pX11_doTell_16 k2  post  n x1 x2 x3 w := by
  intro n
  induction n with
  | zero =>
    intro x1 x2 x3 zx1 zx2 zx3  tx1 tx2 tx3 hI h0 h1 h2 h3 hm
    exact absurd hm (by omega)
  | succ n ih =>
    intro x1 x2 x3 zx1 zx2 zx3  tx1 tx2 tx3 hI h0 h1 h2 h3 hm
    unfold pX11_doTell_16
    have hk := im_k hI
    refine ⟨fun c1053 => ?_, fun c1053 => ?_⟩
    · replace c1053 := c_le tx2 tx3 c1053
      obtain ⟨z1054, t1055, f1056⟩ := t_add tx2 lit_1
      first | replace f1056 := f1056 (by omega) | clear f1056
      intro x2_2v601 ex2_2v601
      have tx2_2v601 : Ti x2_2v601 z1054 := by rw [ex2_2v601]; exact t1055
      exact hk2 _ _ _ _  tx1 tx2_2v601 hI (by omega) (by omega)
    · replace c1053 := c_nle tx2 tx3 c1053
      refine sX11_rowOf   (hI := hI) (tx1 := tx2) (h0 := (by omega)) (hp := fun r_3v602 zr_3v602 tr_3v602 p1057 => ?_)
      refine sX11_rowOf   (hI := hI) (tx1 := tx3) (h0 := (by omega)) (hp := fun r_5v610 zr_5v610 tr_5v610 p1058 => ?_)
      refine ⟨fun c1059 => ?_, fun c1059 => ?_⟩
      · replace c1059 := c_eq tr_3v602 tr_5v610 c1059
        unfold pX11_doTell_52
        obtain ⟨z1060, t1061, f1062⟩ := t_add tx3 lit_1
        first | replace f1062 := f1062 (by omega) | clear f1062
        intro x3_1v620 ex3_1v620
        have tx3_1v620 : Ti x3_1v620 z1060 := by rw [ex3_1v620]; exact t1061
        exact ih _ _ _ _ _ _  tx1 tx2 tx3_1v620 hI (by omega) (by omega) (by omega) (by omega) (by omega)
      · replace c1059 := c_neq tr_3v602 tr_5v610 c1059
        refine sX11_rowOf   (hI := hI) (tx1 := tx2) (h0 := (by omega)) (hp := fun r_8v616 zr_8v616 tr_8v616 p1063 => ?_)
        refine sX11_rowOf   (hI := hI) (tx1 := tx3) (h0 := (by omega)) (hp := fun r_10v621 zr_10v621 tr_10v621 p1064 => ?_)
        obtain ⟨z1065, t1066⟩ := t_any ((r_8v616 ^^^ r_10v621) &&& x1)
        refine ⟨fun c1067 => ?_, fun c1067 => ?_⟩
        · replace c1067 := c_neq t1066 lit_0 c1067
          unfold pX11_doTell_52
          obtain ⟨z1068, t1069, f1070⟩ := t_add tx3 lit_1
          first | replace f1070 := f1070 (by omega) | clear f1070
          intro x3_1v623 ex3_1v623
          have tx3_1v623 : Ti x3_1v623 z1068 := by rw [ex3_1v623]; exact t1069
          exact ih _ _ _ _ _ _  tx1 tx2 tx3_1v623 hI (by omega) (by omega) (by omega) (by omega) (by omega)
        · replace c1067 := c_eq t1066 lit_0 c1067
          exact hp _ _ lit_0 
set_option maxHeartbeats 4000000 in
set_option maxRecDepth 100000 in
theorem sX11_doTell_2 {T W H P S M : Int} {post : Int32 → Wd → Prop} {w : Wd}  (hp : ∀ (r : Int32) (zr : Int), Ti r zr → post r w) : ∀ (n : Nat) (x1 : Int32) (x2 : Int32) (zx1 : Int) (zx2 : Int), Ti x1 zx1 → Ti x2 zx2 → IM T W H P S M w → (0 ≤ zx2 ∧ zx2 ≤ 24) → (25 - zx2) < (n : Int) → pX11_doTell_2   post  n x1 x2 w := by
  intro n
  induction n with
  | zero =>
    intro x1 x2 zx1 zx2  tx1 tx2 hI h0 hm
    exact absurd hm (by omega)
  | succ n ih =>
    intro x1 x2 zx1 zx2  tx1 tx2 hI h0 hm
    unfold pX11_doTell_2
    have hk := im_k hI
    obtain ⟨z1071, t1072⟩ := t_any (w.2.1 341 (216 : Int32).toNatClampNeg)
    have f1073 := img_216 hI t1072
    refine ⟨fun c1074 => ?_, fun c1074 => ?_⟩
    · replace c1074 := c_le t1072 tx2 c1074
      exact hp _ _ lit_1 
    · replace c1074 := c_nle t1072 tx2 c1074
      exact ⟨70000, sX11_doTell_16  (M2 := (n : Int)) (hk2 := ih)  (hp := hp) 70000 _ _ _ _ _ _  tx1 tx2 lit_0 hI (by omega) (by omega) (by omega) (by omega) (by omega)⟩
set_option maxHeartbeats 4000000 in
set_option maxRecDepth 100000 in
theorem sX11_doTell {T W H P S M : Int} {post : Int32 → Wd → Prop} {x1 : Int32} {zx1 : Int} {w : Wd}  (tx1 : Ti x1 zx1) (hI : IM T W H P S M w)  (hp : ∀ (r : Int32) (zr : Int), Ti r zr → post r w) : pX11_doTell   post  x1 w := by
  unfold pX11_doTell
  have hk := im_k hI
  exact ⟨70000, sX11_doTell_2    (hp := hp) 70000 _ _ _ _  tx1 lit_0 hI (by omega) (by omega)⟩
set_option maxHeartbeats 4000000 in
set_option maxRecDepth 100000 in
theorem sX11_tell_52 {T W H P S M : Int} {post : Int32 → Wd → Prop}   (hp : ∀ (r : Int32) (zr : Int) (w9 : Wd), Ti r zr → IM T W H P S M w9 → post r w9) : ∀ (n : Nat) (x1 : Int32) (x2 : Int32) (zx1 : Int) (zx2 : Int) (w : Wd), Ti x1 zx1 → Ti x2 zx2 → IM T W H P S M w → (0 ≤ zx2 ∧ zx2 ≤ 12) → (Rg (w.1 300 48) 0 zx2) → (13 - zx2) < (n : Int) → pX11_tell_52   post  n x1 x2 w := by
  intro n
  induction n with
  | zero =>
    intro x1 x2 zx1 zx2 w tx1 tx2 hI h0 h1 hm
    exact absurd hm (by omega)
  | succ n ih =>
    intro x1 x2 zx1 zx2 w tx1 tx2 hI h0 h1 hm
    unfold pX11_tell_52
    have hk := im_k hI
    obtain ⟨z1075, t1076⟩ := t_any (w.1 300 48)
    have f1077 := img_48 hI t1076
    have f1078 := Rg.g h1 t1076
    refine sX11_width   (hI := hI)   (hp := fun r_1v624 zr_1v624 tr_1v624 p1079 => ?_)
    refine ⟨fun c1080 => ?_, fun c1080 => ?_⟩
    · replace c1080 := c_le tr_1v624 tx2 c1080
      exact hp _ _ _  t1076 hI 
    · replace c1080 := c_nle tr_1v624 tx2 c1080
      obtain ⟨z1081, t1082, f1083⟩ := t_and (x := (x1 >>> (x2 &&& 31))) lit_1 (by decide)
      refine ⟨fun c1084 => ?_, fun c1084 => ?_⟩
      · replace c1084 := c_neq t1082 lit_0 c1084
        refine ⟨vp_of t1076 (by omega) (by omega), ?_⟩
        intro w_5v628 ew_5v628
        have hIw_5v628 := ims_A hI ew_5v628 (by decide)
        intro w_6v629 ew_6v629
        have t1085 : Ti (w_5v628.1 300 48) z1075 := by rw [e1_A ew_5v628]; exact t1076
        obtain ⟨z1086, t1087, f1088⟩ := t_add t1085 lit_1
        first | replace f1088 := f1088 (by omega) | clear f1088
        have hIw_6v629 := ims_48 hIw_5v628 ew_6v629 t1087 (by omega) (by omega)
        unfold pX11_tell_91
        obtain ⟨z1089, t1090, f1091⟩ := t_add tx2 lit_1
        first | replace f1091 := f1091 (by omega) | clear f1091
        intro x2_1v630 ex2_1v630
        have tx2_1v630 : Ti x2_1v630 z1089 := by rw [ex2_1v630]; exact t1090
        have t1092 : Ti (w_6v629.1 300 48) z1086 := by rw [ew_6v629, sI_at]; exact t1087
        exact ih _ _ _ _ _ tx1 tx2_1v630 hIw_6v629 (by omega) (Rg.m t1092 (by omega) (by omega)) (by omega)
      · replace c1084 := c_eq t1082 lit_0 c1084
        unfold pX11_tell_91
        obtain ⟨z1093, t1094, f1095⟩ := t_add tx2 lit_1
        first | replace f1095 := f1095 (by omega) | clear f1095
        intro x2_1v631 ex2_1v631
        have tx2_1v631 : Ti x2_1v631 z1093 := by rw [ex2_1v631]; exact t1094
        exact ih _ _ _ _ _ tx1 tx2_1v631 hI (by omega) (Rg.m t1076 (by omega) (by omega)) (by omega)
set_option maxHeartbeats 4000000 in
set_option maxRecDepth 100000 in
theorem sX11_tell_4 {T W H P S M : Int} {post : Int32 → Wd → Prop}   (hp : ∀ (r : Int32) (zr : Int) (w9 : Wd), Ti r zr → IM T W H P S M w9 → post r w9) : ∀ (n : Nat) (x1 : Int32) (x2 : Int32) (zx1 : Int) (zx2 : Int) (w : Wd), Ti x1 zx1 → Ti x2 zx2 → IM T W H P S M w → (0 ≤ zx2 ∧ zx2 ≤ 4096) → (4097 - zx2) < (n : Int) → pX11_tell_4   post  n x1 x2 w := by
  intro n
  induction n with
  | zero =>
    intro x1 x2 zx1 zx2 w tx1 tx2 hI h0 hm
    exact absurd hm (by omega)
  | succ n ih =>
    intro x1 x2 zx1 zx2 w tx1 tx2 hI h0 hm
    unfold pX11_tell_4
    have hk := im_k hI
    refine sX11_width   (hI := hI)   (hp := fun r_1v632 zr_1v632 tr_1v632 p1096 => ?_)
    obtain ⟨z1097, t1098, f1099⟩ := t_shlW hI tr_1v632
    first | replace f1099 := f1099 (by omega) | clear f1099
    refine ⟨fun c1100 => ?_, fun c1100 => ?_⟩
    · replace c1100 := c_le t1098 tx2 c1100
      intro w_4v639 ew_4v639
      have hIw_4v639 := ims_48 hI ew_4v639 lit_0 (by omega) (by omega)
      have t1101 : Ti (w_4v639.1 300 48) 0 := by rw [ew_4v639, sI_at]; exact lit_0
      exact ⟨70000, sX11_tell_52    (hp := hp) 70000 _ _ _ _ _ tx1 lit_0 hIw_4v639 (by omega) (Rg.m t1101 (by omega) (by omega)) (by omega)⟩
    · replace c1100 := c_nle t1098 tx2 c1100
      refine ⟨fun c1102 => ?_, fun c1102 => ?_⟩
      · replace c1102 := c_lt tx1 lit_0 c1102
        unfold pX11_tell_29
        refine sX11_doTell   (hI := hI) (tx1 := tx2)  (hp := fun r_1v644 zr_1v644 tr_1v644 => ?_)
        refine ⟨fun c1103 => ?_, fun c1103 => ?_⟩
        · replace c1103 := c_eq tr_1v644 lit_0 c1103
          unfold pX11_tell_39
          obtain ⟨z1104, t1105, f1106⟩ := t_add tx2 lit_1
          first | replace f1106 := f1106 (by omega) | clear f1106
          intro x2_1v646 ex2_1v646
          have tx2_1v646 : Ti x2_1v646 z1104 := by rw [ex2_1v646]; exact t1105
          exact ih _ _ _ _ _ tx1 tx2_1v646 hI (by omega) (by omega)
        · replace c1103 := c_neq tr_1v644 lit_0 c1103
          unfold pX11_tell_39
          obtain ⟨z1107, t1108, f1109⟩ := t_add tx2 lit_1
          first | replace f1109 := f1109 (by omega) | clear f1109
          intro x2_1v647 ex2_1v647
          have tx2_1v647 : Ti x2_1v647 z1107 := by rw [ex2_1v647]; exact t1108
          exact ih _ _ _ _ _ tx2 tx2_1v647 hI (by omega) (by omega)
      · replace c1102 := c_nlt tx1 lit_0 c1102
        refine sX11_bitsOf   (hI := hI) (tx0 := tx2)  (hp := fun r_6v640 zr_6v640 tr_6v640 => ?_)
        refine sX11_bitsOf   (hI := hI) (tx0 := tx1)  (hp := fun r_8v648 zr_8v648 tr_8v648 => ?_)
        refine ⟨fun c1110 => ?_, fun c1110 => ?_⟩
        · replace c1110 := c_le tr_8v648 tr_6v640 c1110
          unfold pX11_tell_39
          obtain ⟨z1111, t1112, f1113⟩ := t_add tx2 lit_1
          first | replace f1113 := f1113 (by omega) | clear f1113
          intro x2_1v650 ex2_1v650
          have tx2_1v650 : Ti x2_1v650 z1111 := by rw [ex2_1v650]; exact t1112
          exact ih _ _ _ _ _ tx1 tx2_1v650 hI (by omega) (by omega)
        · replace c1110 := c_nle tr_8v648 tr_6v640 c1110
          unfold pX11_tell_29
          refine sX11_doTell   (hI := hI) (tx1 := tx2)  (hp := fun r_1v651 zr_1v651 tr_1v651 => ?_)
          refine ⟨fun c1114 => ?_, fun c1114 => ?_⟩
          · replace c1114 := c_eq tr_1v651 lit_0 c1114
            unfold pX11_tell_39
            obtain ⟨z1115, t1116, f1117⟩ := t_add tx2 lit_1
            first | replace f1117 := f1117 (by omega) | clear f1117
            intro x2_1v653 ex2_1v653
            have tx2_1v653 : Ti x2_1v653 z1115 := by rw [ex2_1v653]; exact t1116
            exact ih _ _ _ _ _ tx1 tx2_1v653 hI (by omega) (by omega)
          · replace c1114 := c_neq tr_1v651 lit_0 c1114
            unfold pX11_tell_39
            obtain ⟨z1118, t1119, f1120⟩ := t_add tx2 lit_1
            first | replace f1120 := f1120 (by omega) | clear f1120
            intro x2_1v654 ex2_1v654
            have tx2_1v654 : Ti x2_1v654 z1118 := by rw [ex2_1v654]; exact t1119
            exact ih _ _ _ _ _ tx2 tx2_1v654 hI (by omega) (by omega)
set_option maxHeartbeats 4000000 in
set_option maxRecDepth 100000 in
theorem sX11_tell {T W H P S M : Int} {post : Int32 → Wd → Prop}  {w : Wd}   (hI : IM T W H P S M w)  (hp : ∀ (r : Int32) (zr : Int) (w9 : Wd), Ti r zr → IM T W H P S M w9 → post r w9) : pX11_tell   post   w := by
  unfold pX11_tell
  have hk := im_k hI
  exact ⟨70000, sX11_tell_4    (hp := hp) 70000 _ _ _ _ _ lit_m1 lit_0 hI (by omega) (by omega)⟩
def cn (a : Nat → Int32) : Nat → Nat
  | 0 => 0
  | n + 1 => cn a n + (if (a n).toInt < 0 then 1 else 0)
theorem cn_le (a : Nat → Int32) (n : Nat) : cn a n ≤ n := by
  induction n with
  | zero => exact Nat.le_refl _
  | succ n ih =>
    show cn a n + (if (a n).toInt < 0 then 1 else 0) ≤ n + 1
    split <;> omega
theorem cn_far (a : Nat → Int32) (i : Nat) (v : Int32) : ∀ n : Nat, n ≤ i → cn (upd a i v) n = cn a n := by
  intro n
  induction n with
  | zero => intro _; rfl
  | succ n ih =>
    intro h
    show cn (upd a i v) n + (if (upd a i v n).toInt < 0 then 1 else 0) = cn a n + (if (a n).toInt < 0 then 1 else 0)
    rw [ih (by omega), pk_un (by omega)]
theorem cn_upd {a : Nat → Int32} {i : Nat} {v : Int32} (h1 : (a i).toInt < 0) (h2 : 0 ≤ v.toInt) : ∀ n : Nat, i < n → cn (upd a i v) n + 1 = cn a n := by
  intro n
  induction n with
  | zero => intro h; exact absurd h (by omega)
  | succ n ih =>
    intro h
    show cn (upd a i v) n + (if (upd a i v n).toInt < 0 then 1 else 0) + 1 = cn a n + (if (a n).toInt < 0 then 1 else 0)
    by_cases hn : n = i
    · subst hn
      rw [cn_far a n v n (Nat.le_refl _), pk_us, if_neg (by omega), if_pos h1]
    · rw [pk_un hn]
      have := ih (by omega)
      omega
theorem stJ_350 (a : Nat → Int32) : StJ (fun w => w.2.1 350 = a) := ⟨fun w f v _ _ h => h, fun w i v h => by show (sA w 329 i v).2.1 350 = a; rw [sA_ne (by decide)]; exact h⟩
set_option maxHeartbeats 4000000 in
theorem sX11_round_57 {T W H P S M : Int} {post : Int32 → Wd → Prop} (hp : ∀ (r : Int32) (zr : Int) (w9 : Wd), Ti r zr → IM T W H P S M w9 → post r w9) : ∀ (n : Nat) (x2 : Int32) (x3 : Int32) (x4 : Int32) (x5 : Int32) (x6 : Int32) (zx2 : Int) (zx3 : Int) (zx4 : Int) (zx5 : Int) (zx6 : Int) (w : Wd), Ti x2 zx2 → Ti x3 zx3 → Ti x4 zx4 → Ti x5 zx5 → Ti x6 zx6 → IM T W H P S M w → (0 ≤ zx2 ∧ zx2 < H) → (0 ≤ zx5 ∧ zx5 < P) → (0 ≤ zx6 ∧ zx6 + (cn (w.2.1 350) 4096 : Int) ≤ 4096) → (cn (w.2.1 350) 4096 : Int) < (n : Int) → pX11_round_57 post n x2 x3 x4 x5 x6 w := by
  intro n
  induction n with
  | zero =>
    intro x2 x3 x4 x5 x6 zx2 zx3 zx4 zx5 zx6 w tx2 tx3 tx4 tx5 tx6 hI h0 h1 h2 hm
    exact absurd hm (by omega)
  | succ n ih =>
    intro x2 x3 x4 x5 x6 zx2 zx3 zx4 zx5 zx6 w tx2 tx3 tx4 tx5 tx6 hI h0 h1 h2 hm
    unfold pX11_round_57
    have hk := im_k hI
    have v5 : vp_in x5 4096 := vp_of tx5 (by omega) (by omega)
    obtain ⟨za, ta⟩ := t_any (w.2.1 350 x5.toNatClampNeg)
    refine ⟨v5, fun c => ⟨fun c2 => ⟨v5, hp _ _ _ rfl hI⟩, fun c2 => hp _ _ _ rfl hI⟩, fun c => ⟨v5, ?_⟩⟩
    replace c := c_nle lit_0 ta c
    have e5 := i_cz tx5
    intro w_3 e3
    have i3 := ims_A hI e3 (by decide)
    obtain ⟨z7, t7, f7⟩ := t_add tx6 lit_1
    replace f7 := f7 (by omega)
    intro x6_4 e6
    have q : w_3.2.1 350 = upd (w.2.1 350) x5.toNatClampNeg x6 := by rw [e3, sA_eq]
    have k := cn_upd (a := w.2.1 350) (i := x5.toNatClampNeg) (v := x6) (by rw [show (w.2.1 350 x5.toNatClampNeg).toInt = za from ta]; exact c) (by rw [show x6.toInt = zx6 from tx6]; exact h2.1) 4096 (by omega)
    rw [← q] at k
    refine jX11_castOf (J := fun w' => w'.2.1 350 = w_3.2.1 350) tx5 tx2 tx3 lit_0 ⟨i3, rfl, stJ_350 _⟩ h0 (fun r zr w9 tr i9 hr => ?_)
    have j9 : w9.2.1 350 = w_3.2.1 350 := i9.2.1
    exact ih _ _ _ _ _ _ _ _ _ _ _ tx2 tx3 tx4 tr (by rw [e6]; exact t7) i9.1 h0 (by omega) (by rw [j9]; omega) (by rw [j9]; omega)
set_option maxHeartbeats 4000000 in
set_option maxRecDepth 100000 in
theorem sX11_round_25 {T W H P S M : Int} {post : Int32 → Wd → Prop}   (hp : ∀ (r : Int32) (zr : Int) (w9 : Wd), Ti r zr → IM T W H P S M w9 → post r w9) : ∀ (n : Nat) (x1 : Int32) (x2 : Int32) (x3 : Int32) (x4 : Int32) (x5 : Int32) (zx1 : Int) (zx2 : Int) (zx3 : Int) (zx4 : Int) (zx5 : Int) (w : Wd), Ti x1 zx1 → Ti x2 zx2 → Ti x3 zx3 → Ti x4 zx4 → Ti x5 zx5 → IM T W H P S M w → (0 ≤ zx5 ∧ zx5 ≤ 4096) → (0 ≤ zx1 ∧ zx1 < S) → (0 ≤ zx2 ∧ zx2 < H) → (4097 - zx5) < (n : Int) → pX11_round_25   post  n x1 x2 x3 x4 x5 w := by
  intro n
  induction n with
  | zero =>
    intro x1 x2 x3 x4 x5 zx1 zx2 zx3 zx4 zx5 w tx1 tx2 tx3 tx4 tx5 hI h0 h1 h2 hm
    exact absurd hm (by omega)
  | succ n ih =>
    intro x1 x2 x3 x4 x5 zx1 zx2 zx3 zx4 zx5 w tx1 tx2 tx3 tx4 tx5 hI h0 h1 h2 hm
    unfold pX11_round_25
    have hk := im_k hI
    refine ⟨fun c1121 => ?_, fun c1121 => ?_⟩
    · replace c1121 := c_le lit_4096 tx5 c1121
      refine sX11_rowOf   (hI := hI) (tx1 := tx1) (h0 := (by omega)) (hp := fun r_2v655 zr_2v655 tr_2v655 p1122 => ?_)
      exact ⟨70000, sX11_round_57    (hp := hp) 70000 _ _ _ _ _ _ _ _ _ _ _ tx2 tx3 tx4 tr_2v655 lit_0 hI (by omega) (by omega) (by have q := cn_le (w.2.1 350) 4096; omega) (by have q := cn_le (w.2.1 350) 4096; omega)⟩
    · replace c1121 := c_nle lit_4096 tx5 c1121
      refine ⟨vp_of tx5 (by omega) (by omega), ?_⟩
      intro w_4v657 ew_4v657
      have hIw_4v657 := ims_A hI ew_4v657 (by decide)
      obtain ⟨z1123, t1124, f1125⟩ := t_add tx5 lit_1
      first | replace f1125 := f1125 (by omega) | clear f1125
      intro x5_5v658 ex5_5v658
      have tx5_5v658 : Ti x5_5v658 z1123 := by rw [ex5_5v658]; exact t1124
      exact ih _ _ _ _ _ _ _ _ _ _ _ tx1 tx2 tx3 tx4 tx5_5v658 hIw_4v657 (by omega) (by omega) (by omega) (by omega)
set_option maxHeartbeats 4000000 in
set_option maxRecDepth 100000 in
theorem sX11_round {T W H P S M : Int} {post : Int32 → Wd → Prop} {x1 : Int32} {zx1 : Int} {x2 : Int32} {zx2 : Int} {x3 : Int32} {zx3 : Int} {x4 : Int32} {zx4 : Int} {w : Wd}  (tx1 : Ti x1 zx1) (tx2 : Ti x2 zx2) (tx3 : Ti x3 zx3) (tx4 : Ti x4 zx4) (hI : IM T W H P S M w)  (hp : ∀ (r : Int32) (zr : Int) (w9 : Wd), Ti r zr → IM T W H P S M w9 → post r w9) : pX11_round   post  x1 x2 x3 x4 w := by
  unfold pX11_round
  have hk := im_k hI
  refine sX11_canCast   (hI := hI) (tx1 := tx1) (tx2 := tx2) (tx3 := tx3)  (hp := fun r_1v659 zr_1v659 tr_1v659 p1126 => ?_)
  refine ⟨fun c1127 => ?_, fun c1127 => ?_⟩
  · replace c1127 := c_eq tr_1v659 lit_0 c1127
    exact hp _ _ _  lit_m1 hI 
  · replace c1127 := c_neq tr_1v659 lit_0 c1127
    refine sX11_isIn   (hI := hI) (tx0 := tx4) (tx1 := lit_0) (tx2 := lit_1)  (hp := fun r_4v663 zr_4v663 tr_4v663 p1128 p1129 => ?_)
    refine ⟨fun c1130 => ?_, fun c1130 => ?_⟩
    · replace c1130 := c_neq tr_4v663 lit_0 c1130
      exact ⟨70000, sX11_round_25    (hp := hp) 70000 _ _ _ _ _ _ _ _ _ _ _ tx1 tx2 tx3 tx4 lit_0 hI (by omega) (by omega) (by omega) (by omega)⟩
    · replace c1130 := c_eq tr_4v663 lit_0 c1130
      exact hp _ _ _  lit_m1 hI 
set_option maxHeartbeats 4000000 in
set_option maxRecDepth 100000 in
theorem sX11_steady_35 {T W H P S M : Int} {post : Int32 → Wd → Prop}   (hp : ∀ (r : Int32) (zr : Int) (w9 : Wd), Ti r zr → IM T W H P S M w9 → post r w9) : ∀ (n : Nat) (x1 : Int32) (x2 : Int32) (x3 : Int32) (x4 : Int32) (x5 : Int32) (x6 : Int32) (zx1 : Int) (zx2 : Int) (zx3 : Int) (zx4 : Int) (zx5 : Int) (zx6 : Int) (w : Wd), Ti x1 zx1 → Ti x2 zx2 → Ti x3 zx3 → Ti x4 zx4 → Ti x5 zx5 → Ti x6 zx6 → IM T W H P S M w → (0 ≤ zx6 ∧ zx6 ≤ 4096) → (0 ≤ zx1 ∧ zx1 < H) → (4097 - zx6) < (n : Int) → pX11_steady_35   post  n x1 x2 x3 x4 x5 x6 w := by
  intro n
  induction n with
  | zero =>
    intro x1 x2 x3 x4 x5 x6 zx1 zx2 zx3 zx4 zx5 zx6 w tx1 tx2 tx3 tx4 tx5 tx6 hI h0 h1 hm
    exact absurd hm (by omega)
  | succ n ih =>
    intro x1 x2 x3 x4 x5 x6 zx1 zx2 zx3 zx4 zx5 zx6 w tx1 tx2 tx3 tx4 tx5 tx6 hI h0 h1 hm
    unfold pX11_steady_35
    have hk := im_k hI
    refine sX11_width   (hI := hI)   (hp := fun r_1v665 zr_1v665 tr_1v665 p1131 => ?_)
    obtain ⟨z1132, t1133, f1134⟩ := t_shlW hI tr_1v665
    first | replace f1134 := f1134 (by omega) | clear f1134
    refine ⟨fun c1135 => ?_, fun c1135 => ?_⟩
    · replace c1135 := c_le t1133 tx6 c1135
      refine ⟨fun c1136 => ?_, fun c1136 => ?_⟩
      · replace c1136 := c_neq tx3 lit_0 c1136
        exact hp _ _ _  tx5 hI 
      · replace c1136 := c_eq tx3 lit_0 c1136
        exact hp _ _ _  tx4 hI 
    · replace c1135 := c_nle t1133 tx6 c1135
      refine sX11_castOf   (hI := hI) (tx1 := tx6) (tx2 := tx1) (tx3 := tx2) (tx4 := lit_0) (h0 := (by omega)) (hp := fun r_5v676 zr_5v676 w_6v677  tr_5v676 hIw_6v677 p1137 => ?_)
      refine sX11_castOf   (hI := hIw_6v677) (tx1 := tr_5v676) (tx2 := tx1) (tx3 := tx2) (tx4 := lit_0) (h0 := (by omega)) (hp := fun r_7v678 zr_7v678 w_8v679  tr_7v678 hIw_8v679 p1138 => ?_)
      refine ⟨fun c1139 => ?_, fun c1139 => ?_⟩
      · replace c1139 := c_eq tr_7v678 tx6 c1139
        obtain ⟨z1140, t1141, f1142⟩ := t_add tx4 lit_1
        first | replace f1142 := f1142 (by omega) | clear f1142
        intro x4_10v680 ex4_10v680
        have tx4_10v680 : Ti x4_10v680 z1140 := by rw [ex4_10v680]; exact t1141
        refine ⟨fun c1143 => ?_, fun c1143 => ?_⟩
        · replace c1143 := c_lt tx5 lit_0 c1143
          unfold pX11_steady_91
          unfold pX11_steady_95
          obtain ⟨z1144, t1145, f1146⟩ := t_add tx6 lit_1
          first | replace f1146 := f1146 (by omega) | clear f1146
          intro x6_1v685 ex6_1v685
          have tx6_1v685 : Ti x6_1v685 z1144 := by rw [ex6_1v685]; exact t1145
          exact ih _ _ _ _ _ _ _ _ _ _ _ _ _ tx1 tx2 tx3 tx4_10v680 tx6 tx6_1v685 hIw_8v679 (by omega) (by omega) (by omega)
        · replace c1143 := c_nlt tx5 lit_0 c1143
          refine sX11_bitsOf   (hI := hIw_8v679) (tx0 := tx6)  (hp := fun r_12v681 zr_12v681 tr_12v681 => ?_)
          refine sX11_bitsOf   (hI := hIw_8v679) (tx0 := tx5)  (hp := fun r_14v686 zr_14v686 tr_14v686 => ?_)
          refine ⟨fun c1147 => ?_, fun c1147 => ?_⟩
          · replace c1147 := c_le tr_12v681 tr_14v686 c1147
            unfold pX11_steady_95
            obtain ⟨z1148, t1149, f1150⟩ := t_add tx6 lit_1
            first | replace f1150 := f1150 (by omega) | clear f1150
            intro x6_1v688 ex6_1v688
            have tx6_1v688 : Ti x6_1v688 z1148 := by rw [ex6_1v688]; exact t1149
            exact ih _ _ _ _ _ _ _ _ _ _ _ _ _ tx1 tx2 tx3 tx4_10v680 tx5 tx6_1v688 hIw_8v679 (by omega) (by omega) (by omega)
          · replace c1147 := c_nle tr_12v681 tr_14v686 c1147
            unfold pX11_steady_91
            unfold pX11_steady_95
            obtain ⟨z1151, t1152, f1153⟩ := t_add tx6 lit_1
            first | replace f1153 := f1153 (by omega) | clear f1153
            intro x6_1v689 ex6_1v689
            have tx6_1v689 : Ti x6_1v689 z1151 := by rw [ex6_1v689]; exact t1152
            exact ih _ _ _ _ _ _ _ _ _ _ _ _ _ tx1 tx2 tx3 tx4_10v680 tx6 tx6_1v689 hIw_8v679 (by omega) (by omega) (by omega)
      · replace c1139 := c_neq tr_7v678 tx6 c1139
        unfold pX11_steady_95
        obtain ⟨z1154, t1155, f1156⟩ := t_add tx6 lit_1
        first | replace f1156 := f1156 (by omega) | clear f1156
        intro x6_1v690 ex6_1v690
        have tx6_1v690 : Ti x6_1v690 z1154 := by rw [ex6_1v690]; exact t1155
        exact ih _ _ _ _ _ _ _ _ _ _ _ _ _ tx1 tx2 tx3 tx4 tx5 tx6_1v690 hIw_8v679 (by omega) (by omega) (by omega)
set_option maxHeartbeats 4000000 in
set_option maxRecDepth 100000 in
theorem sX11_steady {T W H P S M : Int} {post : Int32 → Wd → Prop} {x1 : Int32} {zx1 : Int} {x2 : Int32} {zx2 : Int} {x3 : Int32} {zx3 : Int} {w : Wd}  (tx1 : Ti x1 zx1) (tx2 : Ti x2 zx2) (tx3 : Ti x3 zx3) (hI : IM T W H P S M w)  (hp : ∀ (r : Int32) (zr : Int) (w9 : Wd), Ti r zr → IM T W H P S M w9 → post r w9) : pX11_steady   post  x1 x2 x3 w := by
  unfold pX11_steady
  have hk := im_k hI
  refine sX11_isHand   (hI := hI) (tx1 := tx1)  (hp := fun r_1v691 zr_1v691 tr_1v691 p1157 => ?_)
  refine ⟨fun c1158 => ?_, fun c1158 => ?_⟩
  · replace c1158 := c_eq tr_1v691 lit_0 c1158
    exact hp _ _ _  lit_m1 hI 
  · replace c1158 := c_neq tr_1v691 lit_0 c1158
    refine sX11_isHeat   (hI := hI) (tx0 := tx2)  (hp := fun r_4v697 zr_4v697 tr_4v697 p1159 => ?_)
    refine ⟨fun c1160 => ?_, fun c1160 => ?_⟩
    · replace c1160 := c_eq tr_4v697 lit_0 c1160
      exact hp _ _ _  lit_m1 hI 
    · replace c1160 := c_neq tr_4v697 lit_0 c1160
      refine sX11_isIn   (hI := hI) (tx0 := tx3) (tx1 := lit_0) (tx2 := lit_1)  (hp := fun r_7v701 zr_7v701 tr_7v701 p1161 p1162 => ?_)
      refine ⟨fun c1163 => ?_, fun c1163 => ?_⟩
      · replace c1163 := c_neq tr_7v701 lit_0 c1163
        exact ⟨70000, sX11_steady_35    (hp := hp) 70000 _ _ _ _ _ _ _ _ _ _ _ _ _ tx1 tx2 tx3 lit_0 lit_m1 lit_0 hI (by omega) (by omega) (by omega)⟩
      · replace c1163 := c_eq tr_7v701 lit_0 c1163
        exact hp _ _ _  lit_m1 hI 
set_option maxHeartbeats 4000000 in
set_option maxRecDepth 100000 in
theorem sX11_against_31 {T W H P S M : Int} {post : Int32 → Wd → Prop}   (hp : ∀ (r : Int32) (zr : Int) (w9 : Wd), Ti r zr → IM T W H P S M w9 → post r w9) : ∀ (n : Nat) (x1 : Int32) (x2 : Int32) (x3 : Int32) (x4 : Int32) (x5 : Int32) (zx1 : Int) (zx2 : Int) (zx3 : Int) (zx4 : Int) (zx5 : Int) (w : Wd), Ti x1 zx1 → Ti x2 zx2 → Ti x3 zx3 → Ti x4 zx4 → Ti x5 zx5 → IM T W H P S M w → (0 ≤ zx5 ∧ zx5 ≤ 4096) → (0 ≤ zx1 ∧ zx1 < H) → (0 ≤ zx2 ∧ zx2 < H) → (4097 - zx5) < (n : Int) → pX11_against_31   post  n x1 x2 x3 x4 x5 w := by
  intro n
  induction n with
  | zero =>
    intro x1 x2 x3 x4 x5 zx1 zx2 zx3 zx4 zx5 w tx1 tx2 tx3 tx4 tx5 hI h0 h1 h2 hm
    exact absurd hm (by omega)
  | succ n ih =>
    intro x1 x2 x3 x4 x5 zx1 zx2 zx3 zx4 zx5 w tx1 tx2 tx3 tx4 tx5 hI h0 h1 h2 hm
    unfold pX11_against_31
    have hk := im_k hI
    refine sX11_width   (hI := hI)   (hp := fun r_1v703 zr_1v703 tr_1v703 p1164 => ?_)
    obtain ⟨z1165, t1166, f1167⟩ := t_shlW hI tr_1v703
    first | replace f1167 := f1167 (by omega) | clear f1167
    refine ⟨fun c1168 => ?_, fun c1168 => ?_⟩
    · replace c1168 := c_le t1166 tx5 c1168
      exact hp _ _ _  tx4 hI 
    · replace c1168 := c_nle t1166 tx5 c1168
      refine sX11_castOf   (hI := hI) (tx1 := tx5) (tx2 := tx1) (tx3 := tx3) (tx4 := lit_0) (h0 := (by omega)) (hp := fun r_4v709 zr_4v709 w_5v710  tr_4v709 hIw_5v710 p1169 => ?_)
      refine sX11_castOf   (hI := hIw_5v710) (tx1 := tx5) (tx2 := tx2) (tx3 := tx3) (tx4 := lit_0) (h0 := (by omega)) (hp := fun r_6v711 zr_6v711 w_7v712  tr_6v711 hIw_7v712 p1170 => ?_)
      refine ⟨fun c1171 => ?_, fun c1171 => ?_⟩
      · replace c1171 := c_eq tr_4v709 tr_6v711 c1171
        unfold pX11_against_70
        obtain ⟨z1172, t1173, f1174⟩ := t_add tx4 lit_0
        first | replace f1174 := f1174 (by omega) | clear f1174
        intro x4_1v713 ex4_1v713
        have tx4_1v713 : Ti x4_1v713 z1172 := by rw [ex4_1v713]; exact t1173
        obtain ⟨z1175, t1176, f1177⟩ := t_add tx5 lit_1
        first | replace f1177 := f1177 (by omega) | clear f1177
        intro x5_2v714 ex5_2v714
        have tx5_2v714 : Ti x5_2v714 z1175 := by rw [ex5_2v714]; exact t1176
        exact ih _ _ _ _ _ _ _ _ _ _ _ tx1 tx2 tx3 tx4_1v713 tx5_2v714 hIw_7v712 (by omega) (by omega) (by omega) (by omega)
      · replace c1171 := c_neq tr_4v709 tr_6v711 c1171
        unfold pX11_against_70
        obtain ⟨z1178, t1179, f1180⟩ := t_add tx4 lit_1
        first | replace f1180 := f1180 (by omega) | clear f1180
        intro x4_1v715 ex4_1v715
        have tx4_1v715 : Ti x4_1v715 z1178 := by rw [ex4_1v715]; exact t1179
        obtain ⟨z1181, t1182, f1183⟩ := t_add tx5 lit_1
        first | replace f1183 := f1183 (by omega) | clear f1183
        intro x5_2v716 ex5_2v716
        have tx5_2v716 : Ti x5_2v716 z1181 := by rw [ex5_2v716]; exact t1182
        exact ih _ _ _ _ _ _ _ _ _ _ _ tx1 tx2 tx3 tx4_1v715 tx5_2v716 hIw_7v712 (by omega) (by omega) (by omega) (by omega)
set_option maxHeartbeats 4000000 in
set_option maxRecDepth 100000 in
theorem sX11_against {T W H P S M : Int} {post : Int32 → Wd → Prop} {x1 : Int32} {zx1 : Int} {x2 : Int32} {zx2 : Int} {x3 : Int32} {zx3 : Int} {w : Wd}  (tx1 : Ti x1 zx1) (tx2 : Ti x2 zx2) (tx3 : Ti x3 zx3) (hI : IM T W H P S M w)  (hp : ∀ (r : Int32) (zr : Int) (w9 : Wd), Ti r zr → IM T W H P S M w9 → post r w9) : pX11_against   post  x1 x2 x3 w := by
  unfold pX11_against
  have hk := im_k hI
  refine sX11_isHand   (hI := hI) (tx1 := tx1)  (hp := fun r_1v717 zr_1v717 tr_1v717 p1184 => ?_)
  refine ⟨fun c1185 => ?_, fun c1185 => ?_⟩
  · replace c1185 := c_eq tr_1v717 lit_0 c1185
    exact hp _ _ _  lit_m1 hI 
  · replace c1185 := c_neq tr_1v717 lit_0 c1185
    refine sX11_isHand   (hI := hI) (tx1 := tx2)  (hp := fun r_4v723 zr_4v723 tr_4v723 p1186 => ?_)
    refine ⟨fun c1187 => ?_, fun c1187 => ?_⟩
    · replace c1187 := c_eq tr_4v723 lit_0 c1187
      exact hp _ _ _  lit_m1 hI 
    · replace c1187 := c_neq tr_4v723 lit_0 c1187
      refine sX11_isHeat   (hI := hI) (tx0 := tx3)  (hp := fun r_7v727 zr_7v727 tr_7v727 p1188 => ?_)
      refine ⟨fun c1189 => ?_, fun c1189 => ?_⟩
      · replace c1189 := c_neq tr_7v727 lit_0 c1189
        exact ⟨70000, sX11_against_31    (hp := hp) 70000 _ _ _ _ _ _ _ _ _ _ _ tx1 tx2 tx3 lit_0 lit_0 hI (by omega) (by omega) (by omega) (by omega)⟩
      · replace c1189 := c_eq tr_7v727 lit_0 c1189
        exact hp _ _ _  lit_m1 hI 
set_option maxHeartbeats 4000000 in
set_option maxRecDepth 100000 in
theorem sX11_ways {T W H P S M : Int} {post : Int32 → Wd → Prop}  {w : Wd}   (hI : IM T W H P S M w)  (hp : ∀ (r : Int32) (zr : Int), Ti r zr → (zr = 4 * H) → post r w) : pX11_ways   post   w := by
  unfold pX11_ways
  have hk := im_k hI
  obtain ⟨z1190, t1191⟩ := t_any (w.1 300 29)
  have f1192 := img_29 hI t1191
  refine ⟨vp_of t1191 (by omega) (by omega), ?_⟩
  obtain ⟨z1193, t1194⟩ := t_any (w.2.1 314 (w.1 300 29).toNatClampNeg)
  have f1195 := img_314 hI t1194
  obtain ⟨z1196, t1197, f1198⟩ := t_mul lit_4 t1194
  first | replace f1198 := f1198 (by omega) | clear f1198
  exact hp _ _ t1197 (by omega)
set_option maxHeartbeats 4000000 in
theorem sX11_fact {T W H P S M : Int} {post : Int32 → Wd → Prop} {x1 : Int32} {zx1 : Int} {x2 : Int32} {zx2 : Int} {x3 : Int32} {zx3 : Int} {x4 : Int32} {zx4 : Int} {w : Wd} (tx1 : Ti x1 zx1) (tx2 : Ti x2 zx2) (tx3 : Ti x3 zx3) (tx4 : Ti x4 zx4) (hI : IM T W H P S M w) (h0 : zx1 ≠ 3 ∨ (0 ≤ zx2 ∧ zx2 ≤ 7 ∧ 0 ≤ zx3 ∧ zx3 ≤ 7)) (hp : ∀ (r : Int32) (zr : Int) (w9 : Wd), Ti r zr → IM T W H P S M w9 → post r w9) : pX11_fact post x1 x2 x3 x4 w := by
  unfold pX11_fact
  refine ⟨fun c => ?_, fun c => hp _ _ _ lit_m1 hI⟩
  obtain ⟨u, tu⟩ := t_any (w.1 300 58)
  have fu := img_58 hI tu
  replace c := c_neq tu lit_40 c
  have vin : ∀ {w1 : Wd}, w1.1 = w.1 → vp_in (w1.1 300 58) 40 := fun e => by rw [e]; exact vp_of tu (by omega) (by omega)
  refine ⟨vin rfl, ?_⟩
  intro w_2 e2
  have a2 : w_2.1 = w.1 := e1_A e2
  refine ⟨vin a2, ?_⟩
  intro w_3 e3
  have a3 : w_3.1 = w.1 := (e1_A e3).trans a2
  refine ⟨vin a3, ?_⟩
  intro w_4 e4
  have a4 : w_4.1 = w.1 := (e1_A e4).trans a3
  refine ⟨vin a4, ?_⟩
  intro w_5 e5
  have a5 : w_5.1 = w.1 := (e1_A e5).trans a4
  refine ⟨vin a5, ?_⟩
  intro w_6 e6
  have a6 : w_6.1 = w.1 := (e1_A e6).trans a5
  refine ⟨vin a6, ?_⟩
  intro w_7 e7
  have a7 : w_7.1 = w.1 := (e1_A e7).trans a6
  intro w_8 e8
  rw [a7] at e8
  rw [a2] at e3
  rw [a3] at e4
  have b8 : w_8.2.1 = w_7.2.1 := e2_I e8
  have oth : ∀ a, a ≠ 353 → a ≠ 354 → a ≠ 355 → a ≠ 356 → a ≠ 357 → a ≠ 358 → w_8.2.1 a = w.2.1 a := by
    intro a n1 n2 n3 n4 n5 n6
    rw [b8, e7, sA_ne n6, e6, sA_ne n5, e5, sA_ne n4, e4, sA_ne n3, e3, sA_ne n2, e2, sA_ne n1]
  have b353 : w_8.2.1 353 = upd (w.2.1 353) (w.1 300 58).toNatClampNeg x1 := by
    rw [b8, e7, sA_ne (by decide), e6, sA_ne (by decide), e5, sA_ne (by decide), e4, sA_ne (by decide), e3, sA_ne (by decide), e2, sA_eq]
  have b354 : w_8.2.1 354 = upd (w.2.1 354) (w.1 300 58).toNatClampNeg x2 := by
    rw [b8, e7, sA_ne (by decide), e6, sA_ne (by decide), e5, sA_ne (by decide), e4, sA_ne (by decide), e3, sA_eq, e2, sA_ne (by decide)]
  have b355 : w_8.2.1 355 = upd (w.2.1 355) (w.1 300 58).toNatClampNeg x3 := by
    rw [b8, e7, sA_ne (by decide), e6, sA_ne (by decide), e5, sA_ne (by decide), e4, sA_eq, e3, sA_ne (by decide), e2, sA_ne (by decide)]
  obtain ⟨v, tv, fv⟩ := t_add tu lit_1
  replace fv := fv (by omega)
  have s58 : w_8.1 300 58 = (w.1 300 58) + 1 := by rw [e8, sI_at]
  have sf : ∀ f, f ≠ 58 → w_8.1 300 f = w.1 300 f := fun f hf => by rw [e8, sI_ne (by omega), a7]
  have eu := i_cz tu
  obtain ⟨m0, m1, m2, m3, m4, m5, m6, m7, m8, m9, m10, m11, m12, m13, m14, m15⟩ := hI
  refine hp _ _ _ rfl ?_
  unfold IM
  rw [s58, sf 2 (by decide), sf 29 (by decide), sf 48 (by decide), sf 59 (by decide), sf 63 (by decide), sf 42 (by decide), sf 43 (by decide), oth 312 (by decide) (by decide) (by decide) (by decide) (by decide) (by decide), oth 314 (by decide) (by decide) (by decide) (by decide) (by decide) (by decide), oth 319 (by decide) (by decide) (by decide) (by decide) (by decide) (by decide), oth 320 (by decide) (by decide) (by decide) (by decide) (by decide) (by decide), oth 325 (by decide) (by decide) (by decide) (by decide) (by decide) (by decide), oth 341 (by decide) (by decide) (by decide) (by decide) (by decide) (by decide), oth 342 (by decide) (by decide) (by decide) (by decide) (by decide) (by decide), oth 369 (by decide) (by decide) (by decide) (by decide) (by decide) (by decide), oth 368 (by decide) (by decide) (by decide) (by decide) (by decide) (by decide), oth 321 (by decide) (by decide) (by decide) (by decide) (by decide) (by decide), oth 322 (by decide) (by decide) (by decide) (by decide) (by decide) (by decide), b353, b354, b355]
  refine ⟨m0, m1, m2, m3, Rg.m tv (by omega) (by omega), m5, m6, m7, m8, m9, m10, m11, m12, m13, ?_, m15⟩
  intro n hn he
  rw [show ((w.1 300 58) + 1).toInt = v from tv] at hn
  by_cases hq : n = (w.1 300 58).toNatClampNeg
  · rw [hq] at he ⊢
    rw [pk_us] at he
    rw [pk_us, pk_us]
    have := c_eq tx1 lit_3 he
    exact ⟨Rg.m tx2 (by omega) (by omega), Rg.m tx3 (by omega) (by omega)⟩
  · rw [pk_un hq] at he
    rw [pk_un hq, pk_un hq]
    exact m14 n (by rw [show (w.1 300 58).toInt = u from tu]; omega) he
set_option maxHeartbeats 4000000 in
set_option maxRecDepth 100000 in
theorem sX11_sample {T W H P S M : Int} {post : Int32 → Wd → Prop} {x1 : Int32} {zx1 : Int} {x2 : Int32} {zx2 : Int} {w : Wd}  (tx1 : Ti x1 zx1) (tx2 : Ti x2 zx2) (hI : IM T W H P S M w)  (hp : ∀ (r : Int32) (zr : Int) (w9 : Wd), Ti r zr → IM T W H P S M w9 → post r w9) : pX11_sample   post  x1 x2 w := by
  unfold pX11_sample
  have hk := im_k hI
  refine sX11_isRow   (hI := hI) (tx1 := tx1)  (hp := fun r_1v729 zr_1v729 tr_1v729 p1199 => ?_)
  refine ⟨fun c1200 => ?_, fun c1200 => ?_⟩
  · replace c1200 := c_eq tr_1v729 lit_0 c1200
    exact hp _ _ _  lit_m1 hI 
  · replace c1200 := c_neq tr_1v729 lit_0 c1200
    refine ⟨fun c1201 => ?_, fun c1201 => ?_⟩
    · replace c1201 := c_eq tx2 lit_0 c1201
      refine sX11_fact   (hI := hI) (tx1 := lit_0) (tx2 := tx1) (tx3 := lit_0) (tx4 := lit_0) (h0 := (by omega)) (hp := fun r_5v735 zr_5v735 w_6v736  tr_5v735 hIw_6v736  => ?_)
      exact hp _ _ _  tr_5v735 hIw_6v736 
    · replace c1201 := c_neq tx2 lit_0 c1201
      refine sX11_fact   (hI := hI) (tx1 := lit_0) (tx2 := tx1) (tx3 := lit_1) (tx4 := lit_0) (h0 := (by omega)) (hp := fun r_7v737 zr_7v737 w_8v738  tr_7v737 hIw_8v738  => ?_)
      exact hp _ _ _  tr_7v737 hIw_8v738 
set_option maxHeartbeats 4000000 in
set_option maxRecDepth 100000 in
theorem sX11_claim {T W H P S M : Int} {post : Int32 → Wd → Prop} {x1 : Int32} {zx1 : Int} {x2 : Int32} {zx2 : Int} {x3 : Int32} {zx3 : Int} {w : Wd}  (tx1 : Ti x1 zx1) (tx2 : Ti x2 zx2) (tx3 : Ti x3 zx3) (hI : IM T W H P S M w)  (hp : ∀ (r : Int32) (zr : Int) (w9 : Wd), Ti r zr → IM T W H P S M w9 → post r w9) : pX11_claim   post  x1 x2 x3 w := by
  unfold pX11_claim
  have hk := im_k hI
  refine sX11_isRow   (hI := hI) (tx1 := tx1)  (hp := fun r_1v739 zr_1v739 tr_1v739 p1202 => ?_)
  refine ⟨fun c1203 => ?_, fun c1203 => ?_⟩
  · replace c1203 := c_eq tr_1v739 lit_0 c1203
    exact hp _ _ _  lit_m1 hI 
  · replace c1203 := c_neq tr_1v739 lit_0 c1203
    refine sX11_isSeal   (hI := hI) (tx1 := tx2)  (hp := fun r_4v747 zr_4v747 tr_4v747 p1204 => ?_)
    refine ⟨fun c1205 => ?_, fun c1205 => ?_⟩
    · replace c1205 := c_eq tr_4v747 lit_0 c1205
      exact hp _ _ _  lit_m1 hI 
    · replace c1205 := c_neq tr_4v747 lit_0 c1205
      refine sX11_isIn   (hI := hI) (tx0 := tx3) (tx1 := lit_0) (tx2 := lit_999)  (hp := fun r_7v753 zr_7v753 tr_7v753 p1206 p1207 => ?_)
      refine ⟨fun c1208 => ?_, fun c1208 => ?_⟩
      · replace c1208 := c_eq tr_7v753 lit_0 c1208
        exact hp _ _ _  lit_m1 hI 
      · replace c1208 := c_neq tr_7v753 lit_0 c1208
        refine sX11_fact   (hI := hI) (tx1 := lit_1) (tx2 := tx1) (tx3 := tx2) (tx4 := tx3) (h0 := (by omega)) (hp := fun r_10v757 zr_10v757 w_11v758  tr_10v757 hIw_11v758  => ?_)
        exact hp _ _ _  tr_10v757 hIw_11v758 
set_option maxHeartbeats 4000000 in
set_option maxRecDepth 100000 in
theorem sX11_saw {T W H P S M : Int} {post : Int32 → Wd → Prop} {x1 : Int32} {zx1 : Int} {x2 : Int32} {zx2 : Int} {x3 : Int32} {zx3 : Int} {w : Wd}  (tx1 : Ti x1 zx1) (tx2 : Ti x2 zx2) (tx3 : Ti x3 zx3) (hI : IM T W H P S M w)  (hp : ∀ (r : Int32) (zr : Int) (w9 : Wd), Ti r zr → IM T W H P S M w9 → post r w9) : pX11_saw   post  x1 x2 x3 w := by
  unfold pX11_saw
  have hk := im_k hI
  refine sX11_width   (hI := hI)   (hp := fun r_1v759 zr_1v759 tr_1v759 p1209 => ?_)
  obtain ⟨z1210, t1211, f1212⟩ := t_sub tr_1v759 lit_1
  first | replace f1212 := f1212 (by omega) | clear f1212
  refine sX11_isIn   (hI := hI) (tx0 := tx1) (tx1 := lit_0) (tx2 := t1211)  (hp := fun r_3v769 zr_3v769 tr_3v769 p1213 p1214 => ?_)
  refine ⟨fun c1215 => ?_, fun c1215 => ?_⟩
  · replace c1215 := c_eq tr_3v769 lit_0 c1215
    exact hp _ _ _  lit_m1 hI 
  · replace c1215 := c_neq tr_3v769 lit_0 c1215
    refine sX11_isIn   (hI := hI) (tx0 := tx2) (tx1 := lit_0) (tx2 := lit_999)  (hp := fun r_6v777 zr_6v777 tr_6v777 p1216 p1217 => ?_)
    refine ⟨fun c1218 => ?_, fun c1218 => ?_⟩
    · replace c1218 := c_eq tr_6v777 lit_0 c1218
      exact hp _ _ _  lit_m1 hI 
    · replace c1218 := c_neq tr_6v777 lit_0 c1218
      refine ⟨fun c1219 => ?_, fun c1219 => ?_⟩
      · replace c1219 := c_eq tx3 lit_0 c1219
        refine sX11_fact   (hI := hI) (tx1 := lit_2) (tx2 := tx1) (tx3 := tx2) (tx4 := lit_0) (h0 := (by omega)) (hp := fun r_10v783 zr_10v783 w_11v784  tr_10v783 hIw_11v784  => ?_)
        exact hp _ _ _  tr_10v783 hIw_11v784 
      · replace c1219 := c_neq tx3 lit_0 c1219
        refine sX11_fact   (hI := hI) (tx1 := lit_2) (tx2 := tx1) (tx3 := tx2) (tx4 := lit_1) (h0 := (by omega)) (hp := fun r_12v785 zr_12v785 w_13v786  tr_12v785 hIw_13v786  => ?_)
        exact hp _ _ _  tr_12v785 hIw_13v786 
set_option maxHeartbeats 4000000 in
set_option maxRecDepth 100000 in
theorem sX11_link {T W H P S M : Int} {post : Int32 → Wd → Prop} {x1 : Int32} {zx1 : Int} {x2 : Int32} {zx2 : Int} {x3 : Int32} {zx3 : Int} {w : Wd}  (tx1 : Ti x1 zx1) (tx2 : Ti x2 zx2) (tx3 : Ti x3 zx3) (hI : IM T W H P S M w)  (hp : ∀ (r : Int32) (zr : Int) (w9 : Wd), Ti r zr → IM T W H P S M w9 → post r w9) : pX11_link   post  x1 x2 x3 w := by
  unfold pX11_link
  have hk := im_k hI
  refine sX11_isIn   (hI := hI) (tx0 := tx1) (tx1 := lit_0) (tx2 := lit_7)  (hp := fun r_1v787 zr_1v787 tr_1v787 p1220 p1221 => ?_)
  refine ⟨fun c1222 => ?_, fun c1222 => ?_⟩
  · replace c1222 := c_eq tr_1v787 lit_0 c1222
    exact hp _ _ _  lit_m1 hI 
  · replace c1222 := c_neq tr_1v787 lit_0 c1222
    refine sX11_isIn   (hI := hI) (tx0 := tx2) (tx1 := lit_0) (tx2 := lit_7)  (hp := fun r_4v795 zr_4v795 tr_4v795 p1223 p1224 => ?_)
    refine ⟨fun c1225 => ?_, fun c1225 => ?_⟩
    · replace c1225 := c_eq tr_4v795 lit_0 c1225
      exact hp _ _ _  lit_m1 hI 
    · replace c1225 := c_neq tr_4v795 lit_0 c1225
      refine ⟨fun c1226 => ?_, fun c1226 => ?_⟩
      · replace c1226 := c_eq tx1 tx2 c1226
        exact hp _ _ _  lit_m1 hI 
      · replace c1226 := c_neq tx1 tx2 c1226
        refine ⟨fun c1227 => ?_, fun c1227 => ?_⟩
        · replace c1227 := c_eq tx3 lit_0 c1227
          refine sX11_fact   (hI := hI) (tx1 := lit_3) (tx2 := tx1) (tx3 := tx2) (tx4 := lit_0) (h0 := (by omega)) (hp := fun r_9v801 zr_9v801 w_10v802  tr_9v801 hIw_10v802  => ?_)
          exact hp _ _ _  tr_9v801 hIw_10v802 
        · replace c1227 := c_neq tx3 lit_0 c1227
          refine sX11_fact   (hI := hI) (tx1 := lit_3) (tx2 := tx1) (tx3 := tx2) (tx4 := lit_1) (h0 := (by omega)) (hp := fun r_11v803 zr_11v803 w_12v804  tr_11v803 hIw_12v804  => ?_)
          exact hp _ _ _  tr_11v803 hIw_12v804 
set_option maxHeartbeats 4000000 in
set_option maxRecDepth 100000 in
theorem sX11_untell {T W H P S M : Int} {post : Int32 → Wd → Prop} {x1 : Int32} {zx1 : Int} {w : Wd}  (tx1 : Ti x1 zx1) (hI : IM T W H P S M w)  (hp : ∀ (r : Int32) (zr : Int) (w9 : Wd), Ti r zr → IM T W H P S M w9 → post r w9) : pX11_untell   post  x1 w := by
  unfold pX11_untell
  have hk := im_k hI
  obtain ⟨z1228, t1229⟩ := t_any (w.1 300 58)
  have f1230 := img_58 hI t1229
  obtain ⟨z1231, t1232, f1233⟩ := t_sub t1229 lit_1
  first | replace f1233 := f1233 (by omega) | clear f1233
  refine sX11_isIn   (hI := hI) (tx0 := tx1) (tx1 := lit_0) (tx2 := t1232)  (hp := fun r_1v805 zr_1v805 tr_1v805 p1234 p1235 => ?_)
  refine ⟨fun c1236 => ?_, fun c1236 => ?_⟩
  · replace c1236 := c_eq tr_1v805 lit_0 c1236
    exact hp _ _ _  lit_0 hI 
  · replace c1236 := c_neq tr_1v805 lit_0 c1236
    refine ⟨vp_of tx1 (by omega) (by omega), ?_⟩
    obtain ⟨z1237, t1238⟩ := t_any (w.2.1 358 x1.toNatClampNeg)
    refine ⟨fun c1240 => ?_, fun c1240 => ?_⟩
    · replace c1240 := c_lt t1238 lit_0 c1240
      refine ⟨vp_of tx1 (by omega) (by omega), ?_⟩
      intro w_5v808 ew_5v808
      have hIw_5v808 := ims_A hI ew_5v808 (by decide)
      exact hp _ _ _  lit_1 hIw_5v808 
    · replace c1240 := c_nlt t1238 lit_0 c1240
      exact hp _ _ _  lit_0 hI 
theorem sX11_later {T W H P S M : Int} {post : Int32 → Wd → Prop} {x1 : Int32} {zx1 : Int} {w : Wd} (tx1 : Ti x1 zx1) (hI : IM T W H P S M w) (hT : 0 ≤ T ∧ T ≤ 100000) (hp : ∀ (r : Int32) (zr : Int) (w9 : Wd) (T9 : Int), Ti r zr → IM T9 W H P S M w9 → (((0 ≤ zx1 ∧ zx1 ≤ 1000 ∧ T + zx1 ≤ 100000) ∧ T9 = T + zx1 ∧ zr = T9) ∨ (¬ (0 ≤ zx1 ∧ zx1 ≤ 1000 ∧ T + zx1 ≤ 100000) ∧ T9 = T ∧ zr = -1)) → post r w9) : pX11_later post x1 w := by
  unfold pX11_later
  obtain ⟨z, t⟩ := t_any (w.1 300 59)
  have b := img_59 hI t
  unfold pX11_isIn
  refine ⟨fun c => ?_, fun c => ⟨fun c2 => ?_, fun c2 => ?_⟩⟩
  · replace c := c_lt tx1 lit_0 c
    exact ⟨fun _ => hp _ _ _ _ lit_m1 hI (by omega), fun d => absurd rfl d⟩
  · replace c2 := c_lt lit_1000 tx1 c2
    exact ⟨fun _ => hp _ _ _ _ lit_m1 hI (by omega), fun d => absurd rfl d⟩
  · replace c := c_nlt tx1 lit_0 c
    replace c2 := c_nlt lit_1000 tx1 c2
    obtain ⟨y, u, f⟩ := t_add t tx1
    replace f := f (by omega)
    refine ⟨fun d => absurd d (by decide), fun _ => ⟨fun c3 => ?_, fun c3 => ?_⟩⟩
    · replace c3 := c_le u lit_100000 c3
      intro w_5 e5
      have i5 := ims_59 hI e5 u
      obtain ⟨z5, t5⟩ := t_any (w_5.1 300 59)
      have b5 := img_59 i5 t5
      exact hp _ _ _ _ t5 i5 (by omega)
    · replace c3 := c_nle u lit_100000 c3
      exact hp _ _ _ _ lit_m1 hI (by omega)
/-- from which the samples above a come -/
def FO (M r a : Int) (w : Wd) : Prop := ∀ i : Nat, a < (i : Int) → (i : Int) < M → (i : Int) ≠ r → Rg (w.2.1 362 i) 0 (M - 1)
section FOS
variable {M r a b z u : Int} {w w2 w9 : Wd}
theorem fo_0 (h : M ≤ a + 1) : FO M r a w := fun i h1 h2 _ => absurd h2 (by omega)
theorem fo_w (h : FO M r a w) (hb : a ≤ b) : FO M r b w := fun i h1 h2 h3 => h i (by omega) h2 h3
theorem fo_1 {i v : Int32} (h : FO M r a w) (e : w9 = sA w 362 i.toNatClampNeg v) (ti : Ti i a) (hr : a = r) (hb : b = a - 1 ∧ 0 ≤ a) : FO M r b w9 := by
  have q := i_cz ti
  intro j h1 h2 h3
  rw [e, sA_nx (by omega)]
  exact h j (by omega) h2 h3
theorem fo_2 {i v i2 v2 : Int32} (h : FO M r a w) (e : w2 = sA w 362 i.toNatClampNeg v) (ti : Ti i a) (e2 : w9 = sA w2 362 i2.toNatClampNeg v2) (ti2 : Ti i2 a) (tv : Ti v2 z) (h1 : 0 ≤ z) (h2 : z ≤ M - 1) (hb : b = a - 1 ∧ 0 ≤ a) : FO M r b w9 := by
  have q := i_cz ti
  have q2 := i_cz ti2
  intro j k1 k2 k3
  by_cases hj : j = i2.toNatClampNeg
  · rw [hj, e2, sA_at]
    exact Rg.m tv h1 h2
  · rw [e2, sA_nx hj, e, sA_nx (by omega)]
    exact h j (by omega) k2 k3
theorem fo_g {i : Int32} (h : FO M r a w) (ti : Ti i u) (tz : Ti (w.2.1 362 i.toNatClampNeg) z) : (a < u ∧ u < M ∧ u ≠ r ∧ 0 ≤ u) → 0 ≤ z ∧ z ≤ M - 1 := by
  intro k
  have q := i_cz ti
  exact Rg.g (h i.toNatClampNeg (by omega) (by omega) (by omega)) tz
end FOS
set_option maxHeartbeats 4000000 in
set_option maxRecDepth 100000 in
theorem sX11_changesOf_125 {T W H P S M : Int} {k109 : Int32 → Int32 → Int32 → Wd → Prop} {M109 : Int} {post : Int32 → Wd → Prop}  (hk109 : ∀ (x2 : Int32) (x4 : Int32) (x5 : Int32) (zx2 : Int) (zx4 : Int) (zx5 : Int) (w : Wd), Ti x2 zx2 → Ti x4 zx4 → Ti x5 zx5 → IM T W H P S M w → (0 ≤ zx5 ∧ zx5 ≤ M) → (0 ≤ zx2 ∧ zx2 < M) → (FO M zx2 (-1) w) → (M + 1 - zx5) < M109 → k109 x2 x4 x5 w) (hp : ∀ (r : Int32) (zr : Int) (w9 : Wd), Ti r zr → IM T W H P S M w9 → post r w9) : ∀ (n : Nat) (x2 : Int32) (x4 : Int32) (x5 : Int32) (x6 : Int32) (x7 : Int32) (zx2 : Int) (zx4 : Int) (zx5 : Int) (zx6 : Int) (zx7 : Int) (w : Wd), Ti x2 zx2 → Ti x4 zx4 → Ti x5 zx5 → Ti x6 zx6 → Ti x7 zx7 → IM T W H P S M w → (0 ≤ zx7 ∧ zx7 ≤ M) → (0 ≤ zx6 ∧ zx6 < M) → (zx5 < M) → (0 ≤ zx5 ∧ zx5 ≤ M) → (0 ≤ zx2 ∧ zx2 < M) → (FO M zx2 (-1) w) → ((M + 1 - zx5) ≤ M109) → (M + 1 - zx7) < (n : Int) → pX11_changesOf_125 k109  post  n x2 x4 x5 x6 x7 w := by
  intro n
  induction n with
  | zero =>
    intro x2 x4 x5 x6 x7 zx2 zx4 zx5 zx6 zx7 w tx2 tx4 tx5 tx6 tx7 hI h0 h1 h2 h3 h4 h5 h6 hm
    exact absurd hm (by omega)
  | succ n ih =>
    intro x2 x4 x5 x6 x7 zx2 zx4 zx5 zx6 zx7 w tx2 tx4 tx5 tx6 tx7 hI h0 h1 h2 h3 h4 h5 h6 hm
    unfold pX11_changesOf_125
    have hk := im_k hI
    obtain ⟨z1241, t1242⟩ := t_any (w.1 300 63)
    have f1243 := img_63 hI t1242
    refine ⟨fun c1244 => ?_, fun c1244 => ?_⟩
    · replace c1244 := c_le t1242 tx7 c1244
      unfold pX11_changesOf_155
      refine ⟨fun c1245 => ?_, fun c1245 => ?_⟩
      · replace c1245 := c_eq tx6 tx2 c1245
        obtain ⟨z1246, t1247, f1248⟩ := t_add tx5 lit_1
        first | replace f1248 := f1248 (by omega) | clear f1248
        intro x5_2v811 ex5_2v811
        have tx5_2v811 : Ti x5_2v811 z1246 := by rw [ex5_2v811]; exact t1247
        exact hk109 _ _ _ _ _ _ _ tx2 tx4 tx5_2v811 hI (by omega) (by omega) (fo_w h5 (by omega)) (by omega)
      · replace c1245 := c_neq tx6 tx2 c1245
        exact hp _ _ _  lit_m1 hI 
    · replace c1244 := c_nle t1242 tx7 c1244
      refine ⟨fun c1249 => ?_, fun c1249 => ?_⟩
      · replace c1249 := c_eq tx6 tx2 c1249
        unfold pX11_changesOf_155
        refine ⟨fun c1250 => ?_, fun c1250 => ?_⟩
        · replace c1250 := c_eq tx6 tx2 c1250
          obtain ⟨z1251, t1252, f1253⟩ := t_add tx5 lit_1
          first | replace f1253 := f1253 (by omega) | clear f1253
          intro x5_2v812 ex5_2v812
          have tx5_2v812 : Ti x5_2v812 z1251 := by rw [ex5_2v812]; exact t1252
          exact hk109 _ _ _ _ _ _ _ tx2 tx4 tx5_2v812 hI (by omega) (by omega) (fo_w h5 (by omega)) (by omega)
        · replace c1250 := c_neq tx6 tx2 c1250
          exact hp _ _ _  lit_m1 hI 
      · replace c1249 := c_neq tx6 tx2 c1249
        refine ⟨vp_of tx6 (by omega) (by omega), ?_⟩
        obtain ⟨z1254, t1255⟩ := t_any (w.2.1 362 x6.toNatClampNeg)
        have f1256 := fo_g h5 tx6 t1255
        first | replace f1256 := f1256 (by omega) | clear f1256
        intro x6_3v809 ex6_3v809
        have tx6_3v809 : Ti x6_3v809 z1254 := by rw [ex6_3v809]; exact t1255
        obtain ⟨z1257, t1258, f1259⟩ := t_add tx7 lit_1
        first | replace f1259 := f1259 (by omega) | clear f1259
        intro x7_4v810 ex7_4v810
        have tx7_4v810 : Ti x7_4v810 z1257 := by rw [ex7_4v810]; exact t1258
        exact ih _ _ _ _ _ _ _ _ _ _ _ tx2 tx4 tx5 tx6_3v809 tx7_4v810 hI (by omega) (by omega) (by omega) (by omega) (by omega) (fo_w h5 (by omega)) (by omega) (by omega)
