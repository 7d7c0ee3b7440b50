set_option maxHeartbeats 4000000 in
set_option maxRecDepth 100000 in
theorem sX11_nearest_27 {T W H P S M : Int} {post : Int32 → Wd → Prop} {w : Wd}  (hp : ∀ (r : Int32) (zr : Int), Ti r zr → post r w) : ∀ (n : Nat) (x1 : Int32) (x2 : Int32) (x3 : Int32) (x4 : Int32) (x5 : Int32) (zx1 : Int) (zx2 : Int) (zx3 : Int) (zx4 : Int) (zx5 : Int), Ti x1 zx1 → Ti x2 zx2 → Ti x3 zx3 → Ti x4 zx4 → Ti x5 zx5 → IM T W H P S M w → (0 ≤ zx5 ∧ zx5 ≤ 48) → (-1 ≤ zx3) → (49 - zx5) < (n : Int) → pX11_nearest_27   post  n x1 x2 x3 x4 x5 w := by
  intro n
  induction n with
  | zero =>
    intro x1 x2 x3 x4 x5 zx1 zx2 zx3 zx4 zx5  tx1 tx2 tx3 tx4 tx5 hI h0 h1 hm
    exact absurd hm (by omega)
  | succ n ih =>
    intro x1 x2 x3 x4 x5 zx1 zx2 zx3 zx4 zx5  tx1 tx2 tx3 tx4 tx5 hI h0 h1 hm
    unfold pX11_nearest_27
    have hk := im_k hI
    obtain ⟨z920, t921⟩ := t_any (w.2.1 341 (216 : Int32).toNatClampNeg)
    have f922 := img_216 hI t921
    obtain ⟨z923, t924, f925⟩ := t_mul lit_2 t921
    first | replace f925 := f925 (by omega) | clear f925
    refine ⟨fun c926 => ?_, fun c926 => ?_⟩
    · replace c926 := c_le t924 tx5 c926
      refine ⟨fun c927 => ?_, fun c927 => ?_⟩
      · replace c927 := c_neq tx2 lit_0 c927
        refine ⟨fun c928 => ?_, fun c928 => ?_⟩
        · replace c928 := c_neq tx2 lit_1 c928
          refine ⟨nz_of t921 (by omega), ?_⟩
          obtain ⟨z929, t930, f931⟩ := t_divv tx3 t921
          first | replace f931 := f931 (by omega) | clear f931
          exact hp _ _ t930 
        · replace c928 := c_eq tx2 lit_1 c928
          refine ⟨nz_of t921 (by omega), ?_⟩
          obtain ⟨z932, t933, f934⟩ := t_remv tx3 t921
          first | replace f934 := f934 (by omega) | clear f934
          exact hp _ _ t933 
      · replace c927 := c_eq tx2 lit_0 c927
        exact hp _ _ tx4 
    · replace c926 := c_nle t924 tx5 c926
      refine ⟨nz_of t921 (by omega), ?_⟩
      obtain ⟨z935, t936, f937⟩ := t_remv tx5 t921
      first | replace f937 := f937 (by omega) | clear f937
      intro x6_4v546 ex6_4v546
      have tx6_4v546 : Ti x6_4v546 z935 := by rw [ex6_4v546]; exact t936
      refine ⟨fun c938 => ?_, fun c938 => ?_⟩
      · replace c938 := c_le t921 tx5 c938
        refine sX11_rowOf   (hI := hI) (tx1 := tx6_4v546) (h0 := (by omega)) (hp := fun r_6v547 zr_6v547 tr_6v547 p939 => ?_)
        unfold pX11_nearest_88
        obtain ⟨z940, t941⟩ := t_any (x1 ^^^ r_6v547)
        refine sX11_bitsOf   (hI := hI) (tx0 := t941)  (hp := fun r_1v553 zr_1v553 tr_1v553 => ?_)
        refine ⟨fun c942 => ?_, fun c942 => ?_⟩
        · replace c942 := c_lt tx3 lit_0 c942
          unfold pX11_nearest_108
          unfold pX11_nearest_115
          obtain ⟨z943, t944, f945⟩ := t_add tx5 lit_1
          first | replace f945 := f945 (by omega) | clear f945
          intro x5_1v555 ex5_1v555
          have tx5_1v555 : Ti x5_1v555 z943 := by rw [ex5_1v555]; exact t944
          exact ih _ _ _ _ _ _ _ _ _ _  tx1 tx2 tx5 tr_1v553 tx5_1v555 hI (by omega) (by omega) (by omega)
        · replace c942 := c_nlt tx3 lit_0 c942
          refine ⟨fun c946 => ?_, fun c946 => ?_⟩
          · replace c946 := c_lt tr_1v553 tx4 c946
            unfold pX11_nearest_108
            unfold pX11_nearest_115
            obtain ⟨z947, t948, f949⟩ := t_add tx5 lit_1
            first | replace f949 := f949 (by omega) | clear f949
            intro x5_1v556 ex5_1v556
            have tx5_1v556 : Ti x5_1v556 z947 := by rw [ex5_1v556]; exact t948
            exact ih _ _ _ _ _ _ _ _ _ _  tx1 tx2 tx5 tr_1v553 tx5_1v556 hI (by omega) (by omega) (by omega)
          · replace c946 := c_nlt tr_1v553 tx4 c946
            unfold pX11_nearest_115
            obtain ⟨z950, t951, f952⟩ := t_add tx5 lit_1
            first | replace f952 := f952 (by omega) | clear f952
            intro x5_1v557 ex5_1v557
            have tx5_1v557 : Ti x5_1v557 z950 := by rw [ex5_1v557]; exact t951
            exact ih _ _ _ _ _ _ _ _ _ _  tx1 tx2 tx3 tx4 tx5_1v557 hI (by omega) (by omega) (by omega)
      · replace c938 := c_nle t921 tx5 c938
        refine sX11_rowOf   (hI := hI) (tx1 := tx6_4v546) (h0 := (by omega)) (hp := fun r_8v549 zr_8v549 tr_8v549 p953 => ?_)
        refine sX11_turnedRow   (hI := hI) (tx1 := tr_8v549)  (hp := fun r_10v558 zr_10v558 tr_10v558 => ?_)
        unfold pX11_nearest_88
        obtain ⟨z954, t955⟩ := t_any (x1 ^^^ r_10v558)
        refine sX11_bitsOf   (hI := hI) (tx0 := t955)  (hp := fun r_1v560 zr_1v560 tr_1v560 => ?_)
        refine ⟨fun c956 => ?_, fun c956 => ?_⟩
        · replace c956 := c_lt tx3 lit_0 c956
          unfold pX11_nearest_108
          unfold pX11_nearest_115
          obtain ⟨z957, t958, f959⟩ := t_add tx5 lit_1
          first | replace f959 := f959 (by omega) | clear f959
          intro x5_1v562 ex5_1v562
          have tx5_1v562 : Ti x5_1v562 z957 := by rw [ex5_1v562]; exact t958
          exact ih _ _ _ _ _ _ _ _ _ _  tx1 tx2 tx5 tr_1v560 tx5_1v562 hI (by omega) (by omega) (by omega)
        · replace c956 := c_nlt tx3 lit_0 c956
          refine ⟨fun c960 => ?_, fun c960 => ?_⟩
          · replace c960 := c_lt tr_1v560 tx4 c960
            unfold pX11_nearest_108
            unfold pX11_nearest_115
            obtain ⟨z961, t962, f963⟩ := t_add tx5 lit_1
            first | replace f963 := f963 (by omega) | clear f963
            intro x5_1v563 ex5_1v563
            have tx5_1v563 : Ti x5_1v563 z961 := by rw [ex5_1v563]; exact t962
            exact ih _ _ _ _ _ _ _ _ _ _  tx1 tx2 tx5 tr_1v560 tx5_1v563 hI (by omega) (by omega) (by omega)
          · replace c960 := c_nlt tr_1v560 tx4 c960
            unfold pX11_nearest_115
            obtain ⟨z964, t965, f966⟩ := t_add tx5 lit_1
            first | replace f966 := f966 (by omega) | clear f966
            intro x5_1v564 ex5_1v564
            have tx5_1v564 : Ti x5_1v564 z964 := by rw [ex5_1v564]; exact t965
            exact ih _ _ _ _ _ _ _ _ _ _  tx1 tx2 tx3 tx4 tx5_1v564 hI (by omega) (by omega) (by omega)
set_option maxHeartbeats 4000000 in
set_option maxRecDepth 100000 in
theorem sX11_nearest {T W H P S M : Int} {post : Int32 → Wd → Prop} {x1 : Int32} {zx1 : Int} {x2 : Int32} {zx2 : Int} {w : Wd}  (tx1 : Ti x1 zx1) (tx2 : Ti x2 zx2) (hI : IM T W H P S M w)  (hp : ∀ (r : Int32) (zr : Int), Ti r zr → post r w) : pX11_nearest   post  x1 x2 w := by
  unfold pX11_nearest
  have hk := im_k hI
  refine sX11_isRow   (hI := hI) (tx1 := tx1)  (hp := fun r_1v565 zr_1v565 tr_1v565 p967 => ?_)
  refine ⟨fun c968 => ?_, fun c968 => ?_⟩
  · replace c968 := c_eq tr_1v565 lit_0 c968
    exact hp _ _ lit_m1 
  · replace c968 := c_neq tr_1v565 lit_0 c968
    refine sX11_isIn   (hI := hI) (tx0 := tx2) (tx1 := lit_0) (tx2 := lit_2)  (hp := fun r_4v569 zr_4v569 tr_4v569 p969 p970 => ?_)
    refine ⟨fun c971 => ?_, fun c971 => ?_⟩
    · replace c971 := c_neq tr_4v569 lit_0 c971
      exact ⟨70000, sX11_nearest_27    (hp := hp) 70000 _ _ _ _ _ _ _ _ _ _  tx1 tx2 lit_m1 lit_0 lit_0 hI (by omega) (by omega) (by omega)⟩
    · replace c971 := c_eq tr_4v569 lit_0 c971
      exact hp _ _ lit_m1 
set_option maxHeartbeats 4000000 in
set_option maxRecDepth 100000 in
theorem sX11_common_78 {T W H P S M : Int} {post : Int32 → Wd → Prop} {w : Wd}  (hp : ∀ (r : Int32) (zr : Int), Ti r zr → post r w) : ∀ (n : Nat) (x1 : Int32) (x2 : Int32) (x3 : Int32) (zx1 : Int) (zx2 : Int) (zx3 : Int), Ti x1 zx1 → Ti x2 zx2 → Ti x3 zx3 → IM T W H P S M w → (0 ≤ zx3 ∧ zx3 ≤ 40) → (41 - zx3) < (n : Int) → pX11_common_78   post  n x1 x2 x3 w := by
  intro n
  induction n with
  | zero =>
    intro x1 x2 x3 zx1 zx2 zx3  tx1 tx2 tx3 hI h0 hm
    exact absurd hm (by omega)
  | succ n ih =>
    intro x1 x2 x3 zx1 zx2 zx3  tx1 tx2 tx3 hI h0 hm
    unfold pX11_common_78
    have hk := im_k hI
    obtain ⟨z972, t973⟩ := t_any (w.2.1 341 (217 : Int32).toNatClampNeg)
    have f974 := img_217 hI t973
    refine ⟨fun c975 => ?_, fun c975 => ?_⟩
    · replace c975 := c_le t973 tx3 c975
      exact hp _ _ tx2 
    · replace c975 := c_nle t973 tx3 c975
      refine ⟨fun c976 => ?_, fun c976 => ?_⟩
      · replace c976 := c_neq tx1 lit_2 c976
        exact hp _ _ tx2 
      · replace c976 := c_eq tx1 lit_2 c976
        obtain ⟨z977, t978, f979⟩ := t_mul lit_3 tx3
        first | replace f979 := f979 (by omega) | clear f979
        obtain ⟨z980, t981, f982⟩ := t_add lit_96 t978
        first | replace f982 := f982 (by omega) | clear f982
        refine ⟨vp_of t981 (by omega) (by omega), ?_⟩
        obtain ⟨z983, t984⟩ := t_any (x2 &&& (w.2.1 341 ((96 : Int32) + ((3 : Int32) * x3)).toNatClampNeg))
        intro x2_3v571 ex2_3v571
        have tx2_3v571 : Ti x2_3v571 z983 := by rw [ex2_3v571]; exact t984
        obtain ⟨z985, t986, f987⟩ := t_add tx3 lit_1
        first | replace f987 := f987 (by omega) | clear f987
        intro x3_4v572 ex3_4v572
        have tx3_4v572 : Ti x3_4v572 z985 := by rw [ex3_4v572]; exact t986
        exact ih _ _ _ _ _ _  tx1 tx2_3v571 tx3_4v572 hI (by omega) (by omega)
set_option maxHeartbeats 4000000 in
set_option maxRecDepth 100000 in
theorem sX11_common_31 {T W H P S M : Int} {post : Int32 → Wd → Prop} {w : Wd}  (hp : ∀ (r : Int32) (zr : Int), Ti r zr → post r w) : ∀ (n : Nat) (x1 : Int32) (x2 : Int32) (x3 : Int32) (zx1 : Int) (zx2 : Int) (zx3 : Int), Ti x1 zx1 → Ti x2 zx2 → Ti x3 zx3 → IM T W H P S M w → (0 ≤ zx3 ∧ zx3 ≤ 24) → (25 - zx3) < (n : Int) → pX11_common_31   post  n x1 x2 x3 w := by
  intro n
  induction n with
  | zero =>
    intro x1 x2 x3 zx1 zx2 zx3  tx1 tx2 tx3 hI h0 hm
    exact absurd hm (by omega)
  | succ n ih =>
    intro x1 x2 x3 zx1 zx2 zx3  tx1 tx2 tx3 hI h0 hm
    unfold pX11_common_31
    have hk := im_k hI
    obtain ⟨z988, t989⟩ := t_any (w.2.1 341 (216 : Int32).toNatClampNeg)
    have f990 := img_216 hI t989
    refine ⟨fun c991 => ?_, fun c991 => ?_⟩
    · replace c991 := c_le t989 tx3 c991
      unfold pX11_common_76
      exact ⟨70000, sX11_common_78    (hp := hp) 70000 _ _ _ _ _ _  tx1 tx2 lit_0 hI (by omega) (by omega)⟩
    · replace c991 := c_nle t989 tx3 c991
      refine ⟨fun c992 => ?_, fun c992 => ?_⟩
      · replace c992 := c_le lit_2 tx1 c992
        unfold pX11_common_76
        exact ⟨70000, sX11_common_78    (hp := hp) 70000 _ _ _ _ _ _  tx1 tx2 lit_0 hI (by omega) (by omega)⟩
      · replace c992 := c_nle lit_2 tx1 c992
        refine ⟨fun c993 => ?_, fun c993 => ?_⟩
        · replace c993 := c_neq tx1 lit_0 c993
          refine sX11_rowOf   (hI := hI) (tx1 := tx3) (h0 := (by omega)) (hp := fun r_4v573 zr_4v573 tr_4v573 p994 => ?_)
          unfold pX11_common_69
          obtain ⟨z995, t996, f997⟩ := t_add tx3 lit_1
          first | replace f997 := f997 (by omega) | clear f997
          intro x3_1v577 ex3_1v577
          have tx3_1v577 : Ti x3_1v577 z995 := by rw [ex3_1v577]; exact t996
          obtain ⟨z998, t999, f1000⟩ := t_orW hI tx2 tr_4v573
          first | replace f1000 := f1000 (by omega) | clear f1000
          exact ih _ _ _ _ _ _  tx1 t999 tx3_1v577 hI (by omega) (by omega)
        · replace c993 := c_eq tx1 lit_0 c993
          refine sX11_rowOf   (hI := hI) (tx1 := tx3) (h0 := (by omega)) (hp := fun r_6v575 zr_6v575 tr_6v575 p1001 => ?_)
          unfold pX11_common_69
          obtain ⟨z1002, t1003, f1004⟩ := t_add tx3 lit_1
          first | replace f1004 := f1004 (by omega) | clear f1004
          intro x3_1v578 ex3_1v578
          have tx3_1v578 : Ti x3_1v578 z1002 := by rw [ex3_1v578]; exact t1003
          obtain ⟨z1005, t1006⟩ := t_any (x2 &&& r_6v575)
          exact ih _ _ _ _ _ _  tx1 t1006 tx3_1v578 hI (by omega) (by omega)
set_option maxHeartbeats 4000000 in
set_option maxRecDepth 100000 in
theorem sX11_common {T W H P S M : Int} {post : Int32 → Wd → Prop} {x1 : Int32} {zx1 : Int} {w : Wd}  (tx1 : Ti x1 zx1) (hI : IM T W H P S M w)  (hp : ∀ (r : Int32) (zr : Int), Ti r zr → post r w) : pX11_common   post  x1 w := by
  unfold pX11_common
  have hk := im_k hI
  refine sX11_isIn   (hI := hI) (tx0 := tx1) (tx1 := lit_0) (tx2 := lit_2)  (hp := fun r_1v579 zr_1v579 tr_1v579 p1007 p1008 => ?_)
  refine ⟨fun c1009 => ?_, fun c1009 => ?_⟩
  · replace c1009 := c_neq tr_1v579 lit_0 c1009
    refine ⟨fun c1010 => ?_, fun c1010 => ?_⟩
    · replace c1010 := c_neq tx1 lit_1 c1010
      refine sX11_width   (hI := hI)   (hp := fun r_5v583 zr_5v583 tr_5v583 p1011 => ?_)
      unfold pX11_common_28
      obtain ⟨z1012, t1013, f1014⟩ := t_shlW hI tr_5v583
      first | replace f1014 := f1014 (by omega) | clear f1014
      obtain ⟨z1015, t1016, f1017⟩ := t_sub t1013 lit_1
      first | replace f1017 := f1017 (by omega) | clear f1017
      exact ⟨70000, sX11_common_31    (hp := hp) 70000 _ _ _ _ _ _  tx1 t1016 lit_0 hI (by omega) (by omega)⟩
    · replace c1010 := c_eq tx1 lit_1 c1010
      unfold pX11_common_28
      exact ⟨70000, sX11_common_31    (hp := hp) 70000 _ _ _ _ _ _  tx1 lit_0 lit_0 hI (by omega) (by omega)⟩
  · replace c1009 := c_eq tr_1v579 lit_0 c1009
    exact hp _ _ lit_m1 
set_option maxHeartbeats 4000000 in
set_option maxRecDepth 100000 in
theorem sX11_alike_15 {T W H P S M : Int} {post : Int32 → Wd → Prop} {w : Wd}  (hp : ∀ (r : Int32) (zr : Int), Ti r zr → post r w) : ∀ (n : Nat) (x1 : Int32) (x2 : Int32) (x3 : Int32) (x4 : Int32) (zx1 : Int) (zx2 : Int) (zx3 : Int) (zx4 : Int), Ti x1 zx1 → Ti x2 zx2 → Ti x3 zx3 → Ti x4 zx4 → IM T W H P S M w → (0 ≤ zx4 ∧ zx4 ≤ 24) → (25 - zx4) < (n : Int) → pX11_alike_15   post  n x1 x2 x3 x4 w := by
  intro n
  induction n with
  | zero =>
    intro x1 x2 x3 x4 zx1 zx2 zx3 zx4  tx1 tx2 tx3 tx4 hI h0 hm
    exact absurd hm (by omega)
  | succ n ih =>
    intro x1 x2 x3 x4 zx1 zx2 zx3 zx4  tx1 tx2 tx3 tx4 hI h0 hm
    unfold pX11_alike_15
    have hk := im_k hI
    obtain ⟨z1018, t1019⟩ := t_any (w.2.1 341 (216 : Int32).toNatClampNeg)
    have f1020 := img_216 hI t1019
    refine ⟨fun c1021 => ?_, fun c1021 => ?_⟩
    · replace c1021 := c_le t1019 tx4 c1021
      exact hp _ _ tx3 
    · replace c1021 := c_nle t1019 tx4 c1021
      refine ⟨fun c1022 => ?_, fun c1022 => ?_⟩
      · replace c1022 := c_eq tx2 lit_0 c1022
        refine sX11_rowOf   (hI := hI) (tx1 := tx4) (h0 := (by omega)) (hp := fun r_3v585 zr_3v585 tr_3v585 p1023 => ?_)
        unfold pX11_alike_51
        refine ⟨fun c1024 => ?_, fun c1024 => ?_⟩
        · replace c1024 := c_neq tr_3v585 tx1 c1024
          unfold pX11_alike_62
          obtain ⟨z1025, t1026, f1027⟩ := t_add tx4 lit_1
          first | replace f1027 := f1027 (by omega) | clear f1027
          intro x4_1v592 ex4_1v592
          have tx4_1v592 : Ti x4_1v592 z1025 := by rw [ex4_1v592]; exact t1026
          exact ih _ _ _ _ _ _ _ _  tx1 tx2 tx3 tx4_1v592 hI (by omega) (by omega)
        · replace c1024 := c_eq tr_3v585 tx1 c1024
          obtain ⟨z1028, t1029, f1030⟩ := t_shlW hI tx4
          first | replace f1030 := f1030 (by omega) | clear f1030
          obtain ⟨z1031, t1032, f1033⟩ := t_orW hI tx3 t1029
          first | replace f1033 := f1033 (by omega) | clear f1033
          intro x3_2v591 ex3_2v591
          have tx3_2v591 : Ti x3_2v591 z1031 := by rw [ex3_2v591]; exact t1032
          unfold pX11_alike_62
          obtain ⟨z1034, t1035, f1036⟩ := t_add tx4 lit_1
          first | replace f1036 := f1036 (by omega) | clear f1036
          intro x4_1v593 ex4_1v593
          have tx4_1v593 : Ti x4_1v593 z1034 := by rw [ex4_1v593]; exact t1035
          exact ih _ _ _ _ _ _ _ _  tx1 tx2 tx3_2v591 tx4_1v593 hI (by omega) (by omega)
      · replace c1022 := c_neq tx2 lit_0 c1022
        refine sX11_rowOf   (hI := hI) (tx1 := tx4) (h0 := (by omega)) (hp := fun r_5v587 zr_5v587 tr_5v587 p1037 => ?_)
        refine sX11_turnedRow   (hI := hI) (tx1 := tr_5v587)  (hp := fun r_7v594 zr_7v594 tr_7v594 => ?_)
        unfold pX11_alike_51
        refine ⟨fun c1038 => ?_, fun c1038 => ?_⟩
        · replace c1038 := c_neq tr_7v594 tx1 c1038
          unfold pX11_alike_62
          obtain ⟨z1039, t1040, f1041⟩ := t_add tx4 lit_1
          first | replace f1041 := f1041 (by omega) | clear f1041
          intro x4_1v597 ex4_1v597
          have tx4_1v597 : Ti x4_1v597 z1039 := by rw [ex4_1v597]; exact t1040
          exact ih _ _ _ _ _ _ _ _  tx1 tx2 tx3 tx4_1v597 hI (by omega) (by omega)
        · replace c1038 := c_eq tr_7v594 tx1 c1038
          obtain ⟨z1042, t1043, f1044⟩ := t_shlW hI tx4
          first | replace f1044 := f1044 (by omega) | clear f1044
          obtain ⟨z1045, t1046, f1047⟩ := t_orW hI tx3 t1043
          first | replace f1047 := f1047 (by omega) | clear f1047
          intro x3_2v596 ex3_2v596
          have tx3_2v596 : Ti x3_2v596 z1045 := by rw [ex3_2v596]; exact t1046
          unfold pX11_alike_62
          obtain ⟨z1048, t1049, f1050⟩ := t_add tx4 lit_1
          first | replace f1050 := f1050 (by omega) | clear f1050
          intro x4_1v598 ex4_1v598
          have tx4_1v598 : Ti x4_1v598 z1048 := by rw [ex4_1v598]; exact t1049
          exact ih _ _ _ _ _ _ _ _  tx1 tx2 tx3_2v596 tx4_1v598 hI (by omega) (by omega)
set_option maxHeartbeats 4000000 in
set_option maxRecDepth 100000 in
theorem sX11_alike {T W H P S M : Int} {post : Int32 → Wd → Prop} {x1 : Int32} {zx1 : Int} {x2 : Int32} {zx2 : Int} {w : Wd}  (tx1 : Ti x1 zx1) (tx2 : Ti x2 zx2) (hI : IM T W H P S M w)  (hp : ∀ (r : Int32) (zr : Int), Ti r zr → post r w) : pX11_alike   post  x1 x2 w := by
  unfold pX11_alike
  have hk := im_k hI
  refine sX11_isRow   (hI := hI) (tx1 := tx1)  (hp := fun r_1v599 zr_1v599 tr_1v599 p1051 => ?_)
  refine ⟨fun c1052 => ?_, fun c1052 => ?_⟩
  · replace c1052 := c_neq tr_1v599 lit_0 c1052
    exact ⟨70000, sX11_alike_15    (hp := hp) 70000 _ _ _ _ _ _ _ _  tx1 tx2 lit_0 lit_0 hI (by omega) (by omega)⟩
  · replace c1052 := c_eq tr_1v599 lit_0 c1052
    exact hp _ _ lit_m1 
set_option maxHeartbeats 4000000 in
set_option maxRecDepth 100000 in
theorem sX11_doTell_16 {T W H P S M : Int} {k2 : Int32 → Int32 → Wd → Prop} {M2 : Int} {post : Int32 → Wd → Prop} {w : Wd} (hk2 : ∀ (x1 : Int32) (x2 : Int32) (zx1 : Int) (zx2 : Int), Ti x1 zx1 → Ti x2 zx2 → IM T W H P S M w → (0 ≤ zx2 ∧ zx2 ≤ 24) → (25 - zx2) < M2 → k2 x1 x2 w) (hp : ∀ (r : Int32) (zr : Int), Ti r zr → post r w) : ∀ (n : Nat) (x1 : Int32) (x2 : Int32) (x3 : Int32) (zx1 : Int) (zx2 : Int) (zx3 : Int), Ti x1 zx1 → Ti x2 zx2 → Ti x3 zx3 → IM T W H P S M w → (0 ≤ zx3 ∧ zx3 ≤ 24) → (zx2 < S) → (0 ≤ zx2 ∧ zx2 ≤ 24) → ((25 - zx2) ≤ M2) → (25 - zx3) < (n : Int) → pX11_doTell_16 k2  post  n x1 x2 x3 w := by
  intro n
  induction n with
  | zero =>
    intro x1 x2 x3 zx1 zx2 zx3  tx1 tx2 tx3 hI h0 h1 h2 h3 hm
    exact absurd hm (by omega)
  | succ n ih =>
    intro x1 x2 x3 zx1 zx2 zx3  tx1 tx2 tx3 hI h0 h1 h2 h3 hm
    unfold pX11_doTell_16
    have hk := im_k hI
    refine ⟨fun c1053 => ?_, fun c1053 => ?_⟩
    · replace c1053 := c_le tx2 tx3 c1053
      obtain ⟨z1054, t1055, f1056⟩ := t_add tx2 lit_1
      first | replace f1056 := f1056 (by omega) | clear f1056
      intro x2_2v601 ex2_2v601
      have tx2_2v601 : Ti x2_2v601 z1054 := by rw [ex2_2v601]; exact t1055
      exact hk2 _ _ _ _  tx1 tx2_2v601 hI (by omega) (by omega)
    · replace c1053 := c_nle tx2 tx3 c1053
      refine sX11_rowOf   (hI := hI) (tx1 := tx2) (h0 := (by omega)) (hp := fun r_3v602 zr_3v602 tr_3v602 p1057 => ?_)
      refine sX11_rowOf   (hI := hI) (tx1 := tx3) (h0 := (by omega)) (hp := fun r_5v610 zr_5v610 tr_5v610 p1058 => ?_)
      refine ⟨fun c1059 => ?_, fun c1059 => ?_⟩
      · replace c1059 := c_eq tr_3v602 tr_5v610 c1059
        unfold pX11_doTell_52
        obtain ⟨z1060, t1061, f1062⟩ := t_add tx3 lit_1
        first | replace f1062 := f1062 (by omega) | clear f1062
        intro x3_1v620 ex3_1v620
        have tx3_1v620 : Ti x3_1v620 z1060 := by rw [ex3_1v620]; exact t1061
        exact ih _ _ _ _ _ _  tx1 tx2 tx3_1v620 hI (by omega) (by omega) (by omega) (by omega) (by omega)
      · replace c1059 := c_neq tr_3v602 tr_5v610 c1059
        refine sX11_rowOf   (hI := hI) (tx1 := tx2) (h0 := (by omega)) (hp := fun r_8v616 zr_8v616 tr_8v616 p1063 => ?_)
        refine sX11_rowOf   (hI := hI) (tx1 := tx3) (h0 := (by omega)) (hp := fun r_10v621 zr_10v621 tr_10v621 p1064 => ?_)
        obtain ⟨z1065, t1066⟩ := t_any ((r_8v616 ^^^ r_10v621) &&& x1)
        refine ⟨fun c1067 => ?_, fun c1067 => ?_⟩
        · replace c1067 := c_neq t1066 lit_0 c1067
          unfold pX11_doTell_52
          obtain ⟨z1068, t1069, f1070⟩ := t_add tx3 lit_1
          first | replace f1070 := f1070 (by omega) | clear f1070
          intro x3_1v623 ex3_1v623
          have tx3_1v623 : Ti x3_1v623 z1068 := by rw [ex3_1v623]; exact t1069
          exact ih _ _ _ _ _ _  tx1 tx2 tx3_1v623 hI (by omega) (by omega) (by omega) (by omega) (by omega)
        · replace c1067 := c_eq t1066 lit_0 c1067
          exact hp _ _ lit_0 
set_option maxHeartbeats 4000000 in
set_option maxRecDepth 100000 in
theorem sX11_doTell_2 {T W H P S M : Int} {post : Int32 → Wd → Prop} {w : Wd}  (hp : ∀ (r : Int32) (zr : Int), Ti r zr → post r w) : ∀ (n : Nat) (x1 : Int32) (x2 : Int32) (zx1 : Int) (zx2 : Int), Ti x1 zx1 → Ti x2 zx2 → IM T W H P S M w → (0 ≤ zx2 ∧ zx2 ≤ 24) → (25 - zx2) < (n : Int) → pX11_doTell_2   post  n x1 x2 w := by
  intro n
  induction n with
  | zero =>
    intro x1 x2 zx1 zx2  tx1 tx2 hI h0 hm
    exact absurd hm (by omega)
  | succ n ih =>
    intro x1 x2 zx1 zx2  tx1 tx2 hI h0 hm
    unfold pX11_doTell_2
    have hk := im_k hI
    obtain ⟨z1071, t1072⟩ := t_any (w.2.1 341 (216 : Int32).toNatClampNeg)
    have f1073 := img_216 hI t1072
    refine ⟨fun c1074 => ?_, fun c1074 => ?_⟩
    · replace c1074 := c_le t1072 tx2 c1074
      exact hp _ _ lit_1 
    · replace c1074 := c_nle t1072 tx2 c1074
      exact ⟨70000, sX11_doTell_16  (M2 := (n : Int)) (hk2 := ih)  (hp := hp) 70000 _ _ _ _ _ _  tx1 tx2 lit_0 hI (by omega) (by omega) (by omega) (by omega) (by omega)⟩
set_option maxHeartbeats 4000000 in
set_option maxRecDepth 100000 in
theorem sX11_doTell {T W H P S M : Int} {post : Int32 → Wd → Prop} {x1 : Int32} {zx1 : Int} {w : Wd}  (tx1 : Ti x1 zx1) (hI : IM T W H P S M w)  (hp : ∀ (r : Int32) (zr : Int), Ti r zr → post r w) : pX11_doTell   post  x1 w := by
  unfold pX11_doTell
  have hk := im_k hI
  exact ⟨70000, sX11_doTell_2    (hp := hp) 70000 _ _ _ _  tx1 lit_0 hI (by omega) (by omega)⟩
set_option maxHeartbeats 4000000 in
set_option maxRecDepth 100000 in
theorem sX11_tell_52 {T W H P S M : Int} {post : Int32 → Wd → Prop}   (hp : ∀ (r : Int32) (zr : Int) (w9 : Wd), Ti r zr → IM T W H P S M w9 → post r w9) : ∀ (n : Nat) (x1 : Int32) (x2 : Int32) (zx1 : Int) (zx2 : Int) (w : Wd), Ti x1 zx1 → Ti x2 zx2 → IM T W H P S M w → (0 ≤ zx2 ∧ zx2 ≤ 12) → (Rg (w.1 300 48) 0 zx2) → (13 - zx2) < (n : Int) → pX11_tell_52   post  n x1 x2 w := by
  intro n
  induction n with
  | zero =>
    intro x1 x2 zx1 zx2 w tx1 tx2 hI h0 h1 hm
    exact absurd hm (by omega)
  | succ n ih =>
    intro x1 x2 zx1 zx2 w tx1 tx2 hI h0 h1 hm
    unfold pX11_tell_52
    have hk := im_k hI
    obtain ⟨z1075, t1076⟩ := t_any (w.1 300 48)
    have f1077 := img_48 hI t1076
    have f1078 := Rg.g h1 t1076
    refine sX11_width   (hI := hI)   (hp := fun r_1v624 zr_1v624 tr_1v624 p1079 => ?_)
    refine ⟨fun c1080 => ?_, fun c1080 => ?_⟩
    · replace c1080 := c_le tr_1v624 tx2 c1080
      exact hp _ _ _  t1076 hI 
    · replace c1080 := c_nle tr_1v624 tx2 c1080
      obtain ⟨z1081, t1082, f1083⟩ := t_and (x := (x1 >>> (x2 &&& 31))) lit_1 (by decide)
      refine ⟨fun c1084 => ?_, fun c1084 => ?_⟩
      · replace c1084 := c_neq t1082 lit_0 c1084
        refine ⟨vp_of t1076 (by omega) (by omega), ?_⟩
        intro w_5v628 ew_5v628
        have hIw_5v628 := ims_A hI ew_5v628 (by decide)
        intro w_6v629 ew_6v629
        have t1085 : Ti (w_5v628.1 300 48) z1075 := by rw [e1_A ew_5v628]; exact t1076
        obtain ⟨z1086, t1087, f1088⟩ := t_add t1085 lit_1
        first | replace f1088 := f1088 (by omega) | clear f1088
        have hIw_6v629 := ims_48 hIw_5v628 ew_6v629 t1087 (by omega) (by omega)
        unfold pX11_tell_91
        obtain ⟨z1089, t1090, f1091⟩ := t_add tx2 lit_1
        first | replace f1091 := f1091 (by omega) | clear f1091
        intro x2_1v630 ex2_1v630
        have tx2_1v630 : Ti x2_1v630 z1089 := by rw [ex2_1v630]; exact t1090
        have t1092 : Ti (w_6v629.1 300 48) z1086 := by rw [ew_6v629, sI_at]; exact t1087
        exact ih _ _ _ _ _ tx1 tx2_1v630 hIw_6v629 (by omega) (Rg.m t1092 (by omega) (by omega)) (by omega)
      · replace c1084 := c_eq t1082 lit_0 c1084
        unfold pX11_tell_91
        obtain ⟨z1093, t1094, f1095⟩ := t_add tx2 lit_1
        first | replace f1095 := f1095 (by omega) | clear f1095
        intro x2_1v631 ex2_1v631
        have tx2_1v631 : Ti x2_1v631 z1093 := by rw [ex2_1v631]; exact t1094
        exact ih _ _ _ _ _ tx1 tx2_1v631 hI (by omega) (Rg.m t1076 (by omega) (by omega)) (by omega)
set_option maxHeartbeats 4000000 in
set_option maxRecDepth 100000 in
theorem sX11_tell_4 {T W H P S M : Int} {post : Int32 → Wd → Prop}   (hp : ∀ (r : Int32) (zr : Int) (w9 : Wd), Ti r zr → IM T W H P S M w9 → post r w9) : ∀ (n : Nat) (x1 : Int32) (x2 : Int32) (zx1 : Int) (zx2 : Int) (w : Wd), Ti x1 zx1 → Ti x2 zx2 → IM T W H P S M w → (0 ≤ zx2 ∧ zx2 ≤ 4096) → (4097 - zx2) < (n : Int) → pX11_tell_4   post  n x1 x2 w := by
  intro n
  induction n with
  | zero =>
    intro x1 x2 zx1 zx2 w tx1 tx2 hI h0 hm
    exact absurd hm (by omega)
  | succ n ih =>
    intro x1 x2 zx1 zx2 w tx1 tx2 hI h0 hm
    unfold pX11_tell_4
    have hk := im_k hI
    refine sX11_width   (hI := hI)   (hp := fun r_1v632 zr_1v632 tr_1v632 p1096 => ?_)
    obtain ⟨z1097, t1098, f1099⟩ := t_shlW hI tr_1v632
    first | replace f1099 := f1099 (by omega) | clear f1099
    refine ⟨fun c1100 => ?_, fun c1100 => ?_⟩
    · replace c1100 := c_le t1098 tx2 c1100
      intro w_4v639 ew_4v639
      have hIw_4v639 := ims_48 hI ew_4v639 lit_0 (by omega) (by omega)
      have t1101 : Ti (w_4v639.1 300 48) 0 := by rw [ew_4v639, sI_at]; exact lit_0
      exact ⟨70000, sX11_tell_52    (hp := hp) 70000 _ _ _ _ _ tx1 lit_0 hIw_4v639 (by omega) (Rg.m t1101 (by omega) (by omega)) (by omega)⟩
    · replace c1100 := c_nle t1098 tx2 c1100
      refine ⟨fun c1102 => ?_, fun c1102 => ?_⟩
      · replace c1102 := c_lt tx1 lit_0 c1102
        unfold pX11_tell_29
        refine sX11_doTell   (hI := hI) (tx1 := tx2)  (hp := fun r_1v644 zr_1v644 tr_1v644 => ?_)
        refine ⟨fun c1103 => ?_, fun c1103 => ?_⟩
        · replace c1103 := c_eq tr_1v644 lit_0 c1103
          unfold pX11_tell_39
          obtain ⟨z1104, t1105, f1106⟩ := t_add tx2 lit_1
          first | replace f1106 := f1106 (by omega) | clear f1106
          intro x2_1v646 ex2_1v646
          have tx2_1v646 : Ti x2_1v646 z1104 := by rw [ex2_1v646]; exact t1105
          exact ih _ _ _ _ _ tx1 tx2_1v646 hI (by omega) (by omega)
        · replace c1103 := c_neq tr_1v644 lit_0 c1103
          unfold pX11_tell_39
          obtain ⟨z1107, t1108, f1109⟩ := t_add tx2 lit_1
          first | replace f1109 := f1109 (by omega) | clear f1109
          intro x2_1v647 ex2_1v647
          have tx2_1v647 : Ti x2_1v647 z1107 := by rw [ex2_1v647]; exact t1108
          exact ih _ _ _ _ _ tx2 tx2_1v647 hI (by omega) (by omega)
      · replace c1102 := c_nlt tx1 lit_0 c1102
        refine sX11_bitsOf   (hI := hI) (tx0 := tx2)  (hp := fun r_6v640 zr_6v640 tr_6v640 => ?_)
        refine sX11_bitsOf   (hI := hI) (tx0 := tx1)  (hp := fun r_8v648 zr_8v648 tr_8v648 => ?_)
        refine ⟨fun c1110 => ?_, fun c1110 => ?_⟩
        · replace c1110 := c_le tr_8v648 tr_6v640 c1110
          unfold pX11_tell_39
          obtain ⟨z1111, t1112, f1113⟩ := t_add tx2 lit_1
          first | replace f1113 := f1113 (by omega) | clear f1113
          intro x2_1v650 ex2_1v650
          have tx2_1v650 : Ti x2_1v650 z1111 := by rw [ex2_1v650]; exact t1112
          exact ih _ _ _ _ _ tx1 tx2_1v650 hI (by omega) (by omega)
        · replace c1110 := c_nle tr_8v648 tr_6v640 c1110
          unfold pX11_tell_29
          refine sX11_doTell   (hI := hI) (tx1 := tx2)  (hp := fun r_1v651 zr_1v651 tr_1v651 => ?_)
          refine ⟨fun c1114 => ?_, fun c1114 => ?_⟩
          · replace c1114 := c_eq tr_1v651 lit_0 c1114
            unfold pX11_tell_39
            obtain ⟨z1115, t1116, f1117⟩ := t_add tx2 lit_1
            first | replace f1117 := f1117 (by omega) | clear f1117
            intro x2_1v653 ex2_1v653
            have tx2_1v653 : Ti x2_1v653 z1115 := by rw [ex2_1v653]; exact t1116
            exact ih _ _ _ _ _ tx1 tx2_1v653 hI (by omega) (by omega)
          · replace c1114 := c_neq tr_1v651 lit_0 c1114
            unfold pX11_tell_39
            obtain ⟨z1118, t1119, f1120⟩ := t_add tx2 lit_1
            first | replace f1120 := f1120 (by omega) | clear f1120
            intro x2_1v654 ex2_1v654
            have tx2_1v654 : Ti x2_1v654 z1118 := by rw [ex2_1v654]; exact t1119
            exact ih _ _ _ _ _ tx2 tx2_1v654 hI (by omega) (by omega)
set_option maxHeartbeats 4000000 in
set_option maxRecDepth 100000 in
theorem sX11_tell {T W H P S M : Int} {post : Int32 → Wd → Prop}  {w : Wd}   (hI : IM T W H P S M w)  (hp : ∀ (r : Int32) (zr : Int) (w9 : Wd), Ti r zr → IM T W H P S M w9 → post r w9) : pX11_tell   post   w := by
  unfold pX11_tell
  have hk := im_k hI
  exact ⟨70000, sX11_tell_4    (hp := hp) 70000 _ _ _ _ _ lit_m1 lit_0 hI (by omega) (by omega)⟩
set_option maxHeartbeats 4000000 in
set_option maxRecDepth 100000 in
theorem sX11_steady_35 {T W H P S M : Int} {post : Int32 → Wd → Prop}   (hp : ∀ (r : Int32) (zr : Int) (w9 : Wd), Ti r zr → IM T W H P S M w9 → post r w9) : ∀ (n : Nat) (x1 : Int32) (x2 : Int32) (x3 : Int32) (x4 : Int32) (x5 : Int32) (x6 : Int32) (zx1 : Int) (zx2 : Int) (zx3 : Int) (zx4 : Int) (zx5 : Int) (zx6 : Int) (w : Wd), Ti x1 zx1 → Ti x2 zx2 → Ti x3 zx3 → Ti x4 zx4 → Ti x5 zx5 → Ti x6 zx6 → IM T W H P S M w → (0 ≤ zx6 ∧ zx6 ≤ 4096) → (0 ≤ zx1 ∧ zx1 < H) → (4097 - zx6) < (n : Int) → pX11_steady_35   post  n x1 x2 x3 x4 x5 x6 w := by
  intro n
  induction n with
  | zero =>
    intro x1 x2 x3 x4 x5 x6 zx1 zx2 zx3 zx4 zx5 zx6 w tx1 tx2 tx3 tx4 tx5 tx6 hI h0 h1 hm
    exact absurd hm (by omega)
  | succ n ih =>
    intro x1 x2 x3 x4 x5 x6 zx1 zx2 zx3 zx4 zx5 zx6 w tx1 tx2 tx3 tx4 tx5 tx6 hI h0 h1 hm
    unfold pX11_steady_35
    have hk := im_k hI
    refine sX11_width   (hI := hI)   (hp := fun r_1v655 zr_1v655 tr_1v655 p1121 => ?_)
    obtain ⟨z1122, t1123, f1124⟩ := t_shlW hI tr_1v655
    first | replace f1124 := f1124 (by omega) | clear f1124
    refine ⟨fun c1125 => ?_, fun c1125 => ?_⟩
    · replace c1125 := c_le t1123 tx6 c1125
      refine ⟨fun c1126 => ?_, fun c1126 => ?_⟩
      · replace c1126 := c_neq tx3 lit_0 c1126
        exact hp _ _ _  tx5 hI 
      · replace c1126 := c_eq tx3 lit_0 c1126
        exact hp _ _ _  tx4 hI 
    · replace c1125 := c_nle t1123 tx6 c1125
      refine sX11_castOf   (hI := hI) (tx1 := tx6) (tx2 := tx1) (tx3 := tx2) (tx4 := lit_0) (h0 := (by omega)) (hp := fun r_5v666 zr_5v666 w_6v667  tr_5v666 hIw_6v667 p1127 => ?_)
      refine sX11_castOf   (hI := hIw_6v667) (tx1 := tr_5v666) (tx2 := tx1) (tx3 := tx2) (tx4 := lit_0) (h0 := (by omega)) (hp := fun r_7v668 zr_7v668 w_8v669  tr_7v668 hIw_8v669 p1128 => ?_)
      refine ⟨fun c1129 => ?_, fun c1129 => ?_⟩
      · replace c1129 := c_eq tr_7v668 tx6 c1129
        obtain ⟨z1130, t1131, f1132⟩ := t_add tx4 lit_1
        first | replace f1132 := f1132 (by omega) | clear f1132
        intro x4_10v670 ex4_10v670
        have tx4_10v670 : Ti x4_10v670 z1130 := by rw [ex4_10v670]; exact t1131
        refine ⟨fun c1133 => ?_, fun c1133 => ?_⟩
        · replace c1133 := c_lt tx5 lit_0 c1133
          unfold pX11_steady_91
          unfold pX11_steady_95
          obtain ⟨z1134, t1135, f1136⟩ := t_add tx6 lit_1
          first | replace f1136 := f1136 (by omega) | clear f1136
          intro x6_1v675 ex6_1v675
          have tx6_1v675 : Ti x6_1v675 z1134 := by rw [ex6_1v675]; exact t1135
          exact ih _ _ _ _ _ _ _ _ _ _ _ _ _ tx1 tx2 tx3 tx4_10v670 tx6 tx6_1v675 hIw_8v669 (by omega) (by omega) (by omega)
        · replace c1133 := c_nlt tx5 lit_0 c1133
          refine sX11_bitsOf   (hI := hIw_8v669) (tx0 := tx6)  (hp := fun r_12v671 zr_12v671 tr_12v671 => ?_)
          refine sX11_bitsOf   (hI := hIw_8v669) (tx0 := tx5)  (hp := fun r_14v676 zr_14v676 tr_14v676 => ?_)
          refine ⟨fun c1137 => ?_, fun c1137 => ?_⟩
          · replace c1137 := c_le tr_12v671 tr_14v676 c1137
            unfold pX11_steady_95
            obtain ⟨z1138, t1139, f1140⟩ := t_add tx6 lit_1
            first | replace f1140 := f1140 (by omega) | clear f1140
            intro x6_1v678 ex6_1v678
            have tx6_1v678 : Ti x6_1v678 z1138 := by rw [ex6_1v678]; exact t1139
            exact ih _ _ _ _ _ _ _ _ _ _ _ _ _ tx1 tx2 tx3 tx4_10v670 tx5 tx6_1v678 hIw_8v669 (by omega) (by omega) (by omega)
          · replace c1137 := c_nle tr_12v671 tr_14v676 c1137
            unfold pX11_steady_91
            unfold pX11_steady_95
            obtain ⟨z1141, t1142, f1143⟩ := t_add tx6 lit_1
            first | replace f1143 := f1143 (by omega) | clear f1143
            intro x6_1v679 ex6_1v679
            have tx6_1v679 : Ti x6_1v679 z1141 := by rw [ex6_1v679]; exact t1142
            exact ih _ _ _ _ _ _ _ _ _ _ _ _ _ tx1 tx2 tx3 tx4_10v670 tx6 tx6_1v679 hIw_8v669 (by omega) (by omega) (by omega)
      · replace c1129 := c_neq tr_7v668 tx6 c1129
        unfold pX11_steady_95
        obtain ⟨z1144, t1145, f1146⟩ := t_add tx6 lit_1
        first | replace f1146 := f1146 (by omega) | clear f1146
        intro x6_1v680 ex6_1v680
        have tx6_1v680 : Ti x6_1v680 z1144 := by rw [ex6_1v680]; exact t1145
        exact ih _ _ _ _ _ _ _ _ _ _ _ _ _ tx1 tx2 tx3 tx4 tx5 tx6_1v680 hIw_8v669 (by omega) (by omega) (by omega)
set_option maxHeartbeats 4000000 in
set_option maxRecDepth 100000 in
theorem sX11_steady {T W H P S M : Int} {post : Int32 → Wd → Prop} {x1 : Int32} {zx1 : Int} {x2 : Int32} {zx2 : Int} {x3 : Int32} {zx3 : Int} {w : Wd}  (tx1 : Ti x1 zx1) (tx2 : Ti x2 zx2) (tx3 : Ti x3 zx3) (hI : IM T W H P S M w)  (hp : ∀ (r : Int32) (zr : Int) (w9 : Wd), Ti r zr → IM T W H P S M w9 → post r w9) : pX11_steady   post  x1 x2 x3 w := by
  unfold pX11_steady
  have hk := im_k hI
  refine sX11_isHand   (hI := hI) (tx1 := tx1)  (hp := fun r_1v681 zr_1v681 tr_1v681 p1147 => ?_)
  refine ⟨fun c1148 => ?_, fun c1148 => ?_⟩
  · replace c1148 := c_eq tr_1v681 lit_0 c1148
    exact hp _ _ _  lit_m1 hI 
  · replace c1148 := c_neq tr_1v681 lit_0 c1148
    refine sX11_isHeat   (hI := hI) (tx0 := tx2)  (hp := fun r_4v687 zr_4v687 tr_4v687 p1149 => ?_)
    refine ⟨fun c1150 => ?_, fun c1150 => ?_⟩
    · replace c1150 := c_eq tr_4v687 lit_0 c1150
      exact hp _ _ _  lit_m1 hI 
    · replace c1150 := c_neq tr_4v687 lit_0 c1150
      refine sX11_isIn   (hI := hI) (tx0 := tx3) (tx1 := lit_0) (tx2 := lit_1)  (hp := fun r_7v691 zr_7v691 tr_7v691 p1151 p1152 => ?_)
      refine ⟨fun c1153 => ?_, fun c1153 => ?_⟩
      · replace c1153 := c_neq tr_7v691 lit_0 c1153
        exact ⟨70000, sX11_steady_35    (hp := hp) 70000 _ _ _ _ _ _ _ _ _ _ _ _ _ tx1 tx2 tx3 lit_0 lit_m1 lit_0 hI (by omega) (by omega) (by omega)⟩
      · replace c1153 := c_eq tr_7v691 lit_0 c1153
        exact hp _ _ _  lit_m1 hI 
set_option maxHeartbeats 4000000 in
set_option maxRecDepth 100000 in
theorem sX11_against_31 {T W H P S M : Int} {post : Int32 → Wd → Prop}   (hp : ∀ (r : Int32) (zr : Int) (w9 : Wd), Ti r zr → IM T W H P S M w9 → post r w9) : ∀ (n : Nat) (x1 : Int32) (x2 : Int32) (x3 : Int32) (x4 : Int32) (x5 : Int32) (zx1 : Int) (zx2 : Int) (zx3 : Int) (zx4 : Int) (zx5 : Int) (w : Wd), Ti x1 zx1 → Ti x2 zx2 → Ti x3 zx3 → Ti x4 zx4 → Ti x5 zx5 → IM T W H P S M w → (0 ≤ zx5 ∧ zx5 ≤ 4096) → (0 ≤ zx1 ∧ zx1 < H) → (0 ≤ zx2 ∧ zx2 < H) → (4097 - zx5) < (n : Int) → pX11_against_31   post  n x1 x2 x3 x4 x5 w := by
  intro n
  induction n with
  | zero =>
    intro x1 x2 x3 x4 x5 zx1 zx2 zx3 zx4 zx5 w tx1 tx2 tx3 tx4 tx5 hI h0 h1 h2 hm
    exact absurd hm (by omega)
  | succ n ih =>
    intro x1 x2 x3 x4 x5 zx1 zx2 zx3 zx4 zx5 w tx1 tx2 tx3 tx4 tx5 hI h0 h1 h2 hm
    unfold pX11_against_31
    have hk := im_k hI
    refine sX11_width   (hI := hI)   (hp := fun r_1v693 zr_1v693 tr_1v693 p1154 => ?_)
    obtain ⟨z1155, t1156, f1157⟩ := t_shlW hI tr_1v693
    first | replace f1157 := f1157 (by omega) | clear f1157
    refine ⟨fun c1158 => ?_, fun c1158 => ?_⟩
    · replace c1158 := c_le t1156 tx5 c1158
      exact hp _ _ _  tx4 hI 
    · replace c1158 := c_nle t1156 tx5 c1158
      refine sX11_castOf   (hI := hI) (tx1 := tx5) (tx2 := tx1) (tx3 := tx3) (tx4 := lit_0) (h0 := (by omega)) (hp := fun r_4v699 zr_4v699 w_5v700  tr_4v699 hIw_5v700 p1159 => ?_)
      refine sX11_castOf   (hI := hIw_5v700) (tx1 := tx5) (tx2 := tx2) (tx3 := tx3) (tx4 := lit_0) (h0 := (by omega)) (hp := fun r_6v701 zr_6v701 w_7v702  tr_6v701 hIw_7v702 p1160 => ?_)
      refine ⟨fun c1161 => ?_, fun c1161 => ?_⟩
      · replace c1161 := c_eq tr_4v699 tr_6v701 c1161
        unfold pX11_against_70
        obtain ⟨z1162, t1163, f1164⟩ := t_add tx4 lit_0
        first | replace f1164 := f1164 (by omega) | clear f1164
        intro x4_1v703 ex4_1v703
        have tx4_1v703 : Ti x4_1v703 z1162 := by rw [ex4_1v703]; exact t1163
        obtain ⟨z1165, t1166, f1167⟩ := t_add tx5 lit_1
        first | replace f1167 := f1167 (by omega) | clear f1167
        intro x5_2v704 ex5_2v704
        have tx5_2v704 : Ti x5_2v704 z1165 := by rw [ex5_2v704]; exact t1166
        exact ih _ _ _ _ _ _ _ _ _ _ _ tx1 tx2 tx3 tx4_1v703 tx5_2v704 hIw_7v702 (by omega) (by omega) (by omega) (by omega)
      · replace c1161 := c_neq tr_4v699 tr_6v701 c1161
        unfold pX11_against_70
        obtain ⟨z1168, t1169, f1170⟩ := t_add tx4 lit_1
        first | replace f1170 := f1170 (by omega) | clear f1170
        intro x4_1v705 ex4_1v705
        have tx4_1v705 : Ti x4_1v705 z1168 := by rw [ex4_1v705]; exact t1169
        obtain ⟨z1171, t1172, f1173⟩ := t_add tx5 lit_1
        first | replace f1173 := f1173 (by omega) | clear f1173
        intro x5_2v706 ex5_2v706
        have tx5_2v706 : Ti x5_2v706 z1171 := by rw [ex5_2v706]; exact t1172
        exact ih _ _ _ _ _ _ _ _ _ _ _ tx1 tx2 tx3 tx4_1v705 tx5_2v706 hIw_7v702 (by omega) (by omega) (by omega) (by omega)
set_option maxHeartbeats 4000000 in
set_option maxRecDepth 100000 in
theorem sX11_against {T W H P S M : Int} {post : Int32 → Wd → Prop} {x1 : Int32} {zx1 : Int} {x2 : Int32} {zx2 : Int} {x3 : Int32} {zx3 : Int} {w : Wd}  (tx1 : Ti x1 zx1) (tx2 : Ti x2 zx2) (tx3 : Ti x3 zx3) (hI : IM T W H P S M w)  (hp : ∀ (r : Int32) (zr : Int) (w9 : Wd), Ti r zr → IM T W H P S M w9 → post r w9) : pX11_against   post  x1 x2 x3 w := by
  unfold pX11_against
  have hk := im_k hI
  refine sX11_isHand   (hI := hI) (tx1 := tx1)  (hp := fun r_1v707 zr_1v707 tr_1v707 p1174 => ?_)
  refine ⟨fun c1175 => ?_, fun c1175 => ?_⟩
  · replace c1175 := c_eq tr_1v707 lit_0 c1175
    exact hp _ _ _  lit_m1 hI 
  · replace c1175 := c_neq tr_1v707 lit_0 c1175
    refine sX11_isHand   (hI := hI) (tx1 := tx2)  (hp := fun r_4v713 zr_4v713 tr_4v713 p1176 => ?_)
    refine ⟨fun c1177 => ?_, fun c1177 => ?_⟩
    · replace c1177 := c_eq tr_4v713 lit_0 c1177
      exact hp _ _ _  lit_m1 hI 
    · replace c1177 := c_neq tr_4v713 lit_0 c1177
      refine sX11_isHeat   (hI := hI) (tx0 := tx3)  (hp := fun r_7v717 zr_7v717 tr_7v717 p1178 => ?_)
      refine ⟨fun c1179 => ?_, fun c1179 => ?_⟩
      · replace c1179 := c_neq tr_7v717 lit_0 c1179
        exact ⟨70000, sX11_against_31    (hp := hp) 70000 _ _ _ _ _ _ _ _ _ _ _ tx1 tx2 tx3 lit_0 lit_0 hI (by omega) (by omega) (by omega) (by omega)⟩
      · replace c1179 := c_eq tr_7v717 lit_0 c1179
        exact hp _ _ _  lit_m1 hI 
set_option maxHeartbeats 4000000 in
set_option maxRecDepth 100000 in
theorem sX11_ways {T W H P S M : Int} {post : Int32 → Wd → Prop}  {w : Wd}   (hI : IM T W H P S M w)  (hp : ∀ (r : Int32) (zr : Int), Ti r zr → (zr = 4 * H) → post r w) : pX11_ways   post   w := by
  unfold pX11_ways
  have hk := im_k hI
  obtain ⟨z1180, t1181⟩ := t_any (w.1 300 29)
  have f1182 := img_29 hI t1181
  refine ⟨vp_of t1181 (by omega) (by omega), ?_⟩
  obtain ⟨z1183, t1184⟩ := t_any (w.2.1 314 (w.1 300 29).toNatClampNeg)
  have f1185 := img_314 hI t1184
  obtain ⟨z1186, t1187, f1188⟩ := t_mul lit_4 t1184
  first | replace f1188 := f1188 (by omega) | clear f1188
  exact hp _ _ t1187 (by omega)
theorem sX11_fact {T W H P S M : Int} {post : Int32 → Wd → Prop} {x1 : Int32} {zx1 : Int} {x2 : Int32} {zx2 : Int} {x3 : Int32} {zx3 : Int} {x4 : Int32} {zx4 : Int} {w : Wd} (tx1 : Ti x1 zx1) (tx2 : Ti x2 zx2) (tx3 : Ti x3 zx3) (tx4 : Ti x4 zx4) (hI : IM T W H P S M w) (h0 : zx1 ≠ 3 ∨ (0 ≤ zx2 ∧ zx2 ≤ 7 ∧ 0 ≤ zx3 ∧ zx3 ≤ 7)) (hp : ∀ (r : Int32) (zr : Int) (w9 : Wd), Ti r zr → IM T W H P S M w9 → post r w9) : pX11_fact post x1 x2 x3 x4 w := by
  sorry
set_option maxHeartbeats 4000000 in
set_option maxRecDepth 100000 in
theorem sX11_sample {T W H P S M : Int} {post : Int32 → Wd → Prop} {x1 : Int32} {zx1 : Int} {x2 : Int32} {zx2 : Int} {w : Wd}  (tx1 : Ti x1 zx1) (tx2 : Ti x2 zx2) (hI : IM T W H P S M w)  (hp : ∀ (r : Int32) (zr : Int) (w9 : Wd), Ti r zr → IM T W H P S M w9 → post r w9) : pX11_sample   post  x1 x2 w := by
  unfold pX11_sample
  have hk := im_k hI
  refine sX11_isRow   (hI := hI) (tx1 := tx1)  (hp := fun r_1v719 zr_1v719 tr_1v719 p1189 => ?_)
  refine ⟨fun c1190 => ?_, fun c1190 => ?_⟩
  · replace c1190 := c_eq tr_1v719 lit_0 c1190
    exact hp _ _ _  lit_m1 hI 
  · replace c1190 := c_neq tr_1v719 lit_0 c1190
    refine ⟨fun c1191 => ?_, fun c1191 => ?_⟩
    · replace c1191 := c_eq tx2 lit_0 c1191
      refine sX11_fact   (hI := hI) (tx1 := lit_0) (tx2 := tx1) (tx3 := lit_0) (tx4 := lit_0) (h0 := (by omega)) (hp := fun r_5v725 zr_5v725 w_6v726  tr_5v725 hIw_6v726  => ?_)
      exact hp _ _ _  tr_5v725 hIw_6v726 
    · replace c1191 := c_neq tx2 lit_0 c1191
      refine sX11_fact   (hI := hI) (tx1 := lit_0) (tx2 := tx1) (tx3 := lit_1) (tx4 := lit_0) (h0 := (by omega)) (hp := fun r_7v727 zr_7v727 w_8v728  tr_7v727 hIw_8v728  => ?_)
      exact hp _ _ _  tr_7v727 hIw_8v728 
set_option maxHeartbeats 4000000 in
set_option maxRecDepth 100000 in
theorem sX11_claim {T W H P S M : Int} {post : Int32 → Wd → Prop} {x1 : Int32} {zx1 : Int} {x2 : Int32} {zx2 : Int} {x3 : Int32} {zx3 : Int} {w : Wd}  (tx1 : Ti x1 zx1) (tx2 : Ti x2 zx2) (tx3 : Ti x3 zx3) (hI : IM T W H P S M w)  (hp : ∀ (r : Int32) (zr : Int) (w9 : Wd), Ti r zr → IM T W H P S M w9 → post r w9) : pX11_claim   post  x1 x2 x3 w := by
  unfold pX11_claim
  have hk := im_k hI
  refine sX11_isRow   (hI := hI) (tx1 := tx1)  (hp := fun r_1v729 zr_1v729 tr_1v729 p1192 => ?_)
  refine ⟨fun c1193 => ?_, fun c1193 => ?_⟩
  · replace c1193 := c_eq tr_1v729 lit_0 c1193
    exact hp _ _ _  lit_m1 hI 
  · replace c1193 := c_neq tr_1v729 lit_0 c1193
    refine sX11_isSeal   (hI := hI) (tx1 := tx2)  (hp := fun r_4v737 zr_4v737 tr_4v737 p1194 => ?_)
    refine ⟨fun c1195 => ?_, fun c1195 => ?_⟩
    · replace c1195 := c_eq tr_4v737 lit_0 c1195
      exact hp _ _ _  lit_m1 hI 
    · replace c1195 := c_neq tr_4v737 lit_0 c1195
      refine sX11_isIn   (hI := hI) (tx0 := tx3) (tx1 := lit_0) (tx2 := lit_999)  (hp := fun r_7v743 zr_7v743 tr_7v743 p1196 p1197 => ?_)
      refine ⟨fun c1198 => ?_, fun c1198 => ?_⟩
      · replace c1198 := c_eq tr_7v743 lit_0 c1198
        exact hp _ _ _  lit_m1 hI 
      · replace c1198 := c_neq tr_7v743 lit_0 c1198
        refine sX11_fact   (hI := hI) (tx1 := lit_1) (tx2 := tx1) (tx3 := tx2) (tx4 := tx3) (h0 := (by omega)) (hp := fun r_10v747 zr_10v747 w_11v748  tr_10v747 hIw_11v748  => ?_)
        exact hp _ _ _  tr_10v747 hIw_11v748 
set_option maxHeartbeats 4000000 in
set_option maxRecDepth 100000 in
theorem sX11_saw {T W H P S M : Int} {post : Int32 → Wd → Prop} {x1 : Int32} {zx1 : Int} {x2 : Int32} {zx2 : Int} {x3 : Int32} {zx3 : Int} {w : Wd}  (tx1 : Ti x1 zx1) (tx2 : Ti x2 zx2) (tx3 : Ti x3 zx3) (hI : IM T W H P S M w)  (hp : ∀ (r : Int32) (zr : Int) (w9 : Wd), Ti r zr → IM T W H P S M w9 → post r w9) : pX11_saw   post  x1 x2 x3 w := by
  unfold pX11_saw
  have hk := im_k hI
  refine sX11_width   (hI := hI)   (hp := fun r_1v749 zr_1v749 tr_1v749 p1199 => ?_)
  obtain ⟨z1200, t1201, f1202⟩ := t_sub tr_1v749 lit_1
  first | replace f1202 := f1202 (by omega) | clear f1202
  refine sX11_isIn   (hI := hI) (tx0 := tx1) (tx1 := lit_0) (tx2 := t1201)  (hp := fun r_3v759 zr_3v759 tr_3v759 p1203 p1204 => ?_)
  refine ⟨fun c1205 => ?_, fun c1205 => ?_⟩
  · replace c1205 := c_eq tr_3v759 lit_0 c1205
    exact hp _ _ _  lit_m1 hI 
  · replace c1205 := c_neq tr_3v759 lit_0 c1205
    refine sX11_isIn   (hI := hI) (tx0 := tx2) (tx1 := lit_0) (tx2 := lit_999)  (hp := fun r_6v767 zr_6v767 tr_6v767 p1206 p1207 => ?_)
    refine ⟨fun c1208 => ?_, fun c1208 => ?_⟩
    · replace c1208 := c_eq tr_6v767 lit_0 c1208
      exact hp _ _ _  lit_m1 hI 
    · replace c1208 := c_neq tr_6v767 lit_0 c1208
      refine ⟨fun c1209 => ?_, fun c1209 => ?_⟩
      · replace c1209 := c_eq tx3 lit_0 c1209
        refine sX11_fact   (hI := hI) (tx1 := lit_2) (tx2 := tx1) (tx3 := tx2) (tx4 := lit_0) (h0 := (by omega)) (hp := fun r_10v773 zr_10v773 w_11v774  tr_10v773 hIw_11v774  => ?_)
        exact hp _ _ _  tr_10v773 hIw_11v774 
      · replace c1209 := c_neq tx3 lit_0 c1209
        refine sX11_fact   (hI := hI) (tx1 := lit_2) (tx2 := tx1) (tx3 := tx2) (tx4 := lit_1) (h0 := (by omega)) (hp := fun r_12v775 zr_12v775 w_13v776  tr_12v775 hIw_13v776  => ?_)
        exact hp _ _ _  tr_12v775 hIw_13v776 
set_option maxHeartbeats 4000000 in
set_option maxRecDepth 100000 in
theorem sX11_link {T W H P S M : Int} {post : Int32 → Wd → Prop} {x1 : Int32} {zx1 : Int} {x2 : Int32} {zx2 : Int} {x3 : Int32} {zx3 : Int} {w : Wd}  (tx1 : Ti x1 zx1) (tx2 : Ti x2 zx2) (tx3 : Ti x3 zx3) (hI : IM T W H P S M w)  (hp : ∀ (r : Int32) (zr : Int) (w9 : Wd), Ti r zr → IM T W H P S M w9 → post r w9) : pX11_link   post  x1 x2 x3 w := by
  unfold pX11_link
  have hk := im_k hI
  refine sX11_isIn   (hI := hI) (tx0 := tx1) (tx1 := lit_0) (tx2 := lit_7)  (hp := fun r_1v777 zr_1v777 tr_1v777 p1210 p1211 => ?_)
  refine ⟨fun c1212 => ?_, fun c1212 => ?_⟩
  · replace c1212 := c_eq tr_1v777 lit_0 c1212
    exact hp _ _ _  lit_m1 hI 
  · replace c1212 := c_neq tr_1v777 lit_0 c1212
    refine sX11_isIn   (hI := hI) (tx0 := tx2) (tx1 := lit_0) (tx2 := lit_7)  (hp := fun r_4v785 zr_4v785 tr_4v785 p1213 p1214 => ?_)
    refine ⟨fun c1215 => ?_, fun c1215 => ?_⟩
    · replace c1215 := c_eq tr_4v785 lit_0 c1215
      exact hp _ _ _  lit_m1 hI 
    · replace c1215 := c_neq tr_4v785 lit_0 c1215
      refine ⟨fun c1216 => ?_, fun c1216 => ?_⟩
      · replace c1216 := c_eq tx1 tx2 c1216
        exact hp _ _ _  lit_m1 hI 
      · replace c1216 := c_neq tx1 tx2 c1216
        refine ⟨fun c1217 => ?_, fun c1217 => ?_⟩
        · replace c1217 := c_eq tx3 lit_0 c1217
          refine sX11_fact   (hI := hI) (tx1 := lit_3) (tx2 := tx1) (tx3 := tx2) (tx4 := lit_0) (h0 := (by omega)) (hp := fun r_9v791 zr_9v791 w_10v792  tr_9v791 hIw_10v792  => ?_)
          exact hp _ _ _  tr_9v791 hIw_10v792 
        · replace c1217 := c_neq tx3 lit_0 c1217
          refine sX11_fact   (hI := hI) (tx1 := lit_3) (tx2 := tx1) (tx3 := tx2) (tx4 := lit_1) (h0 := (by omega)) (hp := fun r_11v793 zr_11v793 w_12v794  tr_11v793 hIw_12v794  => ?_)
          exact hp _ _ _  tr_11v793 hIw_12v794 
set_option maxHeartbeats 4000000 in
set_option maxRecDepth 100000 in
theorem sX11_untell {T W H P S M : Int} {post : Int32 → Wd → Prop} {x1 : Int32} {zx1 : Int} {w : Wd}  (tx1 : Ti x1 zx1) (hI : IM T W H P S M w)  (hp : ∀ (r : Int32) (zr : Int) (w9 : Wd), Ti r zr → IM T W H P S M w9 → post r w9) : pX11_untell   post  x1 w := by
  unfold pX11_untell
  have hk := im_k hI
  obtain ⟨z1218, t1219⟩ := t_any (w.1 300 58)
  have f1220 := img_58 hI t1219
  obtain ⟨z1221, t1222, f1223⟩ := t_sub t1219 lit_1
  first | replace f1223 := f1223 (by omega) | clear f1223
  refine sX11_isIn   (hI := hI) (tx0 := tx1) (tx1 := lit_0) (tx2 := t1222)  (hp := fun r_1v795 zr_1v795 tr_1v795 p1224 p1225 => ?_)
  refine ⟨fun c1226 => ?_, fun c1226 => ?_⟩
  · replace c1226 := c_eq tr_1v795 lit_0 c1226
    exact hp _ _ _  lit_0 hI 
  · replace c1226 := c_neq tr_1v795 lit_0 c1226
    refine ⟨vp_of tx1 (by omega) (by omega), ?_⟩
    obtain ⟨z1227, t1228⟩ := t_any (w.2.1 358 x1.toNatClampNeg)
    refine ⟨fun c1230 => ?_, fun c1230 => ?_⟩
    · replace c1230 := c_lt t1228 lit_0 c1230
      refine ⟨vp_of tx1 (by omega) (by omega), ?_⟩
      intro w_5v798 ew_5v798
      have hIw_5v798 := ims_A hI ew_5v798 (by decide)
      exact hp _ _ _  lit_1 hIw_5v798 
    · replace c1230 := c_nlt t1228 lit_0 c1230
      exact hp _ _ _  lit_0 hI 
theorem sX11_changesOf {T W H P S M : Int} {post : Int32 → Wd → Prop} {x1 : Int32} {zx1 : Int} {x2 : Int32} {zx2 : Int} {w : Wd} (tx1 : Ti x1 zx1) (tx2 : Ti x2 zx2) (hI : IM T W H P S M w) (h0 : 0 ≤ zx1) (h1 : 0 ≤ zx2 ∧ zx2 < M) (hp : ∀ (r : Int32) (zr : Int) (w9 : Wd), Ti r zr → IM T W H P S M w9 → post r w9) : pX11_changesOf post x1 x2 w := by
  sorry
set_option maxHeartbeats 4000000 in
set_option maxRecDepth 100000 in
theorem sX11_counts {T W H P S M : Int} {post : Int32 → Wd → Prop} {x1 : Int32} {zx1 : Int} {x2 : Int32} {zx2 : Int} {x3 : Int32} {zx3 : Int} {w : Wd}  (tx1 : Ti x1 zx1) (tx2 : Ti x2 zx2) (tx3 : Ti x3 zx3) (hI : IM T W H P S M w) (h0 : 0 ≤ zx1 ∧ zx1 ≤ 39) (hp : ∀ (r : Int32) (zr : Int), Ti r zr → ((zr = 0 ∨ w.2.1 353 x1.toNatClampNeg = x2)) → post r w) : pX11_counts   post  x1 x2 x3 w := by
  unfold pX11_counts
  have hk := im_k hI
  refine ⟨vp_of tx1 (by omega) (by omega), ?_⟩
  obtain ⟨z1231, t1232⟩ := t_any (w.2.1 353 x1.toNatClampNeg)
  refine ⟨fun c1234 => ?_, fun c1234 => ?_⟩
  · replace c1234 := c_neq t1232 tx2 c1234
    exact hp _ _ lit_0 (Or.inl (by omega))
  · replace c1234 := c_eq t1232 tx2 c1234
    refine ⟨vp_of tx1 (by omega) (by omega), ?_⟩
    obtain ⟨z1235, t1236⟩ := t_any (w.2.1 357 x1.toNatClampNeg)
    refine ⟨fun c1238 => ?_, fun c1238 => ?_⟩
    · replace c1238 := c_lt tx3 t1236 c1238
      exact hp _ _ lit_0 (Or.inl (by omega))
    · replace c1238 := c_nlt tx3 t1236 c1238
      refine ⟨vp_of tx1 (by omega) (by omega), ?_⟩
      obtain ⟨z1239, t1240⟩ := t_any (w.2.1 358 x1.toNatClampNeg)
      refine ⟨fun c1242 => ?_, fun c1242 => ?_⟩
      · replace c1242 := c_lt t1240 lit_0 c1242
        exact hp _ _ lit_1 (Or.inr (cq_eq t1232 tx2 (by omega)))
      · replace c1242 := c_nlt t1240 lit_0 c1242
        refine ⟨vp_of tx1 (by omega) (by omega), ?_⟩
        refine ⟨fun c1243 => ?_, fun c1243 => ?_⟩
        · replace c1243 := c_le t1240 tx3 c1243
          exact hp _ _ lit_0 (Or.inl (by omega))
        · replace c1243 := c_nle t1240 tx3 c1243
          exact hp _ _ lit_1 (Or.inr (cq_eq t1232 tx2 (by omega)))
set_option maxHeartbeats 4000000 in
set_option maxRecDepth 100000 in
theorem sX11_laySamples_92 {T W H P S M : Int} {k70 : Int32 → Wd → Prop} {M70 : Int} {post : Wd → Prop}  (hk70 : ∀ (x2 : Int32) (zx2 : Int) (w : Wd), Ti x2 zx2 → IM T W H P S M w → (0 ≤ zx2 ∧ zx2 ≤ 7) → (8 - zx2) < M70 → k70 x2 w) (hp : ∀ (w9 : Wd) (M9 : Int), IM T W H P S M9 w9 → post w9) : ∀ (n : Nat) (x2 : Int32) (x3 : Int32) (x4 : Int32) (zx2 : Int) (zx3 : Int) (zx4 : Int) (w : Wd), Ti x2 zx2 → Ti x3 zx3 → Ti x4 zx4 → IM T W H P S M w → (0 ≤ zx4 ∧ zx4 ≤ 7) → (zx2 ≤ 6) → (0 ≤ zx2 ∧ zx2 ≤ 7) → ((8 - zx2) ≤ M70) → (8 - zx4) < (n : Int) → pX11_laySamples_92 k70  post  n x2 x3 x4 w := by
  intro n
  induction n with
  | zero =>
    intro x2 x3 x4 zx2 zx3 zx4 w tx2 tx3 tx4 hI h0 h1 h2 h3 hm
    exact absurd hm (by omega)
  | succ n ih =>
    intro x2 x3 x4 zx2 zx3 zx4 w tx2 tx3 tx4 hI h0 h1 h2 h3 hm
    unfold pX11_laySamples_92
    have hk := im_k hI
    obtain ⟨z1244, t1245⟩ := t_any (w.1 300 63)
    have f1246 := img_63 hI t1245
    refine ⟨fun c1247 => ?_, fun c1247 => ?_⟩
    · replace c1247 := c_le t1245 tx4 c1247
      obtain ⟨z1248, t1249, f1250⟩ := t_add tx2 lit_1
      first | replace f1250 := f1250 (by omega) | clear f1250
      intro x2_2v799 ex2_2v799
      have tx2_2v799 : Ti x2_2v799 z1248 := by rw [ex2_2v799]; exact t1249
      exact hk70 _ _ _ tx2_2v799 hI (by omega) (by omega)
    · replace c1247 := c_nle t1245 tx4 c1247
      refine ⟨vp_of tx4 (by omega) (by omega), ?_⟩
      obtain ⟨z1251, t1252⟩ := t_any (x3 &&& ((w.2.1 361 x4.toNatClampNeg) ^^^ (-1 : Int32)))
      refine sX11_bitsOf   (hI := hI) (tx0 := t1252)  (hp := fun r_3v800 zr_3v800 tr_3v800 => ?_)
      refine ⟨vp_of tx4 (by omega) (by omega), ?_⟩
      obtain ⟨z1253, t1254⟩ := t_any ((w.2.1 361 x4.toNatClampNeg) &&& (x3 ^^^ (-1 : Int32)))
      refine sX11_bitsOf   (hI := hI) (tx0 := t1254)  (hp := fun r_5v806 zr_5v806 tr_5v806 => ?_)
      obtain ⟨z1255, t1256, f1257⟩ := t_mul lit_7 tx2
      first | replace f1257 := f1257 (by omega) | clear f1257
      obtain ⟨z1258, t1259, f1260⟩ := t_add t1256 tx4
      first | replace f1260 := f1260 (by omega) | clear f1260
      refine ⟨vp_of t1259 (by omega) (by omega), ?_⟩
      intro w_7v810 ew_7v810
      have hIw_7v810 := ims_A hI ew_7v810 (by decide)
      obtain ⟨z1261, t1262, f1263⟩ := t_add tx4 lit_1
      first | replace f1263 := f1263 (by omega) | clear f1263
      intro x4_8v811 ex4_8v811
      have tx4_8v811 : Ti x4_8v811 z1261 := by rw [ex4_8v811]; exact t1262
      exact ih _ _ _ _ _ _ _ tx2 tx3 tx4_8v811 hIw_7v810 (by omega) (by omega) (by omega) (by omega) (by omega)
set_option maxHeartbeats 4000000 in
set_option maxRecDepth 100000 in
theorem sX11_laySamples_70 {T W H P S M : Int} {post : Wd → Prop}   (hp : ∀ (w9 : Wd) (M9 : Int), IM T W H P S M9 w9 → post w9) : ∀ (n : Nat) (x2 : Int32) (zx2 : Int) (w : Wd), Ti x2 zx2 → IM T W H P S M w → (0 ≤ zx2 ∧ zx2 ≤ 7) → (8 - zx2) < (n : Int) → pX11_laySamples_70   post  n x2 w := by
  intro n
  induction n with
  | zero =>
    intro x2 zx2 w tx2 hI h0 hm
    exact absurd hm (by omega)
  | succ n ih =>
    intro x2 zx2 w tx2 hI h0 hm
    unfold pX11_laySamples_70
    have hk := im_k hI
    obtain ⟨z1264, t1265⟩ := t_any (w.1 300 63)
    have f1266 := img_63 hI t1265
    refine ⟨fun c1267 => ?_, fun c1267 => ?_⟩
    · replace c1267 := c_le t1265 tx2 c1267
      exact hp  _ _  hI 
    · replace c1267 := c_nle t1265 tx2 c1267
      refine ⟨vp_of tx2 (by omega) (by omega), ?_⟩
      obtain ⟨z1268, t1269⟩ := t_any (w.2.1 361 x2.toNatClampNeg)
      refine sX11_turnedRow   (hI := hI) (tx1 := t1269)  (hp := fun r_2v812 zr_2v812 tr_2v812 => ?_)
      exact ⟨70000, sX11_laySamples_92  (M70 := (n : Int)) (hk70 := ih)  (hp := hp) 70000 _ _ _ _ _ _ _ tx2 tr_2v812 lit_0 hI (by omega) (by omega) (by omega) (by omega) (by omega)⟩
set_option maxHeartbeats 4000000 in
set_option maxRecDepth 100000 in
theorem sX11_laySamples_7 {T W H P S : Int} {post : Wd → Prop}   (hp : ∀ (w9 : Wd) (M9 : Int), IM T W H P S M9 w9 → post w9) : ∀ (n : Nat) (x1 : Int32) (x2 : Int32) (zx1 : Int) (zx2 : Int) (w : Wd), Ti x1 zx1 → Ti x2 zx2 → IMe T W H P S w → (0 ≤ zx2 ∧ zx2 ≤ 40) → (41 - zx2) < (n : Int) → pX11_laySamples_7   post  n x1 x2 w := by
  intro n
  induction n with
  | zero =>
    intro x1 x2 zx1 zx2 w tx1 tx2 hI h0 hm
    obtain ⟨M, hI⟩ := hI
    exact absurd hm (by omega)
  | succ n ih =>
    intro x1 x2 zx1 zx2 w tx1 tx2 hI h0 hm
    obtain ⟨M, hI⟩ := hI
    unfold pX11_laySamples_7
    have hk := im_k hI
    obtain ⟨z1271, t1272⟩ := t_any (w.1 300 58)
    have f1273 := img_58 hI t1272
    refine ⟨fun c1274 => ?_, fun c1274 => ?_⟩
    · replace c1274 := c_le t1272 tx2 c1274
      unfold pX11_laySamples_68
      exact ⟨70000, sX11_laySamples_70    (hp := hp) 70000 _ _ _ lit_0 hI (by omega) (by omega)⟩
    · replace c1274 := c_nle t1272 tx2 c1274
      obtain ⟨z1275, t1276⟩ := t_any (w.1 300 63)
      have f1277 := img_63 hI t1276
      refine ⟨fun c1278 => ?_, fun c1278 => ?_⟩
      · replace c1278 := c_le lit_7 t1276 c1278
        unfold pX11_laySamples_68
        exact ⟨70000, sX11_laySamples_70    (hp := hp) 70000 _ _ _ lit_0 hI (by omega) (by omega)⟩
      · replace c1278 := c_nle lit_7 t1276 c1278
        refine sX11_counts   (hI := hI) (tx1 := tx2) (tx2 := lit_0) (tx3 := tx1) (h0 := (by omega)) (hp := fun r_3v814 zr_3v814 tr_3v814 p1279 => ?_)
        refine ⟨fun c1280 => ?_, fun c1280 => ?_⟩
        · replace c1280 := c_neq tr_3v814 lit_0 c1280
          refine ⟨vp_of tx2 (by omega) (by omega), ?_⟩
          refine ⟨vp_of t1276 (by omega) (by omega), ?_⟩
          intro w_6v818 ew_6v818
          have hIw_6v818 := ims_A hI ew_6v818 (by decide)
          intro w_7v819 ew_7v819
          have t1281 : Ti (w_6v818.1 300 63) z1275 := by rw [e1_A ew_6v818]; exact t1276
          obtain ⟨z1282, t1283, f1284⟩ := t_add t1281 lit_1
          first | replace f1284 := f1284 (by omega) | clear f1284
          have hIw_7v819 := ims_63 hIw_6v818 ew_7v819 t1283 (by omega) (by omega)
          unfold pX11_laySamples_62
          obtain ⟨z1285, t1286, f1287⟩ := t_add tx2 lit_1
          first | replace f1287 := f1287 (by omega) | clear f1287
          intro x2_1v820 ex2_1v820
          have tx2_1v820 : Ti x2_1v820 z1285 := by rw [ex2_1v820]; exact t1286
          exact ih _ _ _ _ _ tx1 tx2_1v820 ⟨_, hIw_7v819⟩ (by omega) (by omega)
        · replace c1280 := c_eq tr_3v814 lit_0 c1280
          unfold pX11_laySamples_62
          obtain ⟨z1288, t1289, f1290⟩ := t_add tx2 lit_1
          first | replace f1290 := f1290 (by omega) | clear f1290
          intro x2_1v821 ex2_1v821
          have tx2_1v821 : Ti x2_1v821 z1288 := by rw [ex2_1v821]; exact t1289
          exact ih _ _ _ _ _ tx1 tx2_1v821 ⟨_, hI⟩ (by omega) (by omega)
set_option maxHeartbeats 4000000 in
set_option maxRecDepth 100000 in
theorem sX11_laySamples {T W H P S M : Int} {post : Wd → Prop} {x1 : Int32} {zx1 : Int} {w : Wd}  (tx1 : Ti x1 zx1) (hI : IM T W H P S M w)  (hp : ∀ (w9 : Wd) (M9 : Int), IM T W H P S M9 w9 → post w9) : pX11_laySamples   post  x1 w := by
  unfold pX11_laySamples
  have hk := im_k hI
  intro w_1v822 ew_1v822
  have hIw_1v822 := ims_63 hI ew_1v822 lit_0 (by omega) (by omega)
  exact ⟨70000, sX11_laySamples_7    (hp := hp) 70000 _ _ _ _ _ tx1 lit_0 ⟨_, hIw_1v822⟩ (by omega) (by omega)⟩
