set_option maxHeartbeats 4000000 in
set_option maxRecDepth 100000 in
theorem sX11_forge_40 {T W H P S M : Int} {post : Int32 → Wd → Prop}   (hp : ∀ (r : Int32) (zr : Int) (w9 : Wd), Ti r zr → IM T W H P S M w9 → post r w9) : ∀ (n : Nat) (x1 : Int32) (x2 : Int32) (x3 : Int32) (x4 : Int32) (x5 : Int32) (x6 : Int32) (x7 : Int32) (x8 : Int32) (zx1 : Int) (zx2 : Int) (zx3 : Int) (zx4 : Int) (zx5 : Int) (zx6 : Int) (zx7 : Int) (zx8 : Int) (w : Wd), Ti x1 zx1 → Ti x2 zx2 → Ti x3 zx3 → Ti x4 zx4 → Ti x5 zx5 → Ti x6 zx6 → Ti x7 zx7 → Ti x8 zx8 → IM T W H P S M w → (0 ≤ zx8 ∧ zx8 ≤ 4096) → (0 ≤ zx1 ∧ zx1 < S) → (0 ≤ zx2 ∧ zx2 < H) → (4097 - zx8) < (n : Int) → pX11_forge_40   post  n x1 x2 x3 x4 x5 x6 x7 x8 w := by
  intro n
  induction n with
  | zero =>
    intro x1 x2 x3 x4 x5 x6 x7 x8 zx1 zx2 zx3 zx4 zx5 zx6 zx7 zx8 w tx1 tx2 tx3 tx4 tx5 tx6 tx7 tx8 hI h0 h1 h2 hm
    exact absurd hm (by omega)
  | succ n ih =>
    intro x1 x2 x3 x4 x5 x6 x7 x8 zx1 zx2 zx3 zx4 zx5 zx6 zx7 zx8 w tx1 tx2 tx3 tx4 tx5 tx6 tx7 tx8 hI h0 h1 h2 hm
    unfold pX11_forge_40
    have hk := im_k hI
    refine sX11_width   (hI := hI)   (hp := fun r_1v513 zr_1v513 tr_1v513 p992 => ?_)
    obtain ⟨z993, t994, f995⟩ := t_shlW hI tr_1v513
    first | replace f995 := f995 (by omega) | clear f995
    refine ⟨fun c996 => ?_, fun c996 => ?_⟩
    · replace c996 := c_le t994 tx8 c996
      refine ⟨fun c997 => ?_, fun c997 => ?_⟩
      · replace c997 := c_le lit_0 tx6 c997
        refine ⟨fun c998 => ?_, fun c998 => ?_⟩
        · replace c998 := c_neq tx5 lit_0 c998
          exact hp _ _ _  tx6 hI 
        · replace c998 := c_eq tx5 lit_0 c998
          exact hp _ _ _  tx7 hI 
      · replace c997 := c_nle lit_0 tx6 c997
        exact hp _ _ _  lit_m1 hI 
    · replace c996 := c_nle t994 tx8 c996
      refine sX11_rowOf   (hI := hI) (tx1 := tx1) (h0 := (by omega)) (hp := fun r_6v519 zr_6v519 tr_6v519 p999 => ?_)
      obtain ⟨z1000, t1001⟩ := t_any (x8 ^^^ r_6v519)
      refine sX11_bitsOf   (hI := hI) (tx0 := t1001)  (hp := fun r_8v523 zr_8v523 tr_8v523 => ?_)
      refine ⟨fun c1002 => ?_, fun c1002 => ?_⟩
      · replace c1002 := c_lt tx6 lit_0 c1002
        unfold pX11_forge_76
        refine sX11_castOf   (hI := hI) (tx1 := tx8) (tx2 := tx2) (tx3 := tx3) (tx4 := lit_0) (h0 := (by omega)) (hp := fun r_1v525 zr_1v525 w_2v526  tr_1v525 hIw_2v526 p1003 => ?_)
        refine ⟨fun c1004 => ?_, fun c1004 => ?_⟩
        · replace c1004 := c_eq tr_1v525 tx4 c1004
          unfold pX11_forge_101
          obtain ⟨z1005, t1006, f1007⟩ := t_add tx8 lit_1
          first | replace f1007 := f1007 (by omega) | clear f1007
          intro x8_1v527 ex8_1v527
          have tx8_1v527 : Ti x8_1v527 z1005 := by rw [ex8_1v527]; exact t1006
          exact ih _ _ _ _ _ _ _ _ _ _ _ _ _ _ _ _ _ tx1 tx2 tx3 tx4 tx5 tx8 tr_8v523 tx8_1v527 hIw_2v526 (by omega) (by omega) (by omega) (by omega)
        · replace c1004 := c_neq tr_1v525 tx4 c1004
          unfold pX11_forge_101
          obtain ⟨z1008, t1009, f1010⟩ := t_add tx8 lit_1
          first | replace f1010 := f1010 (by omega) | clear f1010
          intro x8_1v528 ex8_1v528
          have tx8_1v528 : Ti x8_1v528 z1008 := by rw [ex8_1v528]; exact t1009
          exact ih _ _ _ _ _ _ _ _ _ _ _ _ _ _ _ _ _ tx1 tx2 tx3 tx4 tx5 tx6 tx7 tx8_1v528 hIw_2v526 (by omega) (by omega) (by omega) (by omega)
      · replace c1002 := c_nlt tx6 lit_0 c1002
        refine ⟨fun c1011 => ?_, fun c1011 => ?_⟩
        · replace c1011 := c_le tx7 tr_8v523 c1011
          unfold pX11_forge_101
          obtain ⟨z1012, t1013, f1014⟩ := t_add tx8 lit_1
          first | replace f1014 := f1014 (by omega) | clear f1014
          intro x8_1v529 ex8_1v529
          have tx8_1v529 : Ti x8_1v529 z1012 := by rw [ex8_1v529]; exact t1013
          exact ih _ _ _ _ _ _ _ _ _ _ _ _ _ _ _ _ _ tx1 tx2 tx3 tx4 tx5 tx6 tx7 tx8_1v529 hI (by omega) (by omega) (by omega) (by omega)
        · replace c1011 := c_nle tx7 tr_8v523 c1011
          unfold pX11_forge_76
          refine sX11_castOf   (hI := hI) (tx1 := tx8) (tx2 := tx2) (tx3 := tx3) (tx4 := lit_0) (h0 := (by omega)) (hp := fun r_1v530 zr_1v530 w_2v531  tr_1v530 hIw_2v531 p1015 => ?_)
          refine ⟨fun c1016 => ?_, fun c1016 => ?_⟩
          · replace c1016 := c_eq tr_1v530 tx4 c1016
            unfold pX11_forge_101
            obtain ⟨z1017, t1018, f1019⟩ := t_add tx8 lit_1
            first | replace f1019 := f1019 (by omega) | clear f1019
            intro x8_1v532 ex8_1v532
            have tx8_1v532 : Ti x8_1v532 z1017 := by rw [ex8_1v532]; exact t1018
            exact ih _ _ _ _ _ _ _ _ _ _ _ _ _ _ _ _ _ tx1 tx2 tx3 tx4 tx5 tx8 tr_8v523 tx8_1v532 hIw_2v531 (by omega) (by omega) (by omega) (by omega)
          · replace c1016 := c_neq tr_1v530 tx4 c1016
            unfold pX11_forge_101
            obtain ⟨z1020, t1021, f1022⟩ := t_add tx8 lit_1
            first | replace f1022 := f1022 (by omega) | clear f1022
            intro x8_1v533 ex8_1v533
            have tx8_1v533 : Ti x8_1v533 z1020 := by rw [ex8_1v533]; exact t1021
            exact ih _ _ _ _ _ _ _ _ _ _ _ _ _ _ _ _ _ tx1 tx2 tx3 tx4 tx5 tx6 tx7 tx8_1v533 hIw_2v531 (by omega) (by omega) (by omega) (by omega)
set_option maxHeartbeats 4000000 in
set_option maxRecDepth 100000 in
theorem sX11_forge {T W H P S M : Int} {post : Int32 → Wd → Prop} {x1 : Int32} {zx1 : Int} {x2 : Int32} {zx2 : Int} {x3 : Int32} {zx3 : Int} {x4 : Int32} {zx4 : Int} {x5 : Int32} {zx5 : Int} {w : Wd}  (tx1 : Ti x1 zx1) (tx2 : Ti x2 zx2) (tx3 : Ti x3 zx3) (tx4 : Ti x4 zx4) (tx5 : Ti x5 zx5) (hI : IM T W H P S M w)  (hp : ∀ (r : Int32) (zr : Int) (w9 : Wd), Ti r zr → IM T W H P S M w9 → post r w9) : pX11_forge   post  x1 x2 x3 x4 x5 w := by
  unfold pX11_forge
  have hk := im_k hI
  refine sX11_canCast   (hI := hI) (tx1 := tx1) (tx2 := tx2) (tx3 := tx3)  (hp := fun r_1v534 zr_1v534 tr_1v534 p1023 => ?_)
  refine ⟨fun c1024 => ?_, fun c1024 => ?_⟩
  · replace c1024 := c_eq tr_1v534 lit_0 c1024
    exact hp _ _ _  lit_m1 hI 
  · replace c1024 := c_neq tr_1v534 lit_0 c1024
    refine sX11_isRow   (hI := hI) (tx1 := tx4)  (hp := fun r_4v540 zr_4v540 tr_4v540 p1025 => ?_)
    refine ⟨fun c1026 => ?_, fun c1026 => ?_⟩
    · replace c1026 := c_eq tr_4v540 lit_0 c1026
      exact hp _ _ _  lit_m1 hI 
    · replace c1026 := c_neq tr_4v540 lit_0 c1026
      refine sX11_isIn   (hI := hI) (tx0 := tx5) (tx1 := lit_0) (tx2 := lit_1)  (hp := fun r_7v544 zr_7v544 tr_7v544 p1027 p1028 => ?_)
      refine ⟨fun c1029 => ?_, fun c1029 => ?_⟩
      · replace c1029 := c_neq tr_7v544 lit_0 c1029
        exact ⟨70000, sX11_forge_40    (hp := hp) 70000 _ _ _ _ _ _ _ _ _ _ _ _ _ _ _ _ _ tx1 tx2 tx3 tx4 tx5 lit_m1 lit_0 lit_0 hI (by omega) (by omega) (by omega) (by omega)⟩
      · replace c1029 := c_eq tr_7v544 lit_0 c1029
        exact hp _ _ _  lit_m1 hI 
set_option maxHeartbeats 4000000 in
set_option maxRecDepth 100000 in
theorem sX11_nearest_27 {T W H P S M : Int} {post : Int32 → Wd → Prop} {w : Wd}  (hp : ∀ (r : Int32) (zr : Int), Ti r zr → post r w) : ∀ (n : Nat) (x1 : Int32) (x2 : Int32) (x3 : Int32) (x4 : Int32) (x5 : Int32) (zx1 : Int) (zx2 : Int) (zx3 : Int) (zx4 : Int) (zx5 : Int), Ti x1 zx1 → Ti x2 zx2 → Ti x3 zx3 → Ti x4 zx4 → Ti x5 zx5 → IM T W H P S M w → (0 ≤ zx5 ∧ zx5 ≤ 48) → (-1 ≤ zx3) → (49 - zx5) < (n : Int) → pX11_nearest_27   post  n x1 x2 x3 x4 x5 w := by
  intro n
  induction n with
  | zero =>
    intro x1 x2 x3 x4 x5 zx1 zx2 zx3 zx4 zx5  tx1 tx2 tx3 tx4 tx5 hI h0 h1 hm
    exact absurd hm (by omega)
  | succ n ih =>
    intro x1 x2 x3 x4 x5 zx1 zx2 zx3 zx4 zx5  tx1 tx2 tx3 tx4 tx5 hI h0 h1 hm
    unfold pX11_nearest_27
    have hk := im_k hI
    obtain ⟨z1030, t1031⟩ := t_any (w.2.1 341 (216 : Int32).toNatClampNeg)
    have f1032 := img_216 hI t1031
    obtain ⟨z1033, t1034, f1035⟩ := t_mul lit_2 t1031
    first | replace f1035 := f1035 (by omega) | clear f1035
    refine ⟨fun c1036 => ?_, fun c1036 => ?_⟩
    · replace c1036 := c_le t1034 tx5 c1036
      refine ⟨fun c1037 => ?_, fun c1037 => ?_⟩
      · replace c1037 := c_neq tx2 lit_0 c1037
        refine ⟨fun c1038 => ?_, fun c1038 => ?_⟩
        · replace c1038 := c_neq tx2 lit_1 c1038
          refine ⟨nz_of t1031 (by omega), ?_⟩
          obtain ⟨z1039, t1040, f1041⟩ := t_divv tx3 t1031
          first | replace f1041 := f1041 (by omega) | clear f1041
          exact hp _ _ t1040 
        · replace c1038 := c_eq tx2 lit_1 c1038
          refine ⟨nz_of t1031 (by omega), ?_⟩
          obtain ⟨z1042, t1043, f1044⟩ := t_remv tx3 t1031
          first | replace f1044 := f1044 (by omega) | clear f1044
          exact hp _ _ t1043 
      · replace c1037 := c_eq tx2 lit_0 c1037
        exact hp _ _ tx4 
    · replace c1036 := c_nle t1034 tx5 c1036
      refine ⟨nz_of t1031 (by omega), ?_⟩
      obtain ⟨z1045, t1046, f1047⟩ := t_remv tx5 t1031
      first | replace f1047 := f1047 (by omega) | clear f1047
      intro x6_4v546 ex6_4v546
      have tx6_4v546 : Ti x6_4v546 z1045 := by rw [ex6_4v546]; exact t1046
      refine ⟨fun c1048 => ?_, fun c1048 => ?_⟩
      · replace c1048 := c_le t1031 tx5 c1048
        refine sX11_rowOf   (hI := hI) (tx1 := tx6_4v546) (h0 := (by omega)) (hp := fun r_6v547 zr_6v547 tr_6v547 p1049 => ?_)
        unfold pX11_nearest_88
        obtain ⟨z1050, t1051⟩ := t_any (x1 ^^^ r_6v547)
        refine sX11_bitsOf   (hI := hI) (tx0 := t1051)  (hp := fun r_1v553 zr_1v553 tr_1v553 => ?_)
        refine ⟨fun c1052 => ?_, fun c1052 => ?_⟩
        · replace c1052 := c_lt tx3 lit_0 c1052
          unfold pX11_nearest_108
          unfold pX11_nearest_115
          obtain ⟨z1053, t1054, f1055⟩ := t_add tx5 lit_1
          first | replace f1055 := f1055 (by omega) | clear f1055
          intro x5_1v555 ex5_1v555
          have tx5_1v555 : Ti x5_1v555 z1053 := by rw [ex5_1v555]; exact t1054
          exact ih _ _ _ _ _ _ _ _ _ _  tx1 tx2 tx5 tr_1v553 tx5_1v555 hI (by omega) (by omega) (by omega)
        · replace c1052 := c_nlt tx3 lit_0 c1052
          refine ⟨fun c1056 => ?_, fun c1056 => ?_⟩
          · replace c1056 := c_lt tr_1v553 tx4 c1056
            unfold pX11_nearest_108
            unfold pX11_nearest_115
            obtain ⟨z1057, t1058, f1059⟩ := t_add tx5 lit_1
            first | replace f1059 := f1059 (by omega) | clear f1059
            intro x5_1v556 ex5_1v556
            have tx5_1v556 : Ti x5_1v556 z1057 := by rw [ex5_1v556]; exact t1058
            exact ih _ _ _ _ _ _ _ _ _ _  tx1 tx2 tx5 tr_1v553 tx5_1v556 hI (by omega) (by omega) (by omega)
          · replace c1056 := c_nlt tr_1v553 tx4 c1056
            unfold pX11_nearest_115
            obtain ⟨z1060, t1061, f1062⟩ := t_add tx5 lit_1
            first | replace f1062 := f1062 (by omega) | clear f1062
            intro x5_1v557 ex5_1v557
            have tx5_1v557 : Ti x5_1v557 z1060 := by rw [ex5_1v557]; exact t1061
            exact ih _ _ _ _ _ _ _ _ _ _  tx1 tx2 tx3 tx4 tx5_1v557 hI (by omega) (by omega) (by omega)
      · replace c1048 := c_nle t1031 tx5 c1048
        refine sX11_rowOf   (hI := hI) (tx1 := tx6_4v546) (h0 := (by omega)) (hp := fun r_8v549 zr_8v549 tr_8v549 p1063 => ?_)
        refine sX11_turnedRow   (hI := hI) (tx1 := tr_8v549)  (hp := fun r_10v558 zr_10v558 tr_10v558 => ?_)
        unfold pX11_nearest_88
        obtain ⟨z1064, t1065⟩ := t_any (x1 ^^^ r_10v558)
        refine sX11_bitsOf   (hI := hI) (tx0 := t1065)  (hp := fun r_1v560 zr_1v560 tr_1v560 => ?_)
        refine ⟨fun c1066 => ?_, fun c1066 => ?_⟩
        · replace c1066 := c_lt tx3 lit_0 c1066
          unfold pX11_nearest_108
          unfold pX11_nearest_115
          obtain ⟨z1067, t1068, f1069⟩ := t_add tx5 lit_1
          first | replace f1069 := f1069 (by omega) | clear f1069
          intro x5_1v562 ex5_1v562
          have tx5_1v562 : Ti x5_1v562 z1067 := by rw [ex5_1v562]; exact t1068
          exact ih _ _ _ _ _ _ _ _ _ _  tx1 tx2 tx5 tr_1v560 tx5_1v562 hI (by omega) (by omega) (by omega)
        · replace c1066 := c_nlt tx3 lit_0 c1066
          refine ⟨fun c1070 => ?_, fun c1070 => ?_⟩
          · replace c1070 := c_lt tr_1v560 tx4 c1070
            unfold pX11_nearest_108
            unfold pX11_nearest_115
            obtain ⟨z1071, t1072, f1073⟩ := t_add tx5 lit_1
            first | replace f1073 := f1073 (by omega) | clear f1073
            intro x5_1v563 ex5_1v563
            have tx5_1v563 : Ti x5_1v563 z1071 := by rw [ex5_1v563]; exact t1072
            exact ih _ _ _ _ _ _ _ _ _ _  tx1 tx2 tx5 tr_1v560 tx5_1v563 hI (by omega) (by omega) (by omega)
          · replace c1070 := c_nlt tr_1v560 tx4 c1070
            unfold pX11_nearest_115
            obtain ⟨z1074, t1075, f1076⟩ := t_add tx5 lit_1
            first | replace f1076 := f1076 (by omega) | clear f1076
            intro x5_1v564 ex5_1v564
            have tx5_1v564 : Ti x5_1v564 z1074 := by rw [ex5_1v564]; exact t1075
            exact ih _ _ _ _ _ _ _ _ _ _  tx1 tx2 tx3 tx4 tx5_1v564 hI (by omega) (by omega) (by omega)
set_option maxHeartbeats 4000000 in
set_option maxRecDepth 100000 in
theorem sX11_nearest {T W H P S M : Int} {post : Int32 → Wd → Prop} {x1 : Int32} {zx1 : Int} {x2 : Int32} {zx2 : Int} {w : Wd}  (tx1 : Ti x1 zx1) (tx2 : Ti x2 zx2) (hI : IM T W H P S M w)  (hp : ∀ (r : Int32) (zr : Int), Ti r zr → post r w) : pX11_nearest   post  x1 x2 w := by
  unfold pX11_nearest
  have hk := im_k hI
  refine sX11_isRow   (hI := hI) (tx1 := tx1)  (hp := fun r_1v565 zr_1v565 tr_1v565 p1077 => ?_)
  refine ⟨fun c1078 => ?_, fun c1078 => ?_⟩
  · replace c1078 := c_eq tr_1v565 lit_0 c1078
    exact hp _ _ lit_m1 
  · replace c1078 := c_neq tr_1v565 lit_0 c1078
    refine sX11_isIn   (hI := hI) (tx0 := tx2) (tx1 := lit_0) (tx2 := lit_2)  (hp := fun r_4v569 zr_4v569 tr_4v569 p1079 p1080 => ?_)
    refine ⟨fun c1081 => ?_, fun c1081 => ?_⟩
    · replace c1081 := c_neq tr_4v569 lit_0 c1081
      exact ⟨70000, sX11_nearest_27    (hp := hp) 70000 _ _ _ _ _ _ _ _ _ _  tx1 tx2 lit_m1 lit_0 lit_0 hI (by omega) (by omega) (by omega)⟩
    · replace c1081 := c_eq tr_4v569 lit_0 c1081
      exact hp _ _ lit_m1 
set_option maxHeartbeats 4000000 in
set_option maxRecDepth 100000 in
theorem sX11_common_78 {T W H P S M : Int} {post : Int32 → Wd → Prop} {w : Wd}  (hp : ∀ (r : Int32) (zr : Int), Ti r zr → post r w) : ∀ (n : Nat) (x1 : Int32) (x2 : Int32) (x3 : Int32) (zx1 : Int) (zx2 : Int) (zx3 : Int), Ti x1 zx1 → Ti x2 zx2 → Ti x3 zx3 → IM T W H P S M w → (0 ≤ zx3 ∧ zx3 ≤ 40) → (41 - zx3) < (n : Int) → pX11_common_78   post  n x1 x2 x3 w := by
  intro n
  induction n with
  | zero =>
    intro x1 x2 x3 zx1 zx2 zx3  tx1 tx2 tx3 hI h0 hm
    exact absurd hm (by omega)
  | succ n ih =>
    intro x1 x2 x3 zx1 zx2 zx3  tx1 tx2 tx3 hI h0 hm
    unfold pX11_common_78
    have hk := im_k hI
    obtain ⟨z1082, t1083⟩ := t_any (w.2.1 341 (217 : Int32).toNatClampNeg)
    have f1084 := img_217 hI t1083
    refine ⟨fun c1085 => ?_, fun c1085 => ?_⟩
    · replace c1085 := c_le t1083 tx3 c1085
      exact hp _ _ tx2 
    · replace c1085 := c_nle t1083 tx3 c1085
      refine ⟨fun c1086 => ?_, fun c1086 => ?_⟩
      · replace c1086 := c_neq tx1 lit_2 c1086
        exact hp _ _ tx2 
      · replace c1086 := c_eq tx1 lit_2 c1086
        obtain ⟨z1087, t1088, f1089⟩ := t_mul lit_3 tx3
        first | replace f1089 := f1089 (by omega) | clear f1089
        obtain ⟨z1090, t1091, f1092⟩ := t_add lit_96 t1088
        first | replace f1092 := f1092 (by omega) | clear f1092
        refine ⟨vp_of t1091 (by omega) (by omega), ?_⟩
        obtain ⟨z1093, t1094⟩ := t_any (x2 &&& (w.2.1 341 ((96 : Int32) + ((3 : Int32) * x3)).toNatClampNeg))
        intro x2_3v571 ex2_3v571
        have tx2_3v571 : Ti x2_3v571 z1093 := by rw [ex2_3v571]; exact t1094
        obtain ⟨z1095, t1096, f1097⟩ := t_add tx3 lit_1
        first | replace f1097 := f1097 (by omega) | clear f1097
        intro x3_4v572 ex3_4v572
        have tx3_4v572 : Ti x3_4v572 z1095 := by rw [ex3_4v572]; exact t1096
        exact ih _ _ _ _ _ _  tx1 tx2_3v571 tx3_4v572 hI (by omega) (by omega)
set_option maxHeartbeats 4000000 in
set_option maxRecDepth 100000 in
theorem sX11_common_31 {T W H P S M : Int} {post : Int32 → Wd → Prop} {w : Wd}  (hp : ∀ (r : Int32) (zr : Int), Ti r zr → post r w) : ∀ (n : Nat) (x1 : Int32) (x2 : Int32) (x3 : Int32) (zx1 : Int) (zx2 : Int) (zx3 : Int), Ti x1 zx1 → Ti x2 zx2 → Ti x3 zx3 → IM T W H P S M w → (0 ≤ zx3 ∧ zx3 ≤ 24) → (25 - zx3) < (n : Int) → pX11_common_31   post  n x1 x2 x3 w := by
  intro n
  induction n with
  | zero =>
    intro x1 x2 x3 zx1 zx2 zx3  tx1 tx2 tx3 hI h0 hm
    exact absurd hm (by omega)
  | succ n ih =>
    intro x1 x2 x3 zx1 zx2 zx3  tx1 tx2 tx3 hI h0 hm
    unfold pX11_common_31
    have hk := im_k hI
    obtain ⟨z1098, t1099⟩ := t_any (w.2.1 341 (216 : Int32).toNatClampNeg)
    have f1100 := img_216 hI t1099
    refine ⟨fun c1101 => ?_, fun c1101 => ?_⟩
    · replace c1101 := c_le t1099 tx3 c1101
      unfold pX11_common_76
      exact ⟨70000, sX11_common_78    (hp := hp) 70000 _ _ _ _ _ _  tx1 tx2 lit_0 hI (by omega) (by omega)⟩
    · replace c1101 := c_nle t1099 tx3 c1101
      refine ⟨fun c1102 => ?_, fun c1102 => ?_⟩
      · replace c1102 := c_le lit_2 tx1 c1102
        unfold pX11_common_76
        exact ⟨70000, sX11_common_78    (hp := hp) 70000 _ _ _ _ _ _  tx1 tx2 lit_0 hI (by omega) (by omega)⟩
      · replace c1102 := c_nle lit_2 tx1 c1102
        refine ⟨fun c1103 => ?_, fun c1103 => ?_⟩
        · replace c1103 := c_neq tx1 lit_0 c1103
          refine sX11_rowOf   (hI := hI) (tx1 := tx3) (h0 := (by omega)) (hp := fun r_4v573 zr_4v573 tr_4v573 p1104 => ?_)
          unfold pX11_common_69
          obtain ⟨z1105, t1106, f1107⟩ := t_add tx3 lit_1
          first | replace f1107 := f1107 (by omega) | clear f1107
          intro x3_1v577 ex3_1v577
          have tx3_1v577 : Ti x3_1v577 z1105 := by rw [ex3_1v577]; exact t1106
          obtain ⟨z1108, t1109, f1110⟩ := t_orW hI tx2 tr_4v573
          first | replace f1110 := f1110 (by omega) | clear f1110
          exact ih _ _ _ _ _ _  tx1 t1109 tx3_1v577 hI (by omega) (by omega)
        · replace c1103 := c_eq tx1 lit_0 c1103
          refine sX11_rowOf   (hI := hI) (tx1 := tx3) (h0 := (by omega)) (hp := fun r_6v575 zr_6v575 tr_6v575 p1111 => ?_)
          unfold pX11_common_69
          obtain ⟨z1112, t1113, f1114⟩ := t_add tx3 lit_1
          first | replace f1114 := f1114 (by omega) | clear f1114
          intro x3_1v578 ex3_1v578
          have tx3_1v578 : Ti x3_1v578 z1112 := by rw [ex3_1v578]; exact t1113
          obtain ⟨z1115, t1116⟩ := t_any (x2 &&& r_6v575)
          exact ih _ _ _ _ _ _  tx1 t1116 tx3_1v578 hI (by omega) (by omega)
set_option maxHeartbeats 4000000 in
set_option maxRecDepth 100000 in
theorem sX11_common {T W H P S M : Int} {post : Int32 → Wd → Prop} {x1 : Int32} {zx1 : Int} {w : Wd}  (tx1 : Ti x1 zx1) (hI : IM T W H P S M w)  (hp : ∀ (r : Int32) (zr : Int), Ti r zr → post r w) : pX11_common   post  x1 w := by
  unfold pX11_common
  have hk := im_k hI
  refine sX11_isIn   (hI := hI) (tx0 := tx1) (tx1 := lit_0) (tx2 := lit_2)  (hp := fun r_1v579 zr_1v579 tr_1v579 p1117 p1118 => ?_)
  refine ⟨fun c1119 => ?_, fun c1119 => ?_⟩
  · replace c1119 := c_neq tr_1v579 lit_0 c1119
    refine ⟨fun c1120 => ?_, fun c1120 => ?_⟩
    · replace c1120 := c_neq tx1 lit_1 c1120
      refine sX11_width   (hI := hI)   (hp := fun r_5v583 zr_5v583 tr_5v583 p1121 => ?_)
      unfold pX11_common_28
      obtain ⟨z1122, t1123, f1124⟩ := t_shlW hI tr_5v583
      first | replace f1124 := f1124 (by omega) | clear f1124
      obtain ⟨z1125, t1126, f1127⟩ := t_sub t1123 lit_1
      first | replace f1127 := f1127 (by omega) | clear f1127
      exact ⟨70000, sX11_common_31    (hp := hp) 70000 _ _ _ _ _ _  tx1 t1126 lit_0 hI (by omega) (by omega)⟩
    · replace c1120 := c_eq tx1 lit_1 c1120
      unfold pX11_common_28
      exact ⟨70000, sX11_common_31    (hp := hp) 70000 _ _ _ _ _ _  tx1 lit_0 lit_0 hI (by omega) (by omega)⟩
  · replace c1119 := c_eq tr_1v579 lit_0 c1119
    exact hp _ _ lit_m1 
set_option maxHeartbeats 4000000 in
set_option maxRecDepth 100000 in
theorem sX11_alike_15 {T W H P S M : Int} {post : Int32 → Wd → Prop} {w : Wd}  (hp : ∀ (r : Int32) (zr : Int), Ti r zr → post r w) : ∀ (n : Nat) (x1 : Int32) (x2 : Int32) (x3 : Int32) (x4 : Int32) (zx1 : Int) (zx2 : Int) (zx3 : Int) (zx4 : Int), Ti x1 zx1 → Ti x2 zx2 → Ti x3 zx3 → Ti x4 zx4 → IM T W H P S M w → (0 ≤ zx4 ∧ zx4 ≤ 24) → (25 - zx4) < (n : Int) → pX11_alike_15   post  n x1 x2 x3 x4 w := by
  intro n
  induction n with
  | zero =>
    intro x1 x2 x3 x4 zx1 zx2 zx3 zx4  tx1 tx2 tx3 tx4 hI h0 hm
    exact absurd hm (by omega)
  | succ n ih =>
    intro x1 x2 x3 x4 zx1 zx2 zx3 zx4  tx1 tx2 tx3 tx4 hI h0 hm
    unfold pX11_alike_15
    have hk := im_k hI
    obtain ⟨z1128, t1129⟩ := t_any (w.2.1 341 (216 : Int32).toNatClampNeg)
    have f1130 := img_216 hI t1129
    refine ⟨fun c1131 => ?_, fun c1131 => ?_⟩
    · replace c1131 := c_le t1129 tx4 c1131
      exact hp _ _ tx3 
    · replace c1131 := c_nle t1129 tx4 c1131
      refine ⟨fun c1132 => ?_, fun c1132 => ?_⟩
      · replace c1132 := c_eq tx2 lit_0 c1132
        refine sX11_rowOf   (hI := hI) (tx1 := tx4) (h0 := (by omega)) (hp := fun r_3v585 zr_3v585 tr_3v585 p1133 => ?_)
        unfold pX11_alike_51
        refine ⟨fun c1134 => ?_, fun c1134 => ?_⟩
        · replace c1134 := c_neq tr_3v585 tx1 c1134
          unfold pX11_alike_62
          obtain ⟨z1135, t1136, f1137⟩ := t_add tx4 lit_1
          first | replace f1137 := f1137 (by omega) | clear f1137
          intro x4_1v592 ex4_1v592
          have tx4_1v592 : Ti x4_1v592 z1135 := by rw [ex4_1v592]; exact t1136
          exact ih _ _ _ _ _ _ _ _  tx1 tx2 tx3 tx4_1v592 hI (by omega) (by omega)
        · replace c1134 := c_eq tr_3v585 tx1 c1134
          obtain ⟨z1138, t1139, f1140⟩ := t_shlW hI tx4
          first | replace f1140 := f1140 (by omega) | clear f1140
          obtain ⟨z1141, t1142, f1143⟩ := t_orW hI tx3 t1139
          first | replace f1143 := f1143 (by omega) | clear f1143
          intro x3_2v591 ex3_2v591
          have tx3_2v591 : Ti x3_2v591 z1141 := by rw [ex3_2v591]; exact t1142
          unfold pX11_alike_62
          obtain ⟨z1144, t1145, f1146⟩ := t_add tx4 lit_1
          first | replace f1146 := f1146 (by omega) | clear f1146
          intro x4_1v593 ex4_1v593
          have tx4_1v593 : Ti x4_1v593 z1144 := by rw [ex4_1v593]; exact t1145
          exact ih _ _ _ _ _ _ _ _  tx1 tx2 tx3_2v591 tx4_1v593 hI (by omega) (by omega)
      · replace c1132 := c_neq tx2 lit_0 c1132
        refine sX11_rowOf   (hI := hI) (tx1 := tx4) (h0 := (by omega)) (hp := fun r_5v587 zr_5v587 tr_5v587 p1147 => ?_)
        refine sX11_turnedRow   (hI := hI) (tx1 := tr_5v587)  (hp := fun r_7v594 zr_7v594 tr_7v594 => ?_)
        unfold pX11_alike_51
        refine ⟨fun c1148 => ?_, fun c1148 => ?_⟩
        · replace c1148 := c_neq tr_7v594 tx1 c1148
          unfold pX11_alike_62
          obtain ⟨z1149, t1150, f1151⟩ := t_add tx4 lit_1
          first | replace f1151 := f1151 (by omega) | clear f1151
          intro x4_1v597 ex4_1v597
          have tx4_1v597 : Ti x4_1v597 z1149 := by rw [ex4_1v597]; exact t1150
          exact ih _ _ _ _ _ _ _ _  tx1 tx2 tx3 tx4_1v597 hI (by omega) (by omega)
        · replace c1148 := c_eq tr_7v594 tx1 c1148
          obtain ⟨z1152, t1153, f1154⟩ := t_shlW hI tx4
          first | replace f1154 := f1154 (by omega) | clear f1154
          obtain ⟨z1155, t1156, f1157⟩ := t_orW hI tx3 t1153
          first | replace f1157 := f1157 (by omega) | clear f1157
          intro x3_2v596 ex3_2v596
          have tx3_2v596 : Ti x3_2v596 z1155 := by rw [ex3_2v596]; exact t1156
          unfold pX11_alike_62
          obtain ⟨z1158, t1159, f1160⟩ := t_add tx4 lit_1
          first | replace f1160 := f1160 (by omega) | clear f1160
          intro x4_1v598 ex4_1v598
          have tx4_1v598 : Ti x4_1v598 z1158 := by rw [ex4_1v598]; exact t1159
          exact ih _ _ _ _ _ _ _ _  tx1 tx2 tx3_2v596 tx4_1v598 hI (by omega) (by omega)
set_option maxHeartbeats 4000000 in
set_option maxRecDepth 100000 in
theorem sX11_alike {T W H P S M : Int} {post : Int32 → Wd → Prop} {x1 : Int32} {zx1 : Int} {x2 : Int32} {zx2 : Int} {w : Wd}  (tx1 : Ti x1 zx1) (tx2 : Ti x2 zx2) (hI : IM T W H P S M w)  (hp : ∀ (r : Int32) (zr : Int), Ti r zr → post r w) : pX11_alike   post  x1 x2 w := by
  unfold pX11_alike
  have hk := im_k hI
  refine sX11_isRow   (hI := hI) (tx1 := tx1)  (hp := fun r_1v599 zr_1v599 tr_1v599 p1161 => ?_)
  refine ⟨fun c1162 => ?_, fun c1162 => ?_⟩
  · replace c1162 := c_neq tr_1v599 lit_0 c1162
    exact ⟨70000, sX11_alike_15    (hp := hp) 70000 _ _ _ _ _ _ _ _  tx1 tx2 lit_0 lit_0 hI (by omega) (by omega)⟩
  · replace c1162 := c_eq tr_1v599 lit_0 c1162
    exact hp _ _ lit_m1 
set_option maxHeartbeats 4000000 in
set_option maxRecDepth 100000 in
theorem sX11_doTell_16 {T W H P S M : Int} {k2 : Int32 → Int32 → Wd → Prop} {M2 : Int} {post : Int32 → Wd → Prop} {w : Wd} (hk2 : ∀ (x1 : Int32) (x2 : Int32) (zx1 : Int) (zx2 : Int), Ti x1 zx1 → Ti x2 zx2 → IM T W H P S M w → (0 ≤ zx2 ∧ zx2 ≤ 24) → (25 - zx2) < M2 → k2 x1 x2 w) (hp : ∀ (r : Int32) (zr : Int), Ti r zr → post r w) : ∀ (n : Nat) (x1 : Int32) (x2 : Int32) (x3 : Int32) (zx1 : Int) (zx2 : Int) (zx3 : Int), Ti x1 zx1 → Ti x2 zx2 → Ti x3 zx3 → IM T W H P S M w → (0 ≤ zx3 ∧ zx3 ≤ 24) → (zx2 < S) → (0 ≤ zx2 ∧ zx2 ≤ 24) → ((25 - zx2) ≤ M2) → (25 - zx3) < (n : Int) → pX11_doTell_16 k2  post  n x1 x2 x3 w := by
  intro n
  induction n with
  | zero =>
    intro x1 x2 x3 zx1 zx2 zx3  tx1 tx2 tx3 hI h0 h1 h2 h3 hm
    exact absurd hm (by omega)
  | succ n ih =>
    intro x1 x2 x3 zx1 zx2 zx3  tx1 tx2 tx3 hI h0 h1 h2 h3 hm
    unfold pX11_doTell_16
    have hk := im_k hI
    refine ⟨fun c1163 => ?_, fun c1163 => ?_⟩
    · replace c1163 := c_le tx2 tx3 c1163
      obtain ⟨z1164, t1165, f1166⟩ := t_add tx2 lit_1
      first | replace f1166 := f1166 (by omega) | clear f1166
      intro x2_2v601 ex2_2v601
      have tx2_2v601 : Ti x2_2v601 z1164 := by rw [ex2_2v601]; exact t1165
      exact hk2 _ _ _ _  tx1 tx2_2v601 hI (by omega) (by omega)
    · replace c1163 := c_nle tx2 tx3 c1163
      refine sX11_rowOf   (hI := hI) (tx1 := tx2) (h0 := (by omega)) (hp := fun r_3v602 zr_3v602 tr_3v602 p1167 => ?_)
      refine sX11_rowOf   (hI := hI) (tx1 := tx3) (h0 := (by omega)) (hp := fun r_5v610 zr_5v610 tr_5v610 p1168 => ?_)
      refine ⟨fun c1169 => ?_, fun c1169 => ?_⟩
      · replace c1169 := c_eq tr_3v602 tr_5v610 c1169
        unfold pX11_doTell_52
        obtain ⟨z1170, t1171, f1172⟩ := t_add tx3 lit_1
        first | replace f1172 := f1172 (by omega) | clear f1172
        intro x3_1v620 ex3_1v620
        have tx3_1v620 : Ti x3_1v620 z1170 := by rw [ex3_1v620]; exact t1171
        exact ih _ _ _ _ _ _  tx1 tx2 tx3_1v620 hI (by omega) (by omega) (by omega) (by omega) (by omega)
      · replace c1169 := c_neq tr_3v602 tr_5v610 c1169
        refine sX11_rowOf   (hI := hI) (tx1 := tx2) (h0 := (by omega)) (hp := fun r_8v616 zr_8v616 tr_8v616 p1173 => ?_)
        refine sX11_rowOf   (hI := hI) (tx1 := tx3) (h0 := (by omega)) (hp := fun r_10v621 zr_10v621 tr_10v621 p1174 => ?_)
        obtain ⟨z1175, t1176⟩ := t_any ((r_8v616 ^^^ r_10v621) &&& x1)
        refine ⟨fun c1177 => ?_, fun c1177 => ?_⟩
        · replace c1177 := c_neq t1176 lit_0 c1177
          unfold pX11_doTell_52
          obtain ⟨z1178, t1179, f1180⟩ := t_add tx3 lit_1
          first | replace f1180 := f1180 (by omega) | clear f1180
          intro x3_1v623 ex3_1v623
          have tx3_1v623 : Ti x3_1v623 z1178 := by rw [ex3_1v623]; exact t1179
          exact ih _ _ _ _ _ _  tx1 tx2 tx3_1v623 hI (by omega) (by omega) (by omega) (by omega) (by omega)
        · replace c1177 := c_eq t1176 lit_0 c1177
          exact hp _ _ lit_0 
set_option maxHeartbeats 4000000 in
set_option maxRecDepth 100000 in
theorem sX11_doTell_2 {T W H P S M : Int} {post : Int32 → Wd → Prop} {w : Wd}  (hp : ∀ (r : Int32) (zr : Int), Ti r zr → post r w) : ∀ (n : Nat) (x1 : Int32) (x2 : Int32) (zx1 : Int) (zx2 : Int), Ti x1 zx1 → Ti x2 zx2 → IM T W H P S M w → (0 ≤ zx2 ∧ zx2 ≤ 24) → (25 - zx2) < (n : Int) → pX11_doTell_2   post  n x1 x2 w := by
  intro n
  induction n with
  | zero =>
    intro x1 x2 zx1 zx2  tx1 tx2 hI h0 hm
    exact absurd hm (by omega)
  | succ n ih =>
    intro x1 x2 zx1 zx2  tx1 tx2 hI h0 hm
    unfold pX11_doTell_2
    have hk := im_k hI
    obtain ⟨z1181, t1182⟩ := t_any (w.2.1 341 (216 : Int32).toNatClampNeg)
    have f1183 := img_216 hI t1182
    refine ⟨fun c1184 => ?_, fun c1184 => ?_⟩
    · replace c1184 := c_le t1182 tx2 c1184
      exact hp _ _ lit_1 
    · replace c1184 := c_nle t1182 tx2 c1184
      exact ⟨70000, sX11_doTell_16  (M2 := (n : Int)) (hk2 := ih)  (hp := hp) 70000 _ _ _ _ _ _  tx1 tx2 lit_0 hI (by omega) (by omega) (by omega) (by omega) (by omega)⟩
set_option maxHeartbeats 4000000 in
set_option maxRecDepth 100000 in
theorem sX11_doTell {T W H P S M : Int} {post : Int32 → Wd → Prop} {x1 : Int32} {zx1 : Int} {w : Wd}  (tx1 : Ti x1 zx1) (hI : IM T W H P S M w)  (hp : ∀ (r : Int32) (zr : Int), Ti r zr → post r w) : pX11_doTell   post  x1 w := by
  unfold pX11_doTell
  have hk := im_k hI
  exact ⟨70000, sX11_doTell_2    (hp := hp) 70000 _ _ _ _  tx1 lit_0 hI (by omega) (by omega)⟩
set_option maxHeartbeats 4000000 in
set_option maxRecDepth 100000 in
theorem sX11_tell_52 {T W H P S M : Int} {post : Int32 → Wd → Prop}   (hp : ∀ (r : Int32) (zr : Int) (w9 : Wd), Ti r zr → IM T W H P S M w9 → post r w9) : ∀ (n : Nat) (x1 : Int32) (x2 : Int32) (zx1 : Int) (zx2 : Int) (w : Wd), Ti x1 zx1 → Ti x2 zx2 → IM T W H P S M w → (0 ≤ zx2 ∧ zx2 ≤ 12) → (Rg (w.1 300 48) 0 zx2) → (13 - zx2) < (n : Int) → pX11_tell_52   post  n x1 x2 w := by
  intro n
  induction n with
  | zero =>
    intro x1 x2 zx1 zx2 w tx1 tx2 hI h0 h1 hm
    exact absurd hm (by omega)
  | succ n ih =>
    intro x1 x2 zx1 zx2 w tx1 tx2 hI h0 h1 hm
    unfold pX11_tell_52
    have hk := im_k hI
    obtain ⟨z1185, t1186⟩ := t_any (w.1 300 48)
    have f1187 := img_48 hI t1186
    have f1188 := Rg.g h1 t1186
    refine sX11_width   (hI := hI)   (hp := fun r_1v624 zr_1v624 tr_1v624 p1189 => ?_)
    refine ⟨fun c1190 => ?_, fun c1190 => ?_⟩
    · replace c1190 := c_le tr_1v624 tx2 c1190
      exact hp _ _ _  t1186 hI 
    · replace c1190 := c_nle tr_1v624 tx2 c1190
      obtain ⟨z1191, t1192, f1193⟩ := t_and (x := (x1 >>> (x2 &&& 31))) lit_1 (by decide)
      refine ⟨fun c1194 => ?_, fun c1194 => ?_⟩
      · replace c1194 := c_neq t1192 lit_0 c1194
        refine ⟨vp_of t1186 (by omega) (by omega), ?_⟩
        intro w_5v628 ew_5v628
        have hIw_5v628 := ims_A hI ew_5v628 (by decide)
        intro w_6v629 ew_6v629
        have t1195 : Ti (w_5v628.1 300 48) z1185 := by rw [e1_A ew_5v628]; exact t1186
        obtain ⟨z1196, t1197, f1198⟩ := t_add t1195 lit_1
        first | replace f1198 := f1198 (by omega) | clear f1198
        have hIw_6v629 := ims_48 hIw_5v628 ew_6v629 t1197 (by omega) (by omega)
        unfold pX11_tell_91
        obtain ⟨z1199, t1200, f1201⟩ := t_add tx2 lit_1
        first | replace f1201 := f1201 (by omega) | clear f1201
        intro x2_1v630 ex2_1v630
        have tx2_1v630 : Ti x2_1v630 z1199 := by rw [ex2_1v630]; exact t1200
        have t1202 : Ti (w_6v629.1 300 48) z1196 := by rw [ew_6v629, sI_at]; exact t1197
        exact ih _ _ _ _ _ tx1 tx2_1v630 hIw_6v629 (by omega) (Rg.m t1202 (by omega) (by omega)) (by omega)
      · replace c1194 := c_eq t1192 lit_0 c1194
        unfold pX11_tell_91
        obtain ⟨z1203, t1204, f1205⟩ := t_add tx2 lit_1
        first | replace f1205 := f1205 (by omega) | clear f1205
        intro x2_1v631 ex2_1v631
        have tx2_1v631 : Ti x2_1v631 z1203 := by rw [ex2_1v631]; exact t1204
        exact ih _ _ _ _ _ tx1 tx2_1v631 hI (by omega) (Rg.m t1186 (by omega) (by omega)) (by omega)
set_option maxHeartbeats 4000000 in
set_option maxRecDepth 100000 in
theorem sX11_tell_4 {T W H P S M : Int} {post : Int32 → Wd → Prop}   (hp : ∀ (r : Int32) (zr : Int) (w9 : Wd), Ti r zr → IM T W H P S M w9 → post r w9) : ∀ (n : Nat) (x1 : Int32) (x2 : Int32) (zx1 : Int) (zx2 : Int) (w : Wd), Ti x1 zx1 → Ti x2 zx2 → IM T W H P S M w → (0 ≤ zx2 ∧ zx2 ≤ 4096) → (4097 - zx2) < (n : Int) → pX11_tell_4   post  n x1 x2 w := by
  intro n
  induction n with
  | zero =>
    intro x1 x2 zx1 zx2 w tx1 tx2 hI h0 hm
    exact absurd hm (by omega)
  | succ n ih =>
    intro x1 x2 zx1 zx2 w tx1 tx2 hI h0 hm
    unfold pX11_tell_4
    have hk := im_k hI
    refine sX11_width   (hI := hI)   (hp := fun r_1v632 zr_1v632 tr_1v632 p1206 => ?_)
    obtain ⟨z1207, t1208, f1209⟩ := t_shlW hI tr_1v632
    first | replace f1209 := f1209 (by omega) | clear f1209
    refine ⟨fun c1210 => ?_, fun c1210 => ?_⟩
    · replace c1210 := c_le t1208 tx2 c1210
      intro w_4v639 ew_4v639
      have hIw_4v639 := ims_48 hI ew_4v639 lit_0 (by omega) (by omega)
      have t1211 : Ti (w_4v639.1 300 48) 0 := by rw [ew_4v639, sI_at]; exact lit_0
      exact ⟨70000, sX11_tell_52    (hp := hp) 70000 _ _ _ _ _ tx1 lit_0 hIw_4v639 (by omega) (Rg.m t1211 (by omega) (by omega)) (by omega)⟩
    · replace c1210 := c_nle t1208 tx2 c1210
      refine ⟨fun c1212 => ?_, fun c1212 => ?_⟩
      · replace c1212 := c_lt tx1 lit_0 c1212
        unfold pX11_tell_29
        refine sX11_doTell   (hI := hI) (tx1 := tx2)  (hp := fun r_1v644 zr_1v644 tr_1v644 => ?_)
        refine ⟨fun c1213 => ?_, fun c1213 => ?_⟩
        · replace c1213 := c_eq tr_1v644 lit_0 c1213
          unfold pX11_tell_39
          obtain ⟨z1214, t1215, f1216⟩ := t_add tx2 lit_1
          first | replace f1216 := f1216 (by omega) | clear f1216
          intro x2_1v646 ex2_1v646
          have tx2_1v646 : Ti x2_1v646 z1214 := by rw [ex2_1v646]; exact t1215
          exact ih _ _ _ _ _ tx1 tx2_1v646 hI (by omega) (by omega)
        · replace c1213 := c_neq tr_1v644 lit_0 c1213
          unfold pX11_tell_39
          obtain ⟨z1217, t1218, f1219⟩ := t_add tx2 lit_1
          first | replace f1219 := f1219 (by omega) | clear f1219
          intro x2_1v647 ex2_1v647
          have tx2_1v647 : Ti x2_1v647 z1217 := by rw [ex2_1v647]; exact t1218
          exact ih _ _ _ _ _ tx2 tx2_1v647 hI (by omega) (by omega)
      · replace c1212 := c_nlt tx1 lit_0 c1212
        refine sX11_bitsOf   (hI := hI) (tx0 := tx2)  (hp := fun r_6v640 zr_6v640 tr_6v640 => ?_)
        refine sX11_bitsOf   (hI := hI) (tx0 := tx1)  (hp := fun r_8v648 zr_8v648 tr_8v648 => ?_)
        refine ⟨fun c1220 => ?_, fun c1220 => ?_⟩
        · replace c1220 := c_le tr_8v648 tr_6v640 c1220
          unfold pX11_tell_39
          obtain ⟨z1221, t1222, f1223⟩ := t_add tx2 lit_1
          first | replace f1223 := f1223 (by omega) | clear f1223
          intro x2_1v650 ex2_1v650
          have tx2_1v650 : Ti x2_1v650 z1221 := by rw [ex2_1v650]; exact t1222
          exact ih _ _ _ _ _ tx1 tx2_1v650 hI (by omega) (by omega)
        · replace c1220 := c_nle tr_8v648 tr_6v640 c1220
          unfold pX11_tell_29
          refine sX11_doTell   (hI := hI) (tx1 := tx2)  (hp := fun r_1v651 zr_1v651 tr_1v651 => ?_)
          refine ⟨fun c1224 => ?_, fun c1224 => ?_⟩
          · replace c1224 := c_eq tr_1v651 lit_0 c1224
            unfold pX11_tell_39
            obtain ⟨z1225, t1226, f1227⟩ := t_add tx2 lit_1
            first | replace f1227 := f1227 (by omega) | clear f1227
            intro x2_1v653 ex2_1v653
            have tx2_1v653 : Ti x2_1v653 z1225 := by rw [ex2_1v653]; exact t1226
            exact ih _ _ _ _ _ tx1 tx2_1v653 hI (by omega) (by omega)
          · replace c1224 := c_neq tr_1v651 lit_0 c1224
            unfold pX11_tell_39
            obtain ⟨z1228, t1229, f1230⟩ := t_add tx2 lit_1
            first | replace f1230 := f1230 (by omega) | clear f1230
            intro x2_1v654 ex2_1v654
            have tx2_1v654 : Ti x2_1v654 z1228 := by rw [ex2_1v654]; exact t1229
            exact ih _ _ _ _ _ tx2 tx2_1v654 hI (by omega) (by omega)
set_option maxHeartbeats 4000000 in
set_option maxRecDepth 100000 in
theorem sX11_tell {T W H P S M : Int} {post : Int32 → Wd → Prop}  {w : Wd}   (hI : IM T W H P S M w)  (hp : ∀ (r : Int32) (zr : Int) (w9 : Wd), Ti r zr → IM T W H P S M w9 → post r w9) : pX11_tell   post   w := by
  unfold pX11_tell
  have hk := im_k hI
  exact ⟨70000, sX11_tell_4    (hp := hp) 70000 _ _ _ _ _ lit_m1 lit_0 hI (by omega) (by omega)⟩
def cn (a : Nat → Int32) : Nat → Nat
  | 0 => 0
  | n + 1 => cn a n + (if (a n).toInt < 0 then 1 else 0)
theorem cn_le (a : Nat → Int32) (n : Nat) : cn a n ≤ n := by
  induction n with
  | zero => exact Nat.le_refl _
  | succ n ih =>
    show cn a n + (if (a n).toInt < 0 then 1 else 0) ≤ n + 1
    split <;> omega
theorem cn_far (a : Nat → Int32) (i : Nat) (v : Int32) : ∀ n : Nat, n ≤ i → cn (upd a i v) n = cn a n := by
  intro n
  induction n with
  | zero => intro _; rfl
  | succ n ih =>
    intro h
    show cn (upd a i v) n + (if (upd a i v n).toInt < 0 then 1 else 0) = cn a n + (if (a n).toInt < 0 then 1 else 0)
    rw [ih (by omega), pk_un (by omega)]
theorem cn_upd {a : Nat → Int32} {i : Nat} {v : Int32} (h1 : (a i).toInt < 0) (h2 : 0 ≤ v.toInt) : ∀ n : Nat, i < n → cn (upd a i v) n + 1 = cn a n := by
  intro n
  induction n with
  | zero => intro h; exact absurd h (by omega)
  | succ n ih =>
    intro h
    show cn (upd a i v) n + (if (upd a i v n).toInt < 0 then 1 else 0) + 1 = cn a n + (if (a n).toInt < 0 then 1 else 0)
    by_cases hn : n = i
    · subst hn
      rw [cn_far a n v n (Nat.le_refl _), pk_us, if_neg (by omega), if_pos h1]
    · rw [pk_un hn]
      have := ih (by omega)
      omega
theorem stJ_350 (a : Nat → Int32) : StJ (fun w => w.2.1 350 = a) := ⟨fun w f v _ _ h => h, fun w i v h => by show (sA w 329 i v).2.1 350 = a; rw [sA_ne (by decide)]; exact h⟩
set_option maxHeartbeats 4000000 in
theorem sX11_round_57 {T W H P S M : Int} {post : Int32 → Wd → Prop} (hp : ∀ (r : Int32) (zr : Int) (w9 : Wd), Ti r zr → IM T W H P S M w9 → post r w9) : ∀ (n : Nat) (x2 : Int32) (x3 : Int32) (x4 : Int32) (x5 : Int32) (x6 : Int32) (zx2 : Int) (zx3 : Int) (zx4 : Int) (zx5 : Int) (zx6 : Int) (w : Wd), Ti x2 zx2 → Ti x3 zx3 → Ti x4 zx4 → Ti x5 zx5 → Ti x6 zx6 → IM T W H P S M w → (0 ≤ zx2 ∧ zx2 < H) → (0 ≤ zx5 ∧ zx5 < P) → (0 ≤ zx6 ∧ zx6 + (cn (w.2.1 350) 4096 : Int) ≤ 4096) → (cn (w.2.1 350) 4096 : Int) < (n : Int) → pX11_round_57 post n x2 x3 x4 x5 x6 w := by
  intro n
  induction n with
  | zero =>
    intro x2 x3 x4 x5 x6 zx2 zx3 zx4 zx5 zx6 w tx2 tx3 tx4 tx5 tx6 hI h0 h1 h2 hm
    exact absurd hm (by omega)
  | succ n ih =>
    intro x2 x3 x4 x5 x6 zx2 zx3 zx4 zx5 zx6 w tx2 tx3 tx4 tx5 tx6 hI h0 h1 h2 hm
    unfold pX11_round_57
    have hk := im_k hI
    have v5 : vp_in x5 4096 := vp_of tx5 (by omega) (by omega)
    obtain ⟨za, ta⟩ := t_any (w.2.1 350 x5.toNatClampNeg)
    refine ⟨v5, fun c => ⟨fun c2 => ⟨v5, hp _ _ _ rfl hI⟩, fun c2 => hp _ _ _ rfl hI⟩, fun c => ⟨v5, ?_⟩⟩
    replace c := c_nle lit_0 ta c
    have e5 := i_cz tx5
    intro w_3 e3
    have i3 := ims_A hI e3 (by decide)
    obtain ⟨z7, t7, f7⟩ := t_add tx6 lit_1
    replace f7 := f7 (by omega)
    intro x6_4 e6
    have q : w_3.2.1 350 = upd (w.2.1 350) x5.toNatClampNeg x6 := by rw [e3, sA_eq]
    have k := cn_upd (a := w.2.1 350) (i := x5.toNatClampNeg) (v := x6) (by rw [show (w.2.1 350 x5.toNatClampNeg).toInt = za from ta]; exact c) (by rw [show x6.toInt = zx6 from tx6]; exact h2.1) 4096 (by omega)
    rw [← q] at k
    refine jX11_castOf (J := fun w' => w'.2.1 350 = w_3.2.1 350) tx5 tx2 tx3 lit_0 ⟨i3, rfl, stJ_350 _⟩ h0 (fun r zr w9 tr i9 hr => ?_)
    have j9 : w9.2.1 350 = w_3.2.1 350 := i9.2.1
    exact ih _ _ _ _ _ _ _ _ _ _ _ tx2 tx3 tx4 tr (by rw [e6]; exact t7) i9.1 h0 (by omega) (by rw [j9]; omega) (by rw [j9]; omega)
set_option maxHeartbeats 4000000 in
set_option maxRecDepth 100000 in
theorem sX11_round_25 {T W H P S M : Int} {post : Int32 → Wd → Prop}   (hp : ∀ (r : Int32) (zr : Int) (w9 : Wd), Ti r zr → IM T W H P S M w9 → post r w9) : ∀ (n : Nat) (x1 : Int32) (x2 : Int32) (x3 : Int32) (x4 : Int32) (x5 : Int32) (zx1 : Int) (zx2 : Int) (zx3 : Int) (zx4 : Int) (zx5 : Int) (w : Wd), Ti x1 zx1 → Ti x2 zx2 → Ti x3 zx3 → Ti x4 zx4 → Ti x5 zx5 → IM T W H P S M w → (0 ≤ zx5 ∧ zx5 ≤ 4096) → (0 ≤ zx1 ∧ zx1 < S) → (0 ≤ zx2 ∧ zx2 < H) → (4097 - zx5) < (n : Int) → pX11_round_25   post  n x1 x2 x3 x4 x5 w := by
  intro n
  induction n with
  | zero =>
    intro x1 x2 x3 x4 x5 zx1 zx2 zx3 zx4 zx5 w tx1 tx2 tx3 tx4 tx5 hI h0 h1 h2 hm
    exact absurd hm (by omega)
  | succ n ih =>
    intro x1 x2 x3 x4 x5 zx1 zx2 zx3 zx4 zx5 w tx1 tx2 tx3 tx4 tx5 hI h0 h1 h2 hm
    unfold pX11_round_25
    have hk := im_k hI
    refine ⟨fun c1231 => ?_, fun c1231 => ?_⟩
    · replace c1231 := c_le lit_4096 tx5 c1231
      refine sX11_rowOf   (hI := hI) (tx1 := tx1) (h0 := (by omega)) (hp := fun r_2v655 zr_2v655 tr_2v655 p1232 => ?_)
      exact ⟨70000, sX11_round_57    (hp := hp) 70000 _ _ _ _ _ _ _ _ _ _ _ tx2 tx3 tx4 tr_2v655 lit_0 hI (by omega) (by omega) (by have q := cn_le (w.2.1 350) 4096; omega) (by have q := cn_le (w.2.1 350) 4096; omega)⟩
    · replace c1231 := c_nle lit_4096 tx5 c1231
      refine ⟨vp_of tx5 (by omega) (by omega), ?_⟩
      intro w_4v657 ew_4v657
      have hIw_4v657 := ims_A hI ew_4v657 (by decide)
      obtain ⟨z1233, t1234, f1235⟩ := t_add tx5 lit_1
      first | replace f1235 := f1235 (by omega) | clear f1235
      intro x5_5v658 ex5_5v658
      have tx5_5v658 : Ti x5_5v658 z1233 := by rw [ex5_5v658]; exact t1234
      exact ih _ _ _ _ _ _ _ _ _ _ _ tx1 tx2 tx3 tx4 tx5_5v658 hIw_4v657 (by omega) (by omega) (by omega) (by omega)
set_option maxHeartbeats 4000000 in
set_option maxRecDepth 100000 in
theorem sX11_round {T W H P S M : Int} {post : Int32 → Wd → Prop} {x1 : Int32} {zx1 : Int} {x2 : Int32} {zx2 : Int} {x3 : Int32} {zx3 : Int} {x4 : Int32} {zx4 : Int} {w : Wd}  (tx1 : Ti x1 zx1) (tx2 : Ti x2 zx2) (tx3 : Ti x3 zx3) (tx4 : Ti x4 zx4) (hI : IM T W H P S M w)  (hp : ∀ (r : Int32) (zr : Int) (w9 : Wd), Ti r zr → IM T W H P S M w9 → post r w9) : pX11_round   post  x1 x2 x3 x4 w := by
  unfold pX11_round
  have hk := im_k hI
  refine sX11_canCast   (hI := hI) (tx1 := tx1) (tx2 := tx2) (tx3 := tx3)  (hp := fun r_1v659 zr_1v659 tr_1v659 p1236 => ?_)
  refine ⟨fun c1237 => ?_, fun c1237 => ?_⟩
  · replace c1237 := c_eq tr_1v659 lit_0 c1237
    exact hp _ _ _  lit_m1 hI 
  · replace c1237 := c_neq tr_1v659 lit_0 c1237
    refine sX11_isIn   (hI := hI) (tx0 := tx4) (tx1 := lit_0) (tx2 := lit_1)  (hp := fun r_4v663 zr_4v663 tr_4v663 p1238 p1239 => ?_)
    refine ⟨fun c1240 => ?_, fun c1240 => ?_⟩
    · replace c1240 := c_neq tr_4v663 lit_0 c1240
      exact ⟨70000, sX11_round_25    (hp := hp) 70000 _ _ _ _ _ _ _ _ _ _ _ tx1 tx2 tx3 tx4 lit_0 hI (by omega) (by omega) (by omega) (by omega)⟩
    · replace c1240 := c_eq tr_4v663 lit_0 c1240
      exact hp _ _ _  lit_m1 hI 
set_option maxHeartbeats 4000000 in
set_option maxRecDepth 100000 in
theorem sX11_steady_35 {T W H P S M : Int} {post : Int32 → Wd → Prop}   (hp : ∀ (r : Int32) (zr : Int) (w9 : Wd), Ti r zr → IM T W H P S M w9 → post r w9) : ∀ (n : Nat) (x1 : Int32) (x2 : Int32) (x3 : Int32) (x4 : Int32) (x5 : Int32) (x6 : Int32) (zx1 : Int) (zx2 : Int) (zx3 : Int) (zx4 : Int) (zx5 : Int) (zx6 : Int) (w : Wd), Ti x1 zx1 → Ti x2 zx2 → Ti x3 zx3 → Ti x4 zx4 → Ti x5 zx5 → Ti x6 zx6 → IM T W H P S M w → (0 ≤ zx6 ∧ zx6 ≤ 4096) → (0 ≤ zx1 ∧ zx1 < H) → (4097 - zx6) < (n : Int) → pX11_steady_35   post  n x1 x2 x3 x4 x5 x6 w := by
  intro n
  induction n with
  | zero =>
    intro x1 x2 x3 x4 x5 x6 zx1 zx2 zx3 zx4 zx5 zx6 w tx1 tx2 tx3 tx4 tx5 tx6 hI h0 h1 hm
    exact absurd hm (by omega)
  | succ n ih =>
    intro x1 x2 x3 x4 x5 x6 zx1 zx2 zx3 zx4 zx5 zx6 w tx1 tx2 tx3 tx4 tx5 tx6 hI h0 h1 hm
    unfold pX11_steady_35
    have hk := im_k hI
    refine sX11_width   (hI := hI)   (hp := fun r_1v665 zr_1v665 tr_1v665 p1241 => ?_)
    obtain ⟨z1242, t1243, f1244⟩ := t_shlW hI tr_1v665
    first | replace f1244 := f1244 (by omega) | clear f1244
    refine ⟨fun c1245 => ?_, fun c1245 => ?_⟩
    · replace c1245 := c_le t1243 tx6 c1245
      refine ⟨fun c1246 => ?_, fun c1246 => ?_⟩
      · replace c1246 := c_neq tx3 lit_0 c1246
        exact hp _ _ _  tx5 hI 
      · replace c1246 := c_eq tx3 lit_0 c1246
        exact hp _ _ _  tx4 hI 
    · replace c1245 := c_nle t1243 tx6 c1245
      refine sX11_castOf   (hI := hI) (tx1 := tx6) (tx2 := tx1) (tx3 := tx2) (tx4 := lit_0) (h0 := (by omega)) (hp := fun r_5v676 zr_5v676 w_6v677  tr_5v676 hIw_6v677 p1247 => ?_)
      refine sX11_castOf   (hI := hIw_6v677) (tx1 := tr_5v676) (tx2 := tx1) (tx3 := tx2) (tx4 := lit_0) (h0 := (by omega)) (hp := fun r_7v678 zr_7v678 w_8v679  tr_7v678 hIw_8v679 p1248 => ?_)
      refine ⟨fun c1249 => ?_, fun c1249 => ?_⟩
      · replace c1249 := c_eq tr_7v678 tx6 c1249
        obtain ⟨z1250, t1251, f1252⟩ := t_add tx4 lit_1
        first | replace f1252 := f1252 (by omega) | clear f1252
        intro x4_10v680 ex4_10v680
        have tx4_10v680 : Ti x4_10v680 z1250 := by rw [ex4_10v680]; exact t1251
        refine ⟨fun c1253 => ?_, fun c1253 => ?_⟩
        · replace c1253 := c_lt tx5 lit_0 c1253
          unfold pX11_steady_91
          unfold pX11_steady_95
          obtain ⟨z1254, t1255, f1256⟩ := t_add tx6 lit_1
          first | replace f1256 := f1256 (by omega) | clear f1256
          intro x6_1v685 ex6_1v685
          have tx6_1v685 : Ti x6_1v685 z1254 := by rw [ex6_1v685]; exact t1255
          exact ih _ _ _ _ _ _ _ _ _ _ _ _ _ tx1 tx2 tx3 tx4_10v680 tx6 tx6_1v685 hIw_8v679 (by omega) (by omega) (by omega)
        · replace c1253 := c_nlt tx5 lit_0 c1253
          refine sX11_bitsOf   (hI := hIw_8v679) (tx0 := tx6)  (hp := fun r_12v681 zr_12v681 tr_12v681 => ?_)
          refine sX11_bitsOf   (hI := hIw_8v679) (tx0 := tx5)  (hp := fun r_14v686 zr_14v686 tr_14v686 => ?_)
          refine ⟨fun c1257 => ?_, fun c1257 => ?_⟩
          · replace c1257 := c_le tr_12v681 tr_14v686 c1257
            unfold pX11_steady_95
            obtain ⟨z1258, t1259, f1260⟩ := t_add tx6 lit_1
            first | replace f1260 := f1260 (by omega) | clear f1260
            intro x6_1v688 ex6_1v688
            have tx6_1v688 : Ti x6_1v688 z1258 := by rw [ex6_1v688]; exact t1259
            exact ih _ _ _ _ _ _ _ _ _ _ _ _ _ tx1 tx2 tx3 tx4_10v680 tx5 tx6_1v688 hIw_8v679 (by omega) (by omega) (by omega)
          · replace c1257 := c_nle tr_12v681 tr_14v686 c1257
            unfold pX11_steady_91
            unfold pX11_steady_95
            obtain ⟨z1261, t1262, f1263⟩ := t_add tx6 lit_1
            first | replace f1263 := f1263 (by omega) | clear f1263
            intro x6_1v689 ex6_1v689
            have tx6_1v689 : Ti x6_1v689 z1261 := by rw [ex6_1v689]; exact t1262
            exact ih _ _ _ _ _ _ _ _ _ _ _ _ _ tx1 tx2 tx3 tx4_10v680 tx6 tx6_1v689 hIw_8v679 (by omega) (by omega) (by omega)
      · replace c1249 := c_neq tr_7v678 tx6 c1249
        unfold pX11_steady_95
        obtain ⟨z1264, t1265, f1266⟩ := t_add tx6 lit_1
        first | replace f1266 := f1266 (by omega) | clear f1266
        intro x6_1v690 ex6_1v690
        have tx6_1v690 : Ti x6_1v690 z1264 := by rw [ex6_1v690]; exact t1265
        exact ih _ _ _ _ _ _ _ _ _ _ _ _ _ tx1 tx2 tx3 tx4 tx5 tx6_1v690 hIw_8v679 (by omega) (by omega) (by omega)
set_option maxHeartbeats 4000000 in
set_option maxRecDepth 100000 in
theorem sX11_steady {T W H P S M : Int} {post : Int32 → Wd → Prop} {x1 : Int32} {zx1 : Int} {x2 : Int32} {zx2 : Int} {x3 : Int32} {zx3 : Int} {w : Wd}  (tx1 : Ti x1 zx1) (tx2 : Ti x2 zx2) (tx3 : Ti x3 zx3) (hI : IM T W H P S M w)  (hp : ∀ (r : Int32) (zr : Int) (w9 : Wd), Ti r zr → IM T W H P S M w9 → post r w9) : pX11_steady   post  x1 x2 x3 w := by
  unfold pX11_steady
  have hk := im_k hI
  refine sX11_isHand   (hI := hI) (tx1 := tx1)  (hp := fun r_1v691 zr_1v691 tr_1v691 p1267 => ?_)
  refine ⟨fun c1268 => ?_, fun c1268 => ?_⟩
  · replace c1268 := c_eq tr_1v691 lit_0 c1268
    exact hp _ _ _  lit_m1 hI 
  · replace c1268 := c_neq tr_1v691 lit_0 c1268
    refine sX11_isHeat   (hI := hI) (tx0 := tx2)  (hp := fun r_4v697 zr_4v697 tr_4v697 p1269 => ?_)
    refine ⟨fun c1270 => ?_, fun c1270 => ?_⟩
    · replace c1270 := c_eq tr_4v697 lit_0 c1270
      exact hp _ _ _  lit_m1 hI 
    · replace c1270 := c_neq tr_4v697 lit_0 c1270
      refine sX11_isIn   (hI := hI) (tx0 := tx3) (tx1 := lit_0) (tx2 := lit_1)  (hp := fun r_7v701 zr_7v701 tr_7v701 p1271 p1272 => ?_)
      refine ⟨fun c1273 => ?_, fun c1273 => ?_⟩
      · replace c1273 := c_neq tr_7v701 lit_0 c1273
        exact ⟨70000, sX11_steady_35    (hp := hp) 70000 _ _ _ _ _ _ _ _ _ _ _ _ _ tx1 tx2 tx3 lit_0 lit_m1 lit_0 hI (by omega) (by omega) (by omega)⟩
      · replace c1273 := c_eq tr_7v701 lit_0 c1273
        exact hp _ _ _  lit_m1 hI 
set_option maxHeartbeats 4000000 in
set_option maxRecDepth 100000 in
theorem sX11_against_31 {T W H P S M : Int} {post : Int32 → Wd → Prop}   (hp : ∀ (r : Int32) (zr : Int) (w9 : Wd), Ti r zr → IM T W H P S M w9 → post r w9) : ∀ (n : Nat) (x1 : Int32) (x2 : Int32) (x3 : Int32) (x4 : Int32) (x5 : Int32) (zx1 : Int) (zx2 : Int) (zx3 : Int) (zx4 : Int) (zx5 : Int) (w : Wd), Ti x1 zx1 → Ti x2 zx2 → Ti x3 zx3 → Ti x4 zx4 → Ti x5 zx5 → IM T W H P S M w → (0 ≤ zx5 ∧ zx5 ≤ 4096) → (0 ≤ zx1 ∧ zx1 < H) → (0 ≤ zx2 ∧ zx2 < H) → (4097 - zx5) < (n : Int) → pX11_against_31   post  n x1 x2 x3 x4 x5 w := by
  intro n
  induction n with
  | zero =>
    intro x1 x2 x3 x4 x5 zx1 zx2 zx3 zx4 zx5 w tx1 tx2 tx3 tx4 tx5 hI h0 h1 h2 hm
    exact absurd hm (by omega)
  | succ n ih =>
    intro x1 x2 x3 x4 x5 zx1 zx2 zx3 zx4 zx5 w tx1 tx2 tx3 tx4 tx5 hI h0 h1 h2 hm
    unfold pX11_against_31
    have hk := im_k hI
    refine sX11_width   (hI := hI)   (hp := fun r_1v703 zr_1v703 tr_1v703 p1274 => ?_)
    obtain ⟨z1275, t1276, f1277⟩ := t_shlW hI tr_1v703
    first | replace f1277 := f1277 (by omega) | clear f1277
    refine ⟨fun c1278 => ?_, fun c1278 => ?_⟩
    · replace c1278 := c_le t1276 tx5 c1278
      exact hp _ _ _  tx4 hI 
    · replace c1278 := c_nle t1276 tx5 c1278
      refine sX11_castOf   (hI := hI) (tx1 := tx5) (tx2 := tx1) (tx3 := tx3) (tx4 := lit_0) (h0 := (by omega)) (hp := fun r_4v709 zr_4v709 w_5v710  tr_4v709 hIw_5v710 p1279 => ?_)
      refine sX11_castOf   (hI := hIw_5v710) (tx1 := tx5) (tx2 := tx2) (tx3 := tx3) (tx4 := lit_0) (h0 := (by omega)) (hp := fun r_6v711 zr_6v711 w_7v712  tr_6v711 hIw_7v712 p1280 => ?_)
      refine ⟨fun c1281 => ?_, fun c1281 => ?_⟩
      · replace c1281 := c_eq tr_4v709 tr_6v711 c1281
        unfold pX11_against_70
        obtain ⟨z1282, t1283, f1284⟩ := t_add tx4 lit_0
        first | replace f1284 := f1284 (by omega) | clear f1284
        intro x4_1v713 ex4_1v713
        have tx4_1v713 : Ti x4_1v713 z1282 := by rw [ex4_1v713]; exact t1283
        obtain ⟨z1285, t1286, f1287⟩ := t_add tx5 lit_1
        first | replace f1287 := f1287 (by omega) | clear f1287
        intro x5_2v714 ex5_2v714
        have tx5_2v714 : Ti x5_2v714 z1285 := by rw [ex5_2v714]; exact t1286
        exact ih _ _ _ _ _ _ _ _ _ _ _ tx1 tx2 tx3 tx4_1v713 tx5_2v714 hIw_7v712 (by omega) (by omega) (by omega) (by omega)
      · replace c1281 := c_neq tr_4v709 tr_6v711 c1281
        unfold pX11_against_70
        obtain ⟨z1288, t1289, f1290⟩ := t_add tx4 lit_1
        first | replace f1290 := f1290 (by omega) | clear f1290
        intro x4_1v715 ex4_1v715
        have tx4_1v715 : Ti x4_1v715 z1288 := by rw [ex4_1v715]; exact t1289
        obtain ⟨z1291, t1292, f1293⟩ := t_add tx5 lit_1
        first | replace f1293 := f1293 (by omega) | clear f1293
        intro x5_2v716 ex5_2v716
        have tx5_2v716 : Ti x5_2v716 z1291 := by rw [ex5_2v716]; exact t1292
        exact ih _ _ _ _ _ _ _ _ _ _ _ tx1 tx2 tx3 tx4_1v715 tx5_2v716 hIw_7v712 (by omega) (by omega) (by omega) (by omega)
set_option maxHeartbeats 4000000 in
set_option maxRecDepth 100000 in
theorem sX11_against {T W H P S M : Int} {post : Int32 → Wd → Prop} {x1 : Int32} {zx1 : Int} {x2 : Int32} {zx2 : Int} {x3 : Int32} {zx3 : Int} {w : Wd}  (tx1 : Ti x1 zx1) (tx2 : Ti x2 zx2) (tx3 : Ti x3 zx3) (hI : IM T W H P S M w)  (hp : ∀ (r : Int32) (zr : Int) (w9 : Wd), Ti r zr → IM T W H P S M w9 → post r w9) : pX11_against   post  x1 x2 x3 w := by
  unfold pX11_against
  have hk := im_k hI
  refine sX11_isHand   (hI := hI) (tx1 := tx1)  (hp := fun r_1v717 zr_1v717 tr_1v717 p1294 => ?_)
  refine ⟨fun c1295 => ?_, fun c1295 => ?_⟩
  · replace c1295 := c_eq tr_1v717 lit_0 c1295
    exact hp _ _ _  lit_m1 hI 
  · replace c1295 := c_neq tr_1v717 lit_0 c1295
    refine sX11_isHand   (hI := hI) (tx1 := tx2)  (hp := fun r_4v723 zr_4v723 tr_4v723 p1296 => ?_)
    refine ⟨fun c1297 => ?_, fun c1297 => ?_⟩
    · replace c1297 := c_eq tr_4v723 lit_0 c1297
      exact hp _ _ _  lit_m1 hI 
    · replace c1297 := c_neq tr_4v723 lit_0 c1297
      refine sX11_isHeat   (hI := hI) (tx0 := tx3)  (hp := fun r_7v727 zr_7v727 tr_7v727 p1298 => ?_)
      refine ⟨fun c1299 => ?_, fun c1299 => ?_⟩
      · replace c1299 := c_neq tr_7v727 lit_0 c1299
        exact ⟨70000, sX11_against_31    (hp := hp) 70000 _ _ _ _ _ _ _ _ _ _ _ tx1 tx2 tx3 lit_0 lit_0 hI (by omega) (by omega) (by omega) (by omega)⟩
      · replace c1299 := c_eq tr_7v727 lit_0 c1299
        exact hp _ _ _  lit_m1 hI 
set_option maxHeartbeats 4000000 in
set_option maxRecDepth 100000 in
theorem sX11_ways {T W H P S M : Int} {post : Int32 → Wd → Prop}  {w : Wd}   (hI : IM T W H P S M w)  (hp : ∀ (r : Int32) (zr : Int), Ti r zr → (zr = 4 * H) → post r w) : pX11_ways   post   w := by
  unfold pX11_ways
  have hk := im_k hI
  obtain ⟨z1300, t1301⟩ := t_any (w.1 300 29)
  have f1302 := img_29 hI t1301
  refine ⟨vp_of t1301 (by omega) (by omega), ?_⟩
  obtain ⟨z1303, t1304⟩ := t_any (w.2.1 314 (w.1 300 29).toNatClampNeg)
  have f1305 := img_314 hI t1304
  obtain ⟨z1306, t1307, f1308⟩ := t_mul lit_4 t1304
  first | replace f1308 := f1308 (by omega) | clear f1308
  exact hp _ _ t1307 (by omega)
set_option maxHeartbeats 4000000 in
theorem sX11_fact {T W H P S M : Int} {post : Int32 → Wd → Prop} {x1 : Int32} {zx1 : Int} {x2 : Int32} {zx2 : Int} {x3 : Int32} {zx3 : Int} {x4 : Int32} {zx4 : Int} {w : Wd} (tx1 : Ti x1 zx1) (tx2 : Ti x2 zx2) (tx3 : Ti x3 zx3) (tx4 : Ti x4 zx4) (hI : IM T W H P S M w) (h0 : zx1 ≠ 3 ∨ (0 ≤ zx2 ∧ zx2 ≤ 7 ∧ 0 ≤ zx3 ∧ zx3 ≤ 7)) (hp : ∀ (r : Int32) (zr : Int) (w9 : Wd), Ti r zr → IM T W H P S M w9 → post r w9) : pX11_fact post x1 x2 x3 x4 w := by
  unfold pX11_fact
  refine ⟨fun c => ?_, fun c => hp _ _ _ lit_m1 hI⟩
  obtain ⟨u, tu⟩ := t_any (w.1 300 58)
  have fu := img_58 hI tu
  replace c := c_neq tu lit_40 c
  have vin : ∀ {w1 : Wd}, w1.1 = w.1 → vp_in (w1.1 300 58) 40 := fun e => by rw [e]; exact vp_of tu (by omega) (by omega)
  refine ⟨vin rfl, ?_⟩
  intro w_2 e2
  have a2 : w_2.1 = w.1 := e1_A e2
  refine ⟨vin a2, ?_⟩
  intro w_3 e3
  have a3 : w_3.1 = w.1 := (e1_A e3).trans a2
  refine ⟨vin a3, ?_⟩
  intro w_4 e4
  have a4 : w_4.1 = w.1 := (e1_A e4).trans a3
  refine ⟨vin a4, ?_⟩
  intro w_5 e5
  have a5 : w_5.1 = w.1 := (e1_A e5).trans a4
  refine ⟨vin a5, ?_⟩
  intro w_6 e6
  have a6 : w_6.1 = w.1 := (e1_A e6).trans a5
  refine ⟨vin a6, ?_⟩
  intro w_7 e7
  have a7 : w_7.1 = w.1 := (e1_A e7).trans a6
  intro w_8 e8
  rw [a7] at e8
  rw [a2] at e3
  rw [a3] at e4
  have b8 : w_8.2.1 = w_7.2.1 := e2_I e8
  have oth : ∀ a, a ≠ 353 → a ≠ 354 → a ≠ 355 → a ≠ 356 → a ≠ 357 → a ≠ 358 → w_8.2.1 a = w.2.1 a := by
    intro a n1 n2 n3 n4 n5 n6
    rw [b8, e7, sA_ne n6, e6, sA_ne n5, e5, sA_ne n4, e4, sA_ne n3, e3, sA_ne n2, e2, sA_ne n1]
  have b353 : w_8.2.1 353 = upd (w.2.1 353) (w.1 300 58).toNatClampNeg x1 := by
    rw [b8, e7, sA_ne (by decide), e6, sA_ne (by decide), e5, sA_ne (by decide), e4, sA_ne (by decide), e3, sA_ne (by decide), e2, sA_eq]
  have b354 : w_8.2.1 354 = upd (w.2.1 354) (w.1 300 58).toNatClampNeg x2 := by
    rw [b8, e7, sA_ne (by decide), e6, sA_ne (by decide), e5, sA_ne (by decide), e4, sA_ne (by decide), e3, sA_eq, e2, sA_ne (by decide)]
  have b355 : w_8.2.1 355 = upd (w.2.1 355) (w.1 300 58).toNatClampNeg x3 := by
    rw [b8, e7, sA_ne (by decide), e6, sA_ne (by decide), e5, sA_ne (by decide), e4, sA_eq, e3, sA_ne (by decide), e2, sA_ne (by decide)]
  obtain ⟨v, tv, fv⟩ := t_add tu lit_1
  replace fv := fv (by omega)
  have s58 : w_8.1 300 58 = (w.1 300 58) + 1 := by rw [e8, sI_at]
  have sf : ∀ f, f ≠ 58 → w_8.1 300 f = w.1 300 f := fun f hf => by rw [e8, sI_ne (by omega), a7]
  have eu := i_cz tu
  obtain ⟨m0, m1, m2, m3, m4, m5, m6, m7, m8, m9, m10, m11, m12, m13, m14, m15⟩ := hI
  refine hp _ _ _ rfl ?_
  unfold IM
  rw [s58, sf 2 (by decide), sf 29 (by decide), sf 48 (by decide), sf 59 (by decide), sf 63 (by decide), sf 42 (by decide), sf 43 (by decide), oth 312 (by decide) (by decide) (by decide) (by decide) (by decide) (by decide), oth 314 (by decide) (by decide) (by decide) (by decide) (by decide) (by decide), oth 319 (by decide) (by decide) (by decide) (by decide) (by decide) (by decide), oth 320 (by decide) (by decide) (by decide) (by decide) (by decide) (by decide), oth 325 (by decide) (by decide) (by decide) (by decide) (by decide) (by decide), oth 341 (by decide) (by decide) (by decide) (by decide) (by decide) (by decide), oth 342 (by decide) (by decide) (by decide) (by decide) (by decide) (by decide), oth 369 (by decide) (by decide) (by decide) (by decide) (by decide) (by decide), oth 368 (by decide) (by decide) (by decide) (by decide) (by decide) (by decide), oth 321 (by decide) (by decide) (by decide) (by decide) (by decide) (by decide), oth 322 (by decide) (by decide) (by decide) (by decide) (by decide) (by decide), b353, b354, b355]
  refine ⟨m0, m1, m2, m3, Rg.m tv (by omega) (by omega), m5, m6, m7, m8, m9, m10, m11, m12, m13, ?_, m15⟩
  intro n hn he
  rw [show ((w.1 300 58) + 1).toInt = v from tv] at hn
  by_cases hq : n = (w.1 300 58).toNatClampNeg
  · rw [hq] at he ⊢
    rw [pk_us] at he
    rw [pk_us, pk_us]
    have := c_eq tx1 lit_3 he
    exact ⟨Rg.m tx2 (by omega) (by omega), Rg.m tx3 (by omega) (by omega)⟩
  · rw [pk_un hq] at he
    rw [pk_un hq, pk_un hq]
    exact m14 n (by rw [show (w.1 300 58).toInt = u from tu]; omega) he
set_option maxHeartbeats 4000000 in
set_option maxRecDepth 100000 in
theorem sX11_sample {T W H P S M : Int} {post : Int32 → Wd → Prop} {x1 : Int32} {zx1 : Int} {x2 : Int32} {zx2 : Int} {w : Wd}  (tx1 : Ti x1 zx1) (tx2 : Ti x2 zx2) (hI : IM T W H P S M w)  (hp : ∀ (r : Int32) (zr : Int) (w9 : Wd), Ti r zr → IM T W H P S M w9 → post r w9) : pX11_sample   post  x1 x2 w := by
  unfold pX11_sample
  have hk := im_k hI
  refine sX11_isRow   (hI := hI) (tx1 := tx1)  (hp := fun r_1v729 zr_1v729 tr_1v729 p1309 => ?_)
  refine ⟨fun c1310 => ?_, fun c1310 => ?_⟩
  · replace c1310 := c_eq tr_1v729 lit_0 c1310
    exact hp _ _ _  lit_m1 hI 
  · replace c1310 := c_neq tr_1v729 lit_0 c1310
    refine ⟨fun c1311 => ?_, fun c1311 => ?_⟩
    · replace c1311 := c_eq tx2 lit_0 c1311
      refine sX11_fact   (hI := hI) (tx1 := lit_0) (tx2 := tx1) (tx3 := lit_0) (tx4 := lit_0) (h0 := (by omega)) (hp := fun r_5v735 zr_5v735 w_6v736  tr_5v735 hIw_6v736  => ?_)
      exact hp _ _ _  tr_5v735 hIw_6v736 
    · replace c1311 := c_neq tx2 lit_0 c1311
      refine sX11_fact   (hI := hI) (tx1 := lit_0) (tx2 := tx1) (tx3 := lit_1) (tx4 := lit_0) (h0 := (by omega)) (hp := fun r_7v737 zr_7v737 w_8v738  tr_7v737 hIw_8v738  => ?_)
      exact hp _ _ _  tr_7v737 hIw_8v738 
set_option maxHeartbeats 4000000 in
set_option maxRecDepth 100000 in
theorem sX11_claim {T W H P S M : Int} {post : Int32 → Wd → Prop} {x1 : Int32} {zx1 : Int} {x2 : Int32} {zx2 : Int} {x3 : Int32} {zx3 : Int} {w : Wd}  (tx1 : Ti x1 zx1) (tx2 : Ti x2 zx2) (tx3 : Ti x3 zx3) (hI : IM T W H P S M w)  (hp : ∀ (r : Int32) (zr : Int) (w9 : Wd), Ti r zr → IM T W H P S M w9 → post r w9) : pX11_claim   post  x1 x2 x3 w := by
  unfold pX11_claim
  have hk := im_k hI
  refine sX11_isRow   (hI := hI) (tx1 := tx1)  (hp := fun r_1v739 zr_1v739 tr_1v739 p1312 => ?_)
  refine ⟨fun c1313 => ?_, fun c1313 => ?_⟩
  · replace c1313 := c_eq tr_1v739 lit_0 c1313
    exact hp _ _ _  lit_m1 hI 
  · replace c1313 := c_neq tr_1v739 lit_0 c1313
    refine sX11_isSeal   (hI := hI) (tx1 := tx2)  (hp := fun r_4v747 zr_4v747 tr_4v747 p1314 => ?_)
    refine ⟨fun c1315 => ?_, fun c1315 => ?_⟩
    · replace c1315 := c_eq tr_4v747 lit_0 c1315
      exact hp _ _ _  lit_m1 hI 
    · replace c1315 := c_neq tr_4v747 lit_0 c1315
      refine sX11_isIn   (hI := hI) (tx0 := tx3) (tx1 := lit_0) (tx2 := lit_999)  (hp := fun r_7v753 zr_7v753 tr_7v753 p1316 p1317 => ?_)
      refine ⟨fun c1318 => ?_, fun c1318 => ?_⟩
      · replace c1318 := c_eq tr_7v753 lit_0 c1318
        exact hp _ _ _  lit_m1 hI 
      · replace c1318 := c_neq tr_7v753 lit_0 c1318
        refine sX11_fact   (hI := hI) (tx1 := lit_1) (tx2 := tx1) (tx3 := tx2) (tx4 := tx3) (h0 := (by omega)) (hp := fun r_10v757 zr_10v757 w_11v758  tr_10v757 hIw_11v758  => ?_)
        exact hp _ _ _  tr_10v757 hIw_11v758 
set_option maxHeartbeats 4000000 in
set_option maxRecDepth 100000 in
theorem sX11_saw {T W H P S M : Int} {post : Int32 → Wd → Prop} {x1 : Int32} {zx1 : Int} {x2 : Int32} {zx2 : Int} {x3 : Int32} {zx3 : Int} {w : Wd}  (tx1 : Ti x1 zx1) (tx2 : Ti x2 zx2) (tx3 : Ti x3 zx3) (hI : IM T W H P S M w)  (hp : ∀ (r : Int32) (zr : Int) (w9 : Wd), Ti r zr → IM T W H P S M w9 → post r w9) : pX11_saw   post  x1 x2 x3 w := by
  unfold pX11_saw
  have hk := im_k hI
  refine sX11_width   (hI := hI)   (hp := fun r_1v759 zr_1v759 tr_1v759 p1319 => ?_)
  obtain ⟨z1320, t1321, f1322⟩ := t_sub tr_1v759 lit_1
  first | replace f1322 := f1322 (by omega) | clear f1322
  refine sX11_isIn   (hI := hI) (tx0 := tx1) (tx1 := lit_0) (tx2 := t1321)  (hp := fun r_3v769 zr_3v769 tr_3v769 p1323 p1324 => ?_)
  refine ⟨fun c1325 => ?_, fun c1325 => ?_⟩
  · replace c1325 := c_eq tr_3v769 lit_0 c1325
    exact hp _ _ _  lit_m1 hI 
  · replace c1325 := c_neq tr_3v769 lit_0 c1325
    refine sX11_isIn   (hI := hI) (tx0 := tx2) (tx1 := lit_0) (tx2 := lit_999)  (hp := fun r_6v777 zr_6v777 tr_6v777 p1326 p1327 => ?_)
    refine ⟨fun c1328 => ?_, fun c1328 => ?_⟩
    · replace c1328 := c_eq tr_6v777 lit_0 c1328
      exact hp _ _ _  lit_m1 hI 
    · replace c1328 := c_neq tr_6v777 lit_0 c1328
      refine ⟨fun c1329 => ?_, fun c1329 => ?_⟩
      · replace c1329 := c_eq tx3 lit_0 c1329
        refine sX11_fact   (hI := hI) (tx1 := lit_2) (tx2 := tx1) (tx3 := tx2) (tx4 := lit_0) (h0 := (by omega)) (hp := fun r_10v783 zr_10v783 w_11v784  tr_10v783 hIw_11v784  => ?_)
        exact hp _ _ _  tr_10v783 hIw_11v784 
      · replace c1329 := c_neq tx3 lit_0 c1329
        refine sX11_fact   (hI := hI) (tx1 := lit_2) (tx2 := tx1) (tx3 := tx2) (tx4 := lit_1) (h0 := (by omega)) (hp := fun r_12v785 zr_12v785 w_13v786  tr_12v785 hIw_13v786  => ?_)
        exact hp _ _ _  tr_12v785 hIw_13v786 
set_option maxHeartbeats 4000000 in
set_option maxRecDepth 100000 in
theorem sX11_link {T W H P S M : Int} {post : Int32 → Wd → Prop} {x1 : Int32} {zx1 : Int} {x2 : Int32} {zx2 : Int} {x3 : Int32} {zx3 : Int} {w : Wd}  (tx1 : Ti x1 zx1) (tx2 : Ti x2 zx2) (tx3 : Ti x3 zx3) (hI : IM T W H P S M w)  (hp : ∀ (r : Int32) (zr : Int) (w9 : Wd), Ti r zr → IM T W H P S M w9 → post r w9) : pX11_link   post  x1 x2 x3 w := by
  unfold pX11_link
  have hk := im_k hI
  refine sX11_isIn   (hI := hI) (tx0 := tx1) (tx1 := lit_0) (tx2 := lit_7)  (hp := fun r_1v787 zr_1v787 tr_1v787 p1330 p1331 => ?_)
  refine ⟨fun c1332 => ?_, fun c1332 => ?_⟩
  · replace c1332 := c_eq tr_1v787 lit_0 c1332
    exact hp _ _ _  lit_m1 hI 
  · replace c1332 := c_neq tr_1v787 lit_0 c1332
    refine sX11_isIn   (hI := hI) (tx0 := tx2) (tx1 := lit_0) (tx2 := lit_7)  (hp := fun r_4v795 zr_4v795 tr_4v795 p1333 p1334 => ?_)
    refine ⟨fun c1335 => ?_, fun c1335 => ?_⟩
    · replace c1335 := c_eq tr_4v795 lit_0 c1335
      exact hp _ _ _  lit_m1 hI 
    · replace c1335 := c_neq tr_4v795 lit_0 c1335
      refine ⟨fun c1336 => ?_, fun c1336 => ?_⟩
      · replace c1336 := c_eq tx1 tx2 c1336
        exact hp _ _ _  lit_m1 hI 
      · replace c1336 := c_neq tx1 tx2 c1336
        refine ⟨fun c1337 => ?_, fun c1337 => ?_⟩
        · replace c1337 := c_eq tx3 lit_0 c1337
          refine sX11_fact   (hI := hI) (tx1 := lit_3) (tx2 := tx1) (tx3 := tx2) (tx4 := lit_0) (h0 := (by omega)) (hp := fun r_9v801 zr_9v801 w_10v802  tr_9v801 hIw_10v802  => ?_)
          exact hp _ _ _  tr_9v801 hIw_10v802 
        · replace c1337 := c_neq tx3 lit_0 c1337
          refine sX11_fact   (hI := hI) (tx1 := lit_3) (tx2 := tx1) (tx3 := tx2) (tx4 := lit_1) (h0 := (by omega)) (hp := fun r_11v803 zr_11v803 w_12v804  tr_11v803 hIw_12v804  => ?_)
          exact hp _ _ _  tr_11v803 hIw_12v804 
set_option maxHeartbeats 4000000 in
set_option maxRecDepth 100000 in
theorem sX11_untell {T W H P S M : Int} {post : Int32 → Wd → Prop} {x1 : Int32} {zx1 : Int} {w : Wd}  (tx1 : Ti x1 zx1) (hI : IM T W H P S M w)  (hp : ∀ (r : Int32) (zr : Int) (w9 : Wd), Ti r zr → IM T W H P S M w9 → post r w9) : pX11_untell   post  x1 w := by
  unfold pX11_untell
  have hk := im_k hI
  obtain ⟨z1338, t1339⟩ := t_any (w.1 300 58)
  have f1340 := img_58 hI t1339
  obtain ⟨z1341, t1342, f1343⟩ := t_sub t1339 lit_1
  first | replace f1343 := f1343 (by omega) | clear f1343
  refine sX11_isIn   (hI := hI) (tx0 := tx1) (tx1 := lit_0) (tx2 := t1342)  (hp := fun r_1v805 zr_1v805 tr_1v805 p1344 p1345 => ?_)
  refine ⟨fun c1346 => ?_, fun c1346 => ?_⟩
  · replace c1346 := c_eq tr_1v805 lit_0 c1346
    exact hp _ _ _  lit_0 hI 
  · replace c1346 := c_neq tr_1v805 lit_0 c1346
    refine ⟨vp_of tx1 (by omega) (by omega), ?_⟩
    obtain ⟨z1347, t1348⟩ := t_any (w.2.1 358 x1.toNatClampNeg)
    refine ⟨fun c1350 => ?_, fun c1350 => ?_⟩
    · replace c1350 := c_lt t1348 lit_0 c1350
      refine ⟨vp_of tx1 (by omega) (by omega), ?_⟩
      intro w_5v808 ew_5v808
      have hIw_5v808 := ims_A hI ew_5v808 (by decide)
      exact hp _ _ _  lit_1 hIw_5v808 
    · replace c1350 := c_nlt t1348 lit_0 c1350
      exact hp _ _ _  lit_0 hI 
theorem sX11_later {T W H P S M : Int} {post : Int32 → Wd → Prop} {x1 : Int32} {zx1 : Int} {w : Wd} (tx1 : Ti x1 zx1) (hI : IM T W H P S M w) (hT : 0 ≤ T ∧ T ≤ 100000) (hp : ∀ (r : Int32) (zr : Int) (w9 : Wd) (T9 : Int), Ti r zr → IM T9 W H P S M w9 → (((0 ≤ zx1 ∧ zx1 ≤ 1000 ∧ T + zx1 ≤ 100000) ∧ T9 = T + zx1 ∧ zr = T9) ∨ (¬ (0 ≤ zx1 ∧ zx1 ≤ 1000 ∧ T + zx1 ≤ 100000) ∧ T9 = T ∧ zr = -1)) → post r w9) : pX11_later post x1 w := by
  unfold pX11_later
  obtain ⟨z, t⟩ := t_any (w.1 300 59)
  have b := img_59 hI t
  unfold pX11_isIn
  refine ⟨fun c => ?_, fun c => ⟨fun c2 => ?_, fun c2 => ?_⟩⟩
  · replace c := c_lt tx1 lit_0 c
    exact ⟨fun _ => hp _ _ _ _ lit_m1 hI (by omega), fun d => absurd rfl d⟩
  · replace c2 := c_lt lit_1000 tx1 c2
    exact ⟨fun _ => hp _ _ _ _ lit_m1 hI (by omega), fun d => absurd rfl d⟩
  · replace c := c_nlt tx1 lit_0 c
    replace c2 := c_nlt lit_1000 tx1 c2
    obtain ⟨y, u, f⟩ := t_add t tx1
    replace f := f (by omega)
    refine ⟨fun d => absurd d (by decide), fun _ => ⟨fun c3 => ?_, fun c3 => ?_⟩⟩
    · replace c3 := c_le u lit_100000 c3
      intro w_5 e5
      have i5 := ims_59 hI e5 u
      obtain ⟨z5, t5⟩ := t_any (w_5.1 300 59)
      have b5 := img_59 i5 t5
      exact hp _ _ _ _ t5 i5 (by omega)
    · replace c3 := c_nle u lit_100000 c3
      exact hp _ _ _ _ lit_m1 hI (by omega)
