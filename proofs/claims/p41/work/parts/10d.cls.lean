set_option maxHeartbeats 4000000 in
set_option maxRecDepth 100000 in
theorem sX8_splitSign {T D : Int} {k : Nat} {post : Int32 → Wd → Prop} {x1 : Int32} {zx1 : Int} {x2 : Int32} {zx2 : Int} {x3 : Int32} {zx3 : Int} {w : Wd}  (tx1 : Ti x1 zx1) (tx2 : Ti x2 zx2) (tx3 : Ti x3 zx3) (hI : IX k T D w)  (hp : ∀ (r : Int32) (zr : Int) (w9 : Wd), Ti r zr → IX k T D w9 → post r w9) : pX8_splitSign   post  x1 x2 x3 w := by
  unfold pX8_splitSign
  have hk := ix_k hI
  refine ⟨fun c928 => ?_, fun c928 => ?_⟩
  · replace c928 := c_le tx1 lit_32 c928
    unfold pX8_splitSign_17
    unfold pX8_splitSign_18
    refine ⟨fun c929 => ?_, fun c929 => ?_⟩
    · replace c929 := c_eq tx1 lit_59 c929
      unfold pX8_splitSign_43
      refine sX8_add   (hI := hI) (tx1 := tx1) (tx2 := tx2)  (hp := fun  w_1v430   hIw_1v430  => ?_)
      obtain ⟨z930, t931, f932⟩ := t_add tx2 lit_1
      first | replace f932 := f932 (by omega) | clear f932
      exact hp _ _ _  t931 hIw_1v430 
    · replace c929 := c_neq tx1 lit_59 c929
      refine ⟨fun c933 => ?_, fun c933 => ?_⟩
      · replace c933 := c_eq tx1 lit_40 c933
        unfold pX8_splitSign_43
        refine sX8_add   (hI := hI) (tx1 := tx1) (tx2 := tx2)  (hp := fun  w_1v431   hIw_1v431  => ?_)
        obtain ⟨z934, t935, f936⟩ := t_add tx2 lit_1
        first | replace f936 := f936 (by omega) | clear f936
        exact hp _ _ _  t935 hIw_1v431 
      · replace c933 := c_neq tx1 lit_40 c933
        refine ⟨fun c937 => ?_, fun c937 => ?_⟩
        · replace c937 := c_eq tx1 lit_41 c937
          unfold pX8_splitSign_43
          refine sX8_add   (hI := hI) (tx1 := tx1) (tx2 := tx2)  (hp := fun  w_1v432   hIw_1v432  => ?_)
          obtain ⟨z938, t939, f940⟩ := t_add tx2 lit_1
          first | replace f940 := f940 (by omega) | clear f940
          exact hp _ _ _  t939 hIw_1v432 
        · replace c937 := c_neq tx1 lit_41 c937
          refine ⟨fun c941 => ?_, fun c941 => ?_⟩
          · replace c941 := c_eq lit_0 lit_0 c941
            refine sX8_add   (hI := hI) (tx1 := lit_23) (tx2 := tx2)  (hp := fun  w_5v429   hIw_5v429  => ?_)
            exact hp _ _ _  tx3 hIw_5v429 
          · replace c941 := c_neq lit_0 lit_0 c941
            unfold pX8_splitSign_43
            refine sX8_add   (hI := hI) (tx1 := tx1) (tx2 := tx2)  (hp := fun  w_1v433   hIw_1v433  => ?_)
            obtain ⟨z942, t943, f944⟩ := t_add tx2 lit_1
            first | replace f944 := f944 (by omega) | clear f944
            exact hp _ _ _  t943 hIw_1v433 
  · replace c928 := c_nle tx1 lit_32 c928
    refine sX8_rankOf   (hI := hI) (tx0 := tx1)  (hp := fun r_2v427 zr_2v427 tr_2v427 => ?_)
    refine ⟨fun c945 => ?_, fun c945 => ?_⟩
    · replace c945 := c_lt tr_2v427 lit_0 c945
      unfold pX8_splitSign_17
      unfold pX8_splitSign_18
      refine ⟨fun c946 => ?_, fun c946 => ?_⟩
      · replace c946 := c_eq tx1 lit_59 c946
        unfold pX8_splitSign_43
        refine sX8_add   (hI := hI) (tx1 := tx1) (tx2 := tx2)  (hp := fun  w_1v435   hIw_1v435  => ?_)
        obtain ⟨z947, t948, f949⟩ := t_add tx2 lit_1
        first | replace f949 := f949 (by omega) | clear f949
        exact hp _ _ _  t948 hIw_1v435 
      · replace c946 := c_neq tx1 lit_59 c946
        refine ⟨fun c950 => ?_, fun c950 => ?_⟩
        · replace c950 := c_eq tx1 lit_40 c950
          unfold pX8_splitSign_43
          refine sX8_add   (hI := hI) (tx1 := tx1) (tx2 := tx2)  (hp := fun  w_1v436   hIw_1v436  => ?_)
          obtain ⟨z951, t952, f953⟩ := t_add tx2 lit_1
          first | replace f953 := f953 (by omega) | clear f953
          exact hp _ _ _  t952 hIw_1v436 
        · replace c950 := c_neq tx1 lit_40 c950
          refine ⟨fun c954 => ?_, fun c954 => ?_⟩
          · replace c954 := c_eq tx1 lit_41 c954
            unfold pX8_splitSign_43
            refine sX8_add   (hI := hI) (tx1 := tx1) (tx2 := tx2)  (hp := fun  w_1v437   hIw_1v437  => ?_)
            obtain ⟨z955, t956, f957⟩ := t_add tx2 lit_1
            first | replace f957 := f957 (by omega) | clear f957
            exact hp _ _ _  t956 hIw_1v437 
          · replace c954 := c_neq tx1 lit_41 c954
            refine ⟨fun c958 => ?_, fun c958 => ?_⟩
            · replace c958 := c_eq lit_0 lit_0 c958
              refine sX8_add   (hI := hI) (tx1 := lit_23) (tx2 := tx2)  (hp := fun  w_5v434   hIw_5v434  => ?_)
              exact hp _ _ _  tx3 hIw_5v434 
            · replace c958 := c_neq lit_0 lit_0 c958
              unfold pX8_splitSign_43
              refine sX8_add   (hI := hI) (tx1 := tx1) (tx2 := tx2)  (hp := fun  w_1v438   hIw_1v438  => ?_)
              obtain ⟨z959, t960, f961⟩ := t_add tx2 lit_1
              first | replace f961 := f961 (by omega) | clear f961
              exact hp _ _ _  t960 hIw_1v438 
    · replace c945 := c_nlt tr_2v427 lit_0 c945
      unfold pX8_splitSign_18
      refine ⟨fun c962 => ?_, fun c962 => ?_⟩
      · replace c962 := c_eq tx1 lit_59 c962
        unfold pX8_splitSign_43
        refine sX8_add   (hI := hI) (tx1 := tx1) (tx2 := tx2)  (hp := fun  w_1v440   hIw_1v440  => ?_)
        obtain ⟨z963, t964, f965⟩ := t_add tx2 lit_1
        first | replace f965 := f965 (by omega) | clear f965
        exact hp _ _ _  t964 hIw_1v440 
      · replace c962 := c_neq tx1 lit_59 c962
        refine ⟨fun c966 => ?_, fun c966 => ?_⟩
        · replace c966 := c_eq tx1 lit_40 c966
          unfold pX8_splitSign_43
          refine sX8_add   (hI := hI) (tx1 := tx1) (tx2 := tx2)  (hp := fun  w_1v441   hIw_1v441  => ?_)
          obtain ⟨z967, t968, f969⟩ := t_add tx2 lit_1
          first | replace f969 := f969 (by omega) | clear f969
          exact hp _ _ _  t968 hIw_1v441 
        · replace c966 := c_neq tx1 lit_40 c966
          refine ⟨fun c970 => ?_, fun c970 => ?_⟩
          · replace c970 := c_eq tx1 lit_41 c970
            unfold pX8_splitSign_43
            refine sX8_add   (hI := hI) (tx1 := tx1) (tx2 := tx2)  (hp := fun  w_1v442   hIw_1v442  => ?_)
            obtain ⟨z971, t972, f973⟩ := t_add tx2 lit_1
            first | replace f973 := f973 (by omega) | clear f973
            exact hp _ _ _  t972 hIw_1v442 
          · replace c970 := c_neq tx1 lit_41 c970
            refine ⟨fun c974 => ?_, fun c974 => ?_⟩
            · replace c974 := c_eq lit_1 lit_0 c974
              refine sX8_add   (hI := hI) (tx1 := lit_23) (tx2 := tx2)  (hp := fun  w_5v439   hIw_5v439  => ?_)
              exact hp _ _ _  tx3 hIw_5v439 
            · replace c974 := c_neq lit_1 lit_0 c974
              unfold pX8_splitSign_43
              refine sX8_add   (hI := hI) (tx1 := tx1) (tx2 := tx2)  (hp := fun  w_1v443   hIw_1v443  => ?_)
              obtain ⟨z975, t976, f977⟩ := t_add tx2 lit_1
              first | replace f977 := f977 (by omega) | clear f977
              exact hp _ _ _  t976 hIw_1v443 
set_option maxHeartbeats 4000000 in
set_option maxRecDepth 100000 in
theorem sX8_kindOf_2 {T D : Int} {k : Nat} {post : Int32 → Wd → Prop} {w : Wd}  (hp : ∀ (r : Int32) (zr : Int), Ti r zr → post r w) : ∀ (n : Nat) (x1 : Int64) (x3 : Int32) (zx3 : Int), Ti x3 zx3 → IX k T D w → (0 ≤ zx3 ∧ zx3 ≤ 17) → (18 - zx3) < (n : Int) → pX8_kindOf_2   post  n x1 x3 w := by
  intro n
  induction n with
  | zero =>
    intro x1 x3 zx3  tx3 hI h0 hm
    exact absurd hm (by omega)
  | succ n ih =>
    intro x1 x3 zx3  tx3 hI h0 hm
    unfold pX8_kindOf_2
    have hk := ix_k hI
    refine ⟨fun c978 => ?_, fun c978 => ?_⟩
    · replace c978 := c_le lit_17 tx3 c978
      exact hp _ _ lit_20 
    · replace c978 := c_nle lit_17 tx3 c978
      refine ⟨vp_of tx3 (by omega) (by omega), ?_⟩
      refine ⟨fun c979 => ?_, fun c979 => ?_⟩
      · obtain ⟨z980, t981, f982⟩ := t_add tx3 lit_1
        first | replace f982 := f982 (by omega) | clear f982
        intro x3_3v444 ex3_3v444
        have tx3_3v444 : Ti x3_3v444 z980 := by rw [ex3_3v444]; exact t981
        exact ih _ _ _  tx3_3v444 hI (by omega) (by omega)
      · exact hp _ _ tx3 
set_option maxHeartbeats 4000000 in
set_option maxRecDepth 100000 in
theorem sX8_kindOf {T D : Int} {k : Nat} {post : Int32 → Wd → Prop} {x1 : Int64} {w : Wd}   (hI : IX k T D w)  (hp : ∀ (r : Int32) (zr : Int), Ti r zr → post r w) : pX8_kindOf   post  x1 w := by
  unfold pX8_kindOf
  have hk := ix_k hI
  exact ⟨70000, sX8_kindOf_2   (hp := hp) 70000 _ _ _  lit_0 hI (by omega) (by omega)⟩
set_option maxHeartbeats 4000000 in
set_option maxRecDepth 100000 in
theorem sX8_withLetter {T D : Int} {k : Nat} {post : Int64 → Wd → Prop} {x0 : Int64} {x2 : Int32} {zx2 : Int} {w : Wd}  (tx2 : Ti x2 zx2) (hI : IX k T D w)  (hp : ∀ (r : Int32) (zr : Int), Ti r zr → post r w) : pX8_withLetter   post  x0 x2 w := by
  unfold pX8_withLetter
  have hk := ix_k hI
  obtain ⟨z983, t984⟩ := t_any x0
  obtain ⟨z985, t986⟩ := t_any ((27 : Int64))
  obtain ⟨z987, t988, f989⟩ := t_mulv t984 t986
  first | replace f989 := f989 (by omega) | clear f989
  obtain ⟨z990, t991⟩ := t_any ((x2).toInt64)
  obtain ⟨z992, t993, f994⟩ := t_add t988 t991
  first | replace f994 := f994 (by omega) | clear f994
  obtain ⟨z995, t996⟩ := t_any ((97 : Int64))
  obtain ⟨z997, t998, f999⟩ := t_sub t993 t996
  first | replace f999 := f999 (by omega) | clear f999
  obtain ⟨z1000, t1001⟩ := t_any ((1 : Int64))
  obtain ⟨z1002, t1003, f1004⟩ := t_add t998 t1001
  first | replace f1004 := f1004 (by omega) | clear f1004
  exact hp _ _ t1003 
set_option maxHeartbeats 4000000 in
set_option maxRecDepth 100000 in
theorem sX8_splitWord_6 {T D : Int} {k : Nat} {post : Int32 → Wd → Prop}   (hp : ∀ (r : Int32) (zr : Int) (w9 : Wd), Ti r zr → IX k T D w9 → post r w9) : ∀ (n : Nat) (x2 : Int32) (x3 : Int32) (x4 : Int64) (x6 : Int32) (zx2 : Int) (zx3 : Int) (zx6 : Int) (w : Wd), Ti x2 zx2 → Ti x3 zx3 → Ti x6 zx6 → IX k T D w → (0 ≤ zx6) → (zx6 ≤ 1000000) → (zx3 ≤ 1600) → (2000000 - zx6) < (n : Int) → pX8_splitWord_6   post  n x2 x3 x4 x6 w := by
  intro n
  induction n with
  | zero =>
    intro x2 x3 x4 x6 zx2 zx3 zx6 w tx2 tx3 tx6 hI h0 h1 h2 hm
    exact absurd hm (by omega)
  | succ n ih =>
    intro x2 x3 x4 x6 zx2 zx3 zx6 w tx2 tx3 tx6 hI h0 h1 h2 hm
    unfold pX8_splitWord_6
    have hk := ix_k hI
    refine ⟨fun c1005 => ?_, fun c1005 => ?_⟩
    · replace c1005 := c_le tx3 tx6 c1005
      unfold pX8_splitWord_39
      obtain ⟨z1006, t1007, f1008⟩ := t_sub tx6 tx2
      first | replace f1008 := f1008 (by omega) | clear f1008
      refine ⟨fun c1009 => ?_, fun c1009 => ?_⟩
      · replace c1009 := c_le t1007 lit_8 c1009
        refine sX8_kindOf   (hI := hI)   (hp := fun r_2v450 zr_2v450 tr_2v450 => ?_)
        refine sX8_add   (hI := hI) (tx1 := tr_2v450) (tx2 := tx2)  (hp := fun  w_4v454   hIw_4v454  => ?_)
        exact hp _ _ _  tx6 hIw_4v454 
      · replace c1009 := c_nle t1007 lit_8 c1009
        refine sX8_add   (hI := hI) (tx1 := lit_23) (tx2 := tx2)  (hp := fun  w_5v453   hIw_5v453  => ?_)
        exact hp _ _ _  tx3 hIw_5v453 
    · replace c1005 := c_nle tx3 tx6 c1005
      refine ⟨vp_of tx6 (by omega) (by omega), ?_⟩
      obtain ⟨z1010, t1011⟩ := t_any (w.2.1 1 x6.toNatClampNeg)
      refine sX8_isLetter   (hI := hI) (tx0 := t1011)  (hp := fun r_2v445 zr_2v445 tr_2v445 => ?_)
      refine ⟨fun c1012 => ?_, fun c1012 => ?_⟩
      · replace c1012 := c_eq tr_2v445 lit_0 c1012
        unfold pX8_splitWord_39
        obtain ⟨z1013, t1014, f1015⟩ := t_sub tx6 tx2
        first | replace f1015 := f1015 (by omega) | clear f1015
        refine ⟨fun c1016 => ?_, fun c1016 => ?_⟩
        · replace c1016 := c_le t1014 lit_8 c1016
          refine sX8_kindOf   (hI := hI)   (hp := fun r_2v458 zr_2v458 tr_2v458 => ?_)
          refine sX8_add   (hI := hI) (tx1 := tr_2v458) (tx2 := tx2)  (hp := fun  w_4v462   hIw_4v462  => ?_)
          exact hp _ _ _  tx6 hIw_4v462 
        · replace c1016 := c_nle t1014 lit_8 c1016
          refine sX8_add   (hI := hI) (tx1 := lit_23) (tx2 := tx2)  (hp := fun  w_5v461   hIw_5v461  => ?_)
          exact hp _ _ _  tx3 hIw_5v461 
      · replace c1012 := c_neq tr_2v445 lit_0 c1012
        refine ⟨vp_of tx6 (by omega) (by omega), ?_⟩
        refine sX8_withLetter   (hI := hI) (tx2 := t1011)  (hp := fun r_5v455 zr_5v455 tr_5v455 => ?_)
        obtain ⟨z1017, t1018, f1019⟩ := t_add tx6 lit_1
        first | replace f1019 := f1019 (by omega) | clear f1019
        intro x6_7v463 ex6_7v463
        have tx6_7v463 : Ti x6_7v463 z1017 := by rw [ex6_7v463]; exact t1018
        exact ih _ _ _ _ _ _ _ _ tx2 tx3 tx6_7v463 hI (by omega) (by omega) (by omega) (by omega)
set_option maxHeartbeats 4000000 in
set_option maxRecDepth 100000 in
theorem sX8_splitWord {T D : Int} {k : Nat} {post : Int32 → Wd → Prop} {x2 : Int32} {zx2 : Int} {x3 : Int32} {zx3 : Int} {w : Wd}  (tx2 : Ti x2 zx2) (tx3 : Ti x3 zx3) (hI : IX k T D w) (h0 : 0 ≤ zx2) (h1 : zx2 ≤ 1600) (h2 : zx3 ≤ 1600) (hp : ∀ (r : Int32) (zr : Int) (w9 : Wd), Ti r zr → IX k T D w9 → post r w9) : pX8_splitWord   post  x2 x3 w := by
  unfold pX8_splitWord
  have hk := ix_k hI
  exact ⟨3000000, sX8_splitWord_6   (hp := hp) 3000000 _ _ _ _ _ _ _ _ tx2 tx3 tx2 hI (by omega) (by omega) (by omega) (by omega)⟩
set_option maxHeartbeats 4000000 in
set_option maxRecDepth 100000 in
theorem sX8_split_18 {T D : Int} {k : Nat} {post : Wd → Prop}   (hp : ∀ (w9 : Wd), IX k T D w9 → post w9) : ∀ (n : Nat) (x2 : Int32) (x3 : Int32) (x4 : Int32) (x5 : Int32) (zx2 : Int) (zx3 : Int) (zx4 : Int) (zx5 : Int) (w : Wd), Ti x2 zx2 → Ti x3 zx3 → Ti x4 zx4 → Ti x5 zx5 → IX k T D w → (0 ≤ zx5 ∧ zx5 ≤ 1600) → (zx3 ≤ 1600) → (1601 - zx5) < (n : Int) → pX8_split_18   post  n x2 x3 x4 x5 w := by
  intro n
  induction n with
  | zero =>
    intro x2 x3 x4 x5 zx2 zx3 zx4 zx5 w tx2 tx3 tx4 tx5 hI h0 h1 hm
    exact absurd hm (by omega)
  | succ n ih =>
    intro x2 x3 x4 x5 zx2 zx3 zx4 zx5 w tx2 tx3 tx4 tx5 hI h0 h1 hm
    unfold pX8_split_18
    have hk := ix_k hI
    refine ⟨fun c1020 => ?_, fun c1020 => ?_⟩
    · replace c1020 := c_le lit_1600 tx5 c1020
      refine sX8_add   (hI := hI) (tx1 := lit_22) (tx2 := tx2)  (hp := fun  w_2v464   hIw_2v464  => ?_)
      exact hp  _   hIw_2v464 
    · replace c1020 := c_nle lit_1600 tx5 c1020
      refine ⟨fun c1021 => ?_, fun c1021 => ?_⟩
      · replace c1021 := c_lt tx4 lit_0 c1021
        refine sX8_add   (hI := hI) (tx1 := lit_22) (tx2 := tx2)  (hp := fun  w_4v465   hIw_4v465  => ?_)
        exact hp  _   hIw_4v465 
      · replace c1021 := c_nlt tx4 lit_0 c1021
        refine ⟨fun c1022 => ?_, fun c1022 => ?_⟩
        · replace c1022 := c_le tx3 tx4 c1022
          refine sX8_add   (hI := hI) (tx1 := lit_22) (tx2 := tx2)  (hp := fun  w_6v466   hIw_6v466  => ?_)
          exact hp  _   hIw_6v466 
        · replace c1022 := c_nle tx3 tx4 c1022
          refine ⟨vp_of tx4 (by omega) (by omega), ?_⟩
          obtain ⟨z1023, t1024⟩ := t_any (w.2.1 1 x4.toNatClampNeg)
          intro x6_7v467 ex6_7v467
          have tx6_7v467 : Ti x6_7v467 z1023 := by rw [ex6_7v467]; exact t1024
          refine ⟨fun c1025 => ?_, fun c1025 => ?_⟩
          · replace c1025 := c_eq tx6_7v467 lit_32 c1025
            unfold pX8_split_57
            obtain ⟨z1026, t1027, f1028⟩ := t_add tx4 lit_1
            first | replace f1028 := f1028 (by omega) | clear f1028
            intro x4_1v478 ex4_1v478
            have tx4_1v478 : Ti x4_1v478 z1026 := by rw [ex4_1v478]; exact t1027
            unfold pX8_split_116
            obtain ⟨z1029, t1030, f1031⟩ := t_add tx5 lit_1
            first | replace f1031 := f1031 (by omega) | clear f1031
            intro x5_1v479 ex5_1v479
            have tx5_1v479 : Ti x5_1v479 z1029 := by rw [ex5_1v479]; exact t1030
            exact ih _ _ _ _ _ _ _ _ _ tx2 tx3 tx4_1v478 tx5_1v479 hI (by omega) (by omega) (by omega)
          · replace c1025 := c_neq tx6_7v467 lit_32 c1025
            refine ⟨fun c1032 => ?_, fun c1032 => ?_⟩
            · replace c1032 := c_neq tx6_7v467 lit_10 c1032
              refine sX8_isLetter   (hI := hI) (tx0 := tx6_7v467)  (hp := fun r_10v468 zr_10v468 tr_10v468 => ?_)
              refine ⟨fun c1033 => ?_, fun c1033 => ?_⟩
              · replace c1033 := c_eq tr_10v468 lit_0 c1033
                refine sX8_isDigit   (hI := hI) (tx0 := tx6_7v467)  (hp := fun r_13v480 zr_13v480 tr_13v480 => ?_)
                refine ⟨fun c1034 => ?_, fun c1034 => ?_⟩
                · replace c1034 := c_eq tr_13v480 lit_0 c1034
                  refine sX8_splitSign   (hI := hI) (tx1 := tx6_7v467) (tx2 := tx4) (tx3 := tx3)  (hp := fun r_16v488 zr_16v488 w_17v489  tr_16v488 hIw_17v489  => ?_)
                  unfold pX8_split_116
                  obtain ⟨z1035, t1036, f1037⟩ := t_add tx5 lit_1
                  first | replace f1037 := f1037 (by omega) | clear f1037
                  intro x5_1v492 ex5_1v492
                  have tx5_1v492 : Ti x5_1v492 z1035 := by rw [ex5_1v492]; exact t1036
                  exact ih _ _ _ _ _ _ _ _ _ tx2 tx3 tr_16v488 tx5_1v492 hIw_17v489 (by omega) (by omega) (by omega)
                · replace c1034 := c_neq tr_13v480 lit_0 c1034
                  refine sX8_splitNumber   (hI := hI) (tx2 := tx4) (tx3 := tx3) (h0 := (by omega)) (h1 := (by omega)) (h2 := (by omega)) (hp := fun r_18v490 zr_18v490 w_19v491  tr_18v490 hIw_19v491  => ?_)
                  unfold pX8_split_116
                  obtain ⟨z1038, t1039, f1040⟩ := t_add tx5 lit_1
                  first | replace f1040 := f1040 (by omega) | clear f1040
                  intro x5_1v493 ex5_1v493
                  have tx5_1v493 : Ti x5_1v493 z1038 := by rw [ex5_1v493]; exact t1039
                  exact ih _ _ _ _ _ _ _ _ _ tx2 tx3 tr_18v490 tx5_1v493 hIw_19v491 (by omega) (by omega) (by omega)
              · replace c1033 := c_neq tr_10v468 lit_0 c1033
                refine sX8_splitWord   (hI := hI) (tx2 := tx4) (tx3 := tx3) (h0 := (by omega)) (h1 := (by omega)) (h2 := (by omega)) (hp := fun r_20v486 zr_20v486 w_21v487  tr_20v486 hIw_21v487  => ?_)
                unfold pX8_split_116
                obtain ⟨z1041, t1042, f1043⟩ := t_add tx5 lit_1
                first | replace f1043 := f1043 (by omega) | clear f1043
                intro x5_1v494 ex5_1v494
                have tx5_1v494 : Ti x5_1v494 z1041 := by rw [ex5_1v494]; exact t1042
                exact ih _ _ _ _ _ _ _ _ _ tx2 tx3 tr_20v486 tx5_1v494 hIw_21v487 (by omega) (by omega) (by omega)
            · replace c1032 := c_eq tx6_7v467 lit_10 c1032
              unfold pX8_split_57
              obtain ⟨z1044, t1045, f1046⟩ := t_add tx4 lit_1
              first | replace f1046 := f1046 (by omega) | clear f1046
              intro x4_1v495 ex4_1v495
              have tx4_1v495 : Ti x4_1v495 z1044 := by rw [ex4_1v495]; exact t1045
              unfold pX8_split_116
              obtain ⟨z1047, t1048, f1049⟩ := t_add tx5 lit_1
              first | replace f1049 := f1049 (by omega) | clear f1049
              intro x5_1v496 ex5_1v496
              have tx5_1v496 : Ti x5_1v496 z1047 := by rw [ex5_1v496]; exact t1048
              exact ih _ _ _ _ _ _ _ _ _ tx2 tx3 tx4_1v495 tx5_1v496 hI (by omega) (by omega) (by omega)
set_option maxHeartbeats 4000000 in
set_option maxRecDepth 100000 in
theorem sX8_split {T D : Int} {k : Nat} {post : Wd → Prop} {x2 : Int32} {zx2 : Int} {w : Wd}  (tx2 : Ti x2 zx2) (hI : IX k T D w)  (hp : ∀ (w9 : Wd), IX k T D w9 → post w9) : pX8_split   post  x2 w := by
  unfold pX8_split
  have hk := ix_k hI
  intro w_1v497 ew_1v497
  have hIw_1v497 := ixs_20_3 hI ew_1v497 lit_0 (by omega) (by omega)
  obtain ⟨z1050, t1051, f1052⟩ := t_ite lit_1600 tx2 lit_1600 tx2
  intro x3_2v498 ex3_2v498
  have tx3_2v498 : Ti x3_2v498 z1050 := by rw [ex3_2v498]; exact t1051
  exact ⟨70000, sX8_split_18   (hp := hp) 70000 _ _ _ _ _ _ _ _ _ tx2 tx3_2v498 lit_0 lit_0 hIw_1v497 (by omega) (by omega) (by omega)⟩
set_option maxHeartbeats 4000000 in
set_option maxRecDepth 100000 in
theorem sX10_chancery {T D : Int} {k : Nat} {post : Int32 → Wd → Prop}  {w : Wd}   (hI : IX k T D w)  (hp : ∀ (r : Int32) (zr : Int) (w9 : Wd) (D9 : Int), Ti r zr → IX k T D9 w9 → post r w9) : pX10_chancery   post   w := by
  unfold pX10_chancery
  have hk := ix_k hI
  obtain ⟨z1053, t1054⟩ := t_any (w.1 0 13)
  have f1055 := ixg_0_13 hI t1054
  refine sX8_split   (hI := hI) (tx2 := t1054)  (hp := fun  w_1v499   hIw_1v499  => ?_)
  refine sX6_read   (hI := hIw_1v499)   (hp := fun r_2v500 zr_2v500 w_3v501  tr_2v500 hIw_3v501  => ?_)
  intro w_4v502 ew_4v502
  have hIw_4v502 := ixs_n hIw_3v501 ew_4v502 (by unfold nX; omega)
  intro w_5v503 ew_5v503
  have hIw_5v503 := ixs_n hIw_4v502 ew_5v503 (by unfold nX; omega)
  have t1057 : Ti (w_4v502.1 0 14) zr_2v500 := by rw [ew_4v502, sI_at]; exact tr_2v500
  have t1056 : Ti (w_5v503.1 0 14) zr_2v500 := by rw [ew_5v503, sI_ne (by omega)]; exact t1057
  refine ⟨fun c1058 => ?_, fun c1058 => ?_⟩
  · replace c1058 := c_eq t1056 lit_0 c1058
    intro w_7v504 ew_7v504
    have hIw_7v504 := ixs_R hIw_5v503 ew_7v504
    intro w_8v505 ew_8v505
    have hIw_8v505 := ixs_R hIw_7v504 ew_8v505
    refine sX10_beginAnew   (hI := hIw_8v505)   (hp := fun  w_9v506 g1059  hIw_9v506  => ?_)
    obtain ⟨z1060, t1061⟩ := t_any (w_9v506.1 (rl (w_9v506.2.2.2.2 0)) 2)
    have f1062 := ixg_r2 hIw_9v506 t1061
    exact hp _ _ _ _ t1061 hIw_9v506 
  · replace c1058 := c_neq t1056 lit_0 c1058
    exact hp _ _ _ _ lit_m1 hIw_5v503 
set_option maxHeartbeats 4000000 in
set_option maxRecDepth 100000 in
theorem sX10_fault {T D : Int} {k : Nat} {post : Int32 → Wd → Prop} {x1 : Int32} {zx1 : Int} {w : Wd}  (tx1 : Ti x1 zx1) (hI : IX k T D w)  (hp : ∀ (r : Int32) (zr : Int), Ti r zr → post r w) : pX10_fault   post  x1 w := by
  unfold pX10_fault
  have hk := ix_k hI
  refine ⟨fun c1063 => ?_, fun c1063 => ?_⟩
  · replace c1063 := c_neq tx1 lit_0 c1063
    refine ⟨fun c1064 => ?_, fun c1064 => ?_⟩
    · replace c1064 := c_neq tx1 lit_1 c1064
      exact hp _ _ lit_m1 
    · replace c1064 := c_eq tx1 lit_1 c1064
      obtain ⟨z1065, t1066⟩ := t_any (w.1 0 15)
      exact hp _ _ t1066 
  · replace c1063 := c_eq tx1 lit_0 c1063
    obtain ⟨z1067, t1068⟩ := t_any (w.1 0 14)
    exact hp _ _ t1068 
set_option maxHeartbeats 4000000 in
set_option maxRecDepth 100000 in
theorem sX10_isSeal {T D : Int} {k : Nat} {post : Int32 → Wd → Prop} {x1 : Int32} {zx1 : Int} {w : Wd}  (tx1 : Ti x1 zx1) (hI : IX k T D w)  (hp : ∀ (r : Int32) (zr : Int), Ti r zr → ((zr = 0 ∨ (0 ≤ zx1 ∧ zx1 ≤ 23))) → post r w) : pX10_isSeal   post  x1 w := by
  unfold pX10_isSeal
  have hk := ix_k hI
  refine ⟨fun c1069 => ?_, fun c1069 => ?_⟩
  · replace c1069 := c_lt tx1 lit_0 c1069
    exact hp _ _ lit_0 (by omega)
  · replace c1069 := c_nlt tx1 lit_0 c1069
    obtain ⟨z1070, t1071⟩ := t_any (w.1 160 0)
    have f1072 := ixg_c0 hI t1071
    refine ⟨fun c1073 => ?_, fun c1073 => ?_⟩
    · replace c1073 := c_le t1071 tx1 c1073
      exact hp _ _ lit_0 (by omega)
    · replace c1073 := c_nle t1071 tx1 c1073
      exact hp _ _ lit_1 (by omega)
set_option maxHeartbeats 4000000 in
set_option maxRecDepth 100000 in
theorem sX10_seal {T D : Int} {k : Nat} {post : Int32 → Wd → Prop} {x1 : Int32} {zx1 : Int} {x2 : Int32} {zx2 : Int} {w : Wd}  (tx1 : Ti x1 zx1) (tx2 : Ti x2 zx2) (hI : IX k T D w)  (hp : ∀ (r : Int32) (zr : Int), Ti r zr → post r w) : pX10_seal   post  x1 x2 w := by
  unfold pX10_seal
  have hk := ix_k hI
  refine sX10_isSeal   (hI := hI) (tx1 := tx1)  (hp := fun r_1v507 zr_1v507 tr_1v507 p1074 => ?_)
  refine ⟨fun c1075 => ?_, fun c1075 => ?_⟩
  · replace c1075 := c_neq tr_1v507 lit_0 c1075
    refine ⟨fun c1076 => ?_, fun c1076 => ?_, fun c1076 => ?_, fun c1076 => ?_, fun c1076 => ?_, fun c1076 => ?_⟩
    · rw [show x2.toInt = zx2 from tx2] at c1076
      exact hp _ _ lit_m1 
    · rw [show x2.toInt = zx2 from tx2] at c1076
      refine ⟨vp_of tx1 (by omega) (by omega), ?_⟩
      obtain ⟨z1077, t1078⟩ := t_any (w.2.1 162 x1.toNatClampNeg)
      exact hp _ _ t1078 
    · rw [show x2.toInt = zx2 from tx2] at c1076
      refine ⟨vp_of tx1 (by omega) (by omega), ?_⟩
      obtain ⟨z1079, t1080⟩ := t_any (w.2.1 163 x1.toNatClampNeg)
      exact hp _ _ t1080 
    · rw [show x2.toInt = zx2 from tx2] at c1076
      refine ⟨vp_of tx1 (by omega) (by omega), ?_⟩
      obtain ⟨z1081, t1082⟩ := t_any (w.2.1 164 x1.toNatClampNeg)
      exact hp _ _ t1082 
    · rw [show x2.toInt = zx2 from tx2] at c1076
      refine ⟨vp_of tx1 (by omega) (by omega), ?_⟩
      obtain ⟨z1083, t1084⟩ := t_any (w.2.1 165 x1.toNatClampNeg)
      exact hp _ _ t1084 
    · rw [show x2.toInt = zx2 from tx2] at c1076
      refine ⟨vp_of tx1 (by omega) (by omega), ?_⟩
      obtain ⟨z1085, t1086⟩ := t_any (w.2.1 166 x1.toNatClampNeg)
      exact hp _ _ t1086 
  · replace c1075 := c_eq tr_1v507 lit_0 c1075
    exact hp _ _ lit_m1 
set_option maxHeartbeats 4000000 in
set_option maxRecDepth 100000 in
theorem sX10_shown {T D : Int} {k : Nat} {post : Int32 → Wd → Prop} {x1 : Int32} {zx1 : Int} {x2 : Int32} {zx2 : Int} {w : Wd}  (tx1 : Ti x1 zx1) (tx2 : Ti x2 zx2) (hI : IX k T D w)  (hp : ∀ (r : Int32) (zr : Int), Ti r zr → post r w) : pX10_shown   post  x1 x2 w := by
  unfold pX10_shown
  have hk := ix_k hI
  refine ⟨fun c1087 => ?_, fun c1087 => ?_⟩
  · replace c1087 := c_lt tx1 lit_0 c1087
    exact hp _ _ lit_m1 
  · replace c1087 := c_nlt tx1 lit_0 c1087
    obtain ⟨z1088, t1089⟩ := t_any (w.1 160 6)
    have f1090 := ixg_c6 hI t1089
    refine ⟨fun c1091 => ?_, fun c1091 => ?_⟩
    · replace c1091 := c_lt tx1 t1089 c1091
      refine ⟨fun c1092 => ?_, fun c1092 => ?_, fun c1092 => ?_, fun c1092 => ?_⟩
      · rw [show x2.toInt = zx2 from tx2] at c1092
        exact hp _ _ lit_m1 
      · rw [show x2.toInt = zx2 from tx2] at c1092
        refine ⟨vp_of tx1 (by omega) (by omega), ?_⟩
        obtain ⟨z1093, t1094⟩ := t_any (w.2.1 168 x1.toNatClampNeg)
        exact hp _ _ t1094 
      · rw [show x2.toInt = zx2 from tx2] at c1092
        refine ⟨vp_of tx1 (by omega) (by omega), ?_⟩
        obtain ⟨z1095, t1096⟩ := t_any (w.2.1 169 x1.toNatClampNeg)
        exact hp _ _ t1096 
      · rw [show x2.toInt = zx2 from tx2] at c1092
        refine ⟨vp_of tx1 (by omega) (by omega), ?_⟩
        obtain ⟨z1097, t1098⟩ := t_any (w.2.1 170 x1.toNatClampNeg)
        exact hp _ _ t1098 
    · replace c1091 := c_nlt tx1 t1089 c1091
      exact hp _ _ lit_m1 
set_option maxHeartbeats 4000000 in
set_option maxRecDepth 100000 in
theorem sX7_rows {T D : Int} {k : Nat} {post : Int32 → Wd → Prop} {b : Bool}  {w : Wd}   (hI : IX k T D w)  (hp : ∀ (r : Int32) (zr : Int), Ti r zr → (1 ≤ zr ∧ zr ≤ 4096) → post r w) : pX7_rows   post b  w := by
  unfold pX7_rows
  have hk := ix_k hI
  obtain ⟨z1099, t1100⟩ := t_any (w.1 (rl b) 0)
  have f1101 := ixg_r0 hI t1100
  obtain ⟨z1102, t1103, f1104⟩ := t_shl t1100
  first | replace f1104 := f1104 (by omega) | clear f1104
  exact hp _ _ t1103 (by omega)
set_option maxHeartbeats 4000000 in
set_option maxRecDepth 100000 in
theorem sX10_isRow {T D : Int} {k : Nat} {post : Int32 → Wd → Prop} {x1 : Int32} {zx1 : Int} {w : Wd}  (tx1 : Ti x1 zx1) (hI : IX k T D w)  (hp : ∀ (r : Int32) (zr : Int), Ti r zr → ((zr = 0 ∨ (0 ≤ zx1 ∧ zx1 ≤ 4095))) → post r w) : pX10_isRow   post  x1 w := by
  unfold pX10_isRow
  have hk := ix_k hI
  refine ⟨fun c1105 => ?_, fun c1105 => ?_⟩
  · replace c1105 := c_lt tx1 lit_0 c1105
    exact hp _ _ lit_0 (by omega)
  · replace c1105 := c_nlt tx1 lit_0 c1105
    refine sX7_rows   (hI := hI)   (hp := fun r_2v509 zr_2v509 tr_2v509 p1106 => ?_)
    refine ⟨fun c1107 => ?_, fun c1107 => ?_⟩
    · replace c1107 := c_le tr_2v509 tx1 c1107
      exact hp _ _ lit_0 (by omega)
    · replace c1107 := c_nle tr_2v509 tx1 c1107
      exact hp _ _ lit_1 (by omega)
set_option maxHeartbeats 4000000 in
set_option maxRecDepth 100000 in
theorem sX10_prints_30 {T D : Int} {k : Nat} {post : Int32 → Wd → Prop} {w : Wd}  (hp : ∀ (r : Int32) (zr : Int), Ti r zr → post r w) : ∀ (n : Nat) (x1 : Int32) (x2 : Int32) (x3 : Int32) (x4 : Int32) (x5 : Int32) (x6 : Int32) (zx1 : Int) (zx2 : Int) (zx3 : Int) (zx4 : Int) (zx5 : Int) (zx6 : Int), Ti x1 zx1 → Ti x2 zx2 → Ti x3 zx3 → Ti x4 zx4 → Ti x5 zx5 → Ti x6 zx6 → IX k T D w → (0 ≤ zx6 ∧ zx6 ≤ 40) → (41 - zx6) < (n : Int) → pX10_prints_30   post  n x1 x2 x3 x4 x5 x6 w := by
  intro n
  induction n with
  | zero =>
    intro x1 x2 x3 x4 x5 x6 zx1 zx2 zx3 zx4 zx5 zx6  tx1 tx2 tx3 tx4 tx5 tx6 hI h0 hm
    exact absurd hm (by omega)
  | succ n ih =>
    intro x1 x2 x3 x4 x5 x6 zx1 zx2 zx3 zx4 zx5 zx6  tx1 tx2 tx3 tx4 tx5 tx6 hI h0 hm
    unfold pX10_prints_30
    have hk := ix_k hI
    obtain ⟨z1108, t1109⟩ := t_any (w.1 160 6)
    have f1110 := ixg_c6 hI t1109
    refine ⟨fun c1111 => ?_, fun c1111 => ?_⟩
    · replace c1111 := c_le t1109 tx6 c1111
      refine ⟨fun c1112 => ?_, fun c1112 => ?_⟩
      · replace c1112 := c_neq tx2 lit_0 c1112
        refine ⟨fun c1113 => ?_, fun c1113 => ?_⟩
        · replace c1113 := c_neq tx2 lit_1 c1113
          exact hp _ _ tx5 
        · replace c1113 := c_eq tx2 lit_1 c1113
          exact hp _ _ tx4 
      · replace c1112 := c_eq tx2 lit_0 c1112
        exact hp _ _ tx3 
    · replace c1111 := c_nle t1109 tx6 c1111
      refine ⟨vp_of tx6 (by omega) (by omega), ?_⟩
      obtain ⟨z1114, t1115⟩ := t_any (w.2.1 168 x6.toNatClampNeg)
      refine ⟨fun c1116 => ?_, fun c1116 => ?_⟩
      · replace c1116 := c_neq t1115 tx1 c1116
        unfold pX10_prints_92
        obtain ⟨z1117, t1118, f1119⟩ := t_add tx6 lit_1
        first | replace f1119 := f1119 (by omega) | clear f1119
        intro x6_1v511 ex6_1v511
        have tx6_1v511 : Ti x6_1v511 z1117 := by rw [ex6_1v511]; exact t1118
        exact ih _ _ _ _ _ _ _ _ _ _ _ _  tx1 tx2 tx3 tx4 tx5 tx6_1v511 hI (by omega) (by omega)
      · replace c1116 := c_eq t1115 tx1 c1116
        refine ⟨fun c1120 => ?_, fun c1120 => ?_⟩
        · replace c1120 := c_neq tx3 lit_0 c1120
          unfold pX10_prints_75
          refine ⟨vp_of tx6 (by omega) (by omega), ?_⟩
          obtain ⟨z1121, t1122⟩ := t_any (w.2.1 170 x6.toNatClampNeg)
          intro x5_1v512 ex5_1v512
          have tx5_1v512 : Ti x5_1v512 z1121 := by rw [ex5_1v512]; exact t1122
          obtain ⟨z1123, t1124, f1125⟩ := t_add tx3 lit_1
          first | replace f1125 := f1125 (by omega) | clear f1125
          intro x3_2v513 ex3_2v513
          have tx3_2v513 : Ti x3_2v513 z1123 := by rw [ex3_2v513]; exact t1124
          unfold pX10_prints_92
          obtain ⟨z1126, t1127, f1128⟩ := t_add tx6 lit_1
          first | replace f1128 := f1128 (by omega) | clear f1128
          intro x6_1v514 ex6_1v514
          have tx6_1v514 : Ti x6_1v514 z1126 := by rw [ex6_1v514]; exact t1127
          exact ih _ _ _ _ _ _ _ _ _ _ _ _  tx1 tx2 tx3_2v513 tx4 tx5_1v512 tx6_1v514 hI (by omega) (by omega)
        · replace c1120 := c_eq tx3 lit_0 c1120
          refine ⟨vp_of tx6 (by omega) (by omega), ?_⟩
          unfold pX10_prints_75
          refine ⟨vp_of tx6 (by omega) (by omega), ?_⟩
          obtain ⟨z1129, t1130⟩ := t_any (w.2.1 170 x6.toNatClampNeg)
          intro x5_1v515 ex5_1v515
          have tx5_1v515 : Ti x5_1v515 z1129 := by rw [ex5_1v515]; exact t1130
          obtain ⟨z1131, t1132, f1133⟩ := t_add tx3 lit_1
          first | replace f1133 := f1133 (by omega) | clear f1133
          intro x3_2v516 ex3_2v516
          have tx3_2v516 : Ti x3_2v516 z1131 := by rw [ex3_2v516]; exact t1132
          unfold pX10_prints_92
          obtain ⟨z1134, t1135, f1136⟩ := t_add tx6 lit_1
          first | replace f1136 := f1136 (by omega) | clear f1136
          intro x6_1v517 ex6_1v517
          have tx6_1v517 : Ti x6_1v517 z1134 := by rw [ex6_1v517]; exact t1135
          exact ih _ _ _ _ _ _ _ _ _ _ _ _  tx1 tx2 tx3_2v516 t1130 tx5_1v515 tx6_1v517 hI (by omega) (by omega)
set_option maxHeartbeats 4000000 in
set_option maxRecDepth 100000 in
theorem sX10_prints {T D : Int} {k : Nat} {post : Int32 → Wd → Prop} {x1 : Int32} {zx1 : Int} {x2 : Int32} {zx2 : Int} {w : Wd}  (tx1 : Ti x1 zx1) (tx2 : Ti x2 zx2) (hI : IX k T D w)  (hp : ∀ (r : Int32) (zr : Int), Ti r zr → post r w) : pX10_prints   post  x1 x2 w := by
  unfold pX10_prints
  have hk := ix_k hI
  refine sX10_isRow   (hI := hI) (tx1 := tx1)  (hp := fun r_1v518 zr_1v518 tr_1v518 p1137 => ?_)
  refine ⟨fun c1138 => ?_, fun c1138 => ?_⟩
  · replace c1138 := c_eq tr_1v518 lit_0 c1138
    exact hp _ _ lit_m1 
  · replace c1138 := c_neq tr_1v518 lit_0 c1138
    refine ⟨fun c1139 => ?_, fun c1139 => ?_⟩
    · replace c1139 := c_lt tx2 lit_0 c1139
      exact hp _ _ lit_m1 
    · replace c1139 := c_nlt tx2 lit_0 c1139
      refine ⟨fun c1140 => ?_, fun c1140 => ?_⟩
      · replace c1140 := c_le tx2 lit_2 c1140
        exact ⟨70000, sX10_prints_30   (hp := hp) 70000 _ _ _ _ _ _ _ _ _ _ _ _  tx1 tx2 lit_0 lit_m1 lit_m1 lit_0 hI (by omega) (by omega)⟩
      · replace c1140 := c_nle tx2 lit_2 c1140
        exact hp _ _ lit_m1 
set_option maxHeartbeats 4000000 in
set_option maxRecDepth 100000 in
theorem sX10_turn {T D : Int} {k : Nat} {post : Int32 → Wd → Prop} {x0 : Int32} {zx0 : Int} {x1 : Int32} {zx1 : Int} {w : Wd}  (tx0 : Ti x0 zx0) (tx1 : Ti x1 zx1) (hI : IX k T D w)  (hp : ∀ (r : Int32) (zr : Int), Ti r zr → post r w) : pX10_turn   post  x0 x1 w := by
  unfold pX10_turn
  have hk := ix_k hI
  obtain ⟨z1141, t1142⟩ := t_any (((x0 &&& (21845 : Int32)) <<< ((1 : Int32) &&& 31)) ||| ((x0.toUInt32 >>> ((1 : Int32).toUInt32 &&& Int32.toUInt32 31)).toInt32 &&& (21845 : Int32)))
  intro x2_1v520 ex2_1v520
  have tx2_1v520 : Ti x2_1v520 z1141 := by rw [ex2_1v520]; exact t1142
  obtain ⟨z1143, t1144⟩ := t_any (((x2_1v520 &&& (13107 : Int32)) <<< ((2 : Int32) &&& 31)) ||| ((x2_1v520.toUInt32 >>> ((2 : Int32).toUInt32 &&& Int32.toUInt32 31)).toInt32 &&& (13107 : Int32)))
  intro x2_2v521 ex2_2v521
  have tx2_2v521 : Ti x2_2v521 z1143 := by rw [ex2_2v521]; exact t1144
  obtain ⟨z1145, t1146⟩ := t_any (((x2_2v521 &&& (3855 : Int32)) <<< ((4 : Int32) &&& 31)) ||| ((x2_2v521.toUInt32 >>> ((4 : Int32).toUInt32 &&& Int32.toUInt32 31)).toInt32 &&& (3855 : Int32)))
  intro x2_3v522 ex2_3v522
  have tx2_3v522 : Ti x2_3v522 z1145 := by rw [ex2_3v522]; exact t1146
  obtain ⟨z1147, t1148⟩ := t_any (((x2_3v522 &&& (255 : Int32)) <<< ((8 : Int32) &&& 31)) ||| ((x2_3v522.toUInt32 >>> ((8 : Int32).toUInt32 &&& Int32.toUInt32 31)).toInt32 &&& (255 : Int32)))
  intro x2_4v523 ex2_4v523
  have tx2_4v523 : Ti x2_4v523 z1147 := by rw [ex2_4v523]; exact t1148
  obtain ⟨z1149, t1150⟩ := t_any ((x2_4v523.toUInt32 >>> (((16 : Int32) - x1).toUInt32 &&& Int32.toUInt32 31)).toInt32)
  exact hp _ _ t1150 
set_option maxHeartbeats 4000000 in
set_option maxRecDepth 100000 in
theorem sX10_turned {T D : Int} {k : Nat} {post : Int32 → Wd → Prop} {x1 : Int32} {zx1 : Int} {w : Wd}  (tx1 : Ti x1 zx1) (hI : IX k T D w)  (hp : ∀ (r : Int32) (zr : Int), Ti r zr → post r w) : pX10_turned   post  x1 w := by
  unfold pX10_turned
  have hk := ix_k hI
  refine sX10_isRow   (hI := hI) (tx1 := tx1)  (hp := fun r_1v524 zr_1v524 tr_1v524 p1151 => ?_)
  refine ⟨fun c1152 => ?_, fun c1152 => ?_⟩
  · replace c1152 := c_eq tr_1v524 lit_0 c1152
    exact hp _ _ lit_m1 
  · replace c1152 := c_neq tr_1v524 lit_0 c1152
    obtain ⟨z1153, t1154⟩ := t_any (w.1 (rl (w.2.2.2.2 0)) 0)
    have f1155 := ixg_r0 hI t1154
    refine sX10_turn   (hI := hI) (tx0 := tx1) (tx1 := t1154)  (hp := fun r_4v528 zr_4v528 tr_4v528 => ?_)
    exact hp _ _ tr_4v528 
set_option maxHeartbeats 4000000 in
set_option maxRecDepth 100000 in
theorem sX10_isHand {T D : Int} {k : Nat} {post : Int32 → Wd → Prop} {x1 : Int32} {zx1 : Int} {w : Wd}  (tx1 : Ti x1 zx1) (hI : IX k T D w)  (hp : ∀ (r : Int32) (zr : Int), Ti r zr → ((zr = 0 ∨ (0 ≤ zx1 ∧ zx1 ≤ 3))) → post r w) : pX10_isHand   post  x1 w := by
  unfold pX10_isHand
  have hk := ix_k hI
  refine ⟨fun c1156 => ?_, fun c1156 => ?_⟩
  · replace c1156 := c_lt tx1 lit_0 c1156
    exact hp _ _ lit_0 (by omega)
  · replace c1156 := c_nlt tx1 lit_0 c1156
    obtain ⟨z1157, t1158⟩ := t_any (w.1 (rl (w.2.2.2.2 0)) 2)
    have f1159 := ixg_r2 hI t1158
    refine ⟨fun c1160 => ?_, fun c1160 => ?_⟩
    · replace c1160 := c_le t1158 tx1 c1160
      exact hp _ _ lit_0 (by omega)
    · replace c1160 := c_nle t1158 tx1 c1160
      exact hp _ _ lit_1 (by omega)
set_option maxHeartbeats 4000000 in
set_option maxRecDepth 100000 in
theorem sX10_isHeat {T D : Int} {k : Nat} {post : Int32 → Wd → Prop} {x0 : Int32} {zx0 : Int} {w : Wd}  (tx0 : Ti x0 zx0) (hI : IX k T D w)  (hp : ∀ (r : Int32) (zr : Int), Ti r zr → ((zr = 0 ∨ (0 ≤ zx0 ∧ zx0 ≤ 9))) → post r w) : pX10_isHeat   post  x0 w := by
  unfold pX10_isHeat
  have hk := ix_k hI
  refine ⟨fun c1161 => ?_, fun c1161 => ?_⟩
  · replace c1161 := c_lt tx0 lit_0 c1161
    exact hp _ _ lit_0 (by omega)
  · replace c1161 := c_nlt tx0 lit_0 c1161
    refine ⟨fun c1162 => ?_, fun c1162 => ?_⟩
    · replace c1162 := c_le lit_10 tx0 c1162
      exact hp _ _ lit_0 (by omega)
    · replace c1162 := c_nle lit_10 tx0 c1162
      exact hp _ _ lit_1 (by omega)
set_option maxHeartbeats 4000000 in
set_option maxRecDepth 100000 in
theorem sJ6_bitCount_0f7a4 {T D : Int} {k : Nat} {post : Int32 → Wd → Prop} {x0 : Int32} {zx0 : Int} {w : Wd}  (tx0 : Ti x0 zx0) (hI : IX k T D w)  (hp : ∀ (r : Int32) (zr : Int), Ti r zr → (0 ≤ zr ∧ zr ≤ 63) → post r w) : pJ6_bitCount_0f7a4   post  x0 w := by
  unfold pJ6_bitCount_0f7a4
  have hk := ix_k hI
  obtain ⟨z1163, t1164, f1165⟩ := t_and (x := ((x0.toUInt32 >>> ((1 : Int32).toUInt32 &&& Int32.toUInt32 31)).toInt32)) lit_1431655765 (by decide)
  obtain ⟨z1166, t1167, f1168⟩ := t_sub tx0 t1164
  first | replace f1168 := f1168 (by omega) | clear f1168
  intro x0_1v530 ex0_1v530
  have tx0_1v530 : Ti x0_1v530 z1166 := by rw [ex0_1v530]; exact t1167
  obtain ⟨z1169, t1170, f1171⟩ := t_and (x := x0_1v530) lit_858993459 (by decide)
  obtain ⟨z1172, t1173, f1174⟩ := t_and (x := ((x0_1v530.toUInt32 >>> ((2 : Int32).toUInt32 &&& Int32.toUInt32 31)).toInt32)) lit_858993459 (by decide)
  obtain ⟨z1175, t1176, f1177⟩ := t_add t1170 t1173
  first | replace f1177 := f1177 (by omega) | clear f1177
  intro x0_2v531 ex0_2v531
  have tx0_2v531 : Ti x0_2v531 z1175 := by rw [ex0_2v531]; exact t1176
  obtain ⟨z1178, t1179, f1180⟩ := t_and (x := (x0_2v531 + (x0_2v531.toUInt32 >>> ((4 : Int32).toUInt32 &&& Int32.toUInt32 31)).toInt32)) lit_252645135 (by decide)
  intro x0_3v532 ex0_3v532
  have tx0_3v532 : Ti x0_3v532 z1178 := by rw [ex0_3v532]; exact t1179
  obtain ⟨z1181, t1182⟩ := t_any ((x0_3v532.toUInt32 >>> ((8 : Int32).toUInt32 &&& Int32.toUInt32 31)).toInt32)
  obtain ⟨z1183, t1184, f1185⟩ := t_add tx0_3v532 t1182
  first | replace f1185 := f1185 (by omega) | clear f1185
  intro x0_4v533 ex0_4v533
  have tx0_4v533 : Ti x0_4v533 z1183 := by rw [ex0_4v533]; exact t1184
  obtain ⟨z1186, t1187⟩ := t_any ((x0_4v533.toUInt32 >>> ((16 : Int32).toUInt32 &&& Int32.toUInt32 31)).toInt32)
  obtain ⟨z1188, t1189, f1190⟩ := t_add tx0_4v533 t1187
  first | replace f1190 := f1190 (by omega) | clear f1190
  intro x0_5v534 ex0_5v534
  have tx0_5v534 : Ti x0_5v534 z1188 := by rw [ex0_5v534]; exact t1189
  obtain ⟨z1191, t1192, f1193⟩ := t_and (x := x0_5v534) lit_63 (by decide)
  exact hp _ _ t1192 (by omega)
set_option maxHeartbeats 4000000 in
set_option maxRecDepth 100000 in
theorem sX7_join {T D : Int} {k : Nat} {post : Int32 → Wd → Prop} {x0 : Int32} {zx0 : Int} {x1 : Int32} {zx1 : Int} {x2 : Int32} {zx2 : Int} {w : Wd}  (tx0 : Ti x0 zx0) (tx1 : Ti x1 zx1) (tx2 : Ti x2 zx2) (hI : IX k T D w)  (hp : ∀ (r : Int32) (zr : Int), Ti r zr → post r w) : pX7_join   post  x0 x1 x2 w := by
  unfold pX7_join
  have hk := ix_k hI
  refine ⟨fun c1194 => ?_, fun c1194 => ?_⟩
  · rw [show x0.toInt = zx0 from tx0] at c1194
    refine ⟨fun c1195 => ?_, fun c1195 => ?_⟩
    · replace c1195 := c_neq tx1 lit_0 c1195
      exact hp _ _ lit_1 
    · replace c1195 := c_eq tx1 lit_0 c1195
      refine ⟨fun c1196 => ?_, fun c1196 => ?_⟩
      · replace c1196 := c_eq tx2 lit_0 c1196
        exact hp _ _ lit_0 
      · replace c1196 := c_neq tx2 lit_0 c1196
        exact hp _ _ lit_1 
  · rw [show x0.toInt = zx0 from tx0] at c1194
    refine ⟨fun c1197 => ?_, fun c1197 => ?_⟩
    · rw [show x0.toInt = zx0 from tx0] at c1197
      refine ⟨fun c1198 => ?_, fun c1198 => ?_⟩
      · replace c1198 := c_eq tx1 lit_0 c1198
        exact hp _ _ lit_0 
      · replace c1198 := c_neq tx1 lit_0 c1198
        refine ⟨fun c1199 => ?_, fun c1199 => ?_⟩
        · replace c1199 := c_eq tx2 lit_0 c1199
          exact hp _ _ lit_0 
        · replace c1199 := c_neq tx2 lit_0 c1199
          exact hp _ _ lit_1 
    · rw [show x0.toInt = zx0 from tx0] at c1197
      refine ⟨fun c1200 => ?_, fun c1200 => ?_⟩
      · rw [show x0.toInt = zx0 from tx0] at c1200
        refine ⟨fun c1201 => ?_, fun c1201 => ?_⟩
        · replace c1201 := c_neq tx2 lit_0 c1201
          refine ⟨nz_of tx2 (by omega), ?_⟩
          obtain ⟨z1202, t1203, f1204⟩ := t_remv tx1 tx2
          first | replace f1204 := f1204 (by omega) | clear f1204
          exact hp _ _ t1203 
        · replace c1201 := c_eq tx2 lit_0 c1201
          exact hp _ _ lit_0 
      · rw [show x0.toInt = zx0 from tx0] at c1200
        refine ⟨fun c1205 => ?_, fun c1205 => ?_⟩
        · rw [show x0.toInt = zx0 from tx0] at c1205
          obtain ⟨z1206, t1207, f1208⟩ := t_mulv tx1 tx2
          first | replace f1208 := f1208 (by omega) | clear f1208
          exact hp _ _ t1207 
        · rw [show x0.toInt = zx0 from tx0] at c1205
          refine ⟨fun c1209 => ?_, fun c1209 => ?_⟩
          · rw [show x0.toInt = zx0 from tx0] at c1209
            obtain ⟨z1210, t1211, f1212⟩ := t_add tx1 tx2
            first | replace f1212 := f1212 (by omega) | clear f1212
            exact hp _ _ t1211 
          · rw [show x0.toInt = zx0 from tx0] at c1209
            refine ⟨fun c1213 => ?_, fun c1213 => ?_⟩
            · rw [show x0.toInt = zx0 from tx0] at c1213
              obtain ⟨z1214, t1215, f1216⟩ := t_sub tx1 tx2
              first | replace f1216 := f1216 (by omega) | clear f1216
              exact hp _ _ t1215 
            · rw [show x0.toInt = zx0 from tx0] at c1213
              refine ⟨fun c1217 => ?_, fun c1217 => ?_⟩
              · rw [show x0.toInt = zx0 from tx0] at c1217
                refine ⟨fun c1218 => ?_, fun c1218 => ?_⟩
                · replace c1218 := c_neq tx2 lit_0 c1218
                  refine ⟨nz_of tx2 (by omega), ?_⟩
                  obtain ⟨z1219, t1220, f1221⟩ := t_divv tx1 tx2
                  first | replace f1221 := f1221 (by omega) | clear f1221
                  exact hp _ _ t1220 
                · replace c1218 := c_eq tx2 lit_0 c1218
                  exact hp _ _ lit_0 
              · rw [show x0.toInt = zx0 from tx0] at c1217
                refine ⟨fun c1222 => ?_, fun c1222 => ?_⟩
                · rw [show x0.toInt = zx0 from tx0] at c1222
                  refine ⟨fun c1223 => ?_, fun c1223 => ?_⟩
                  · replace c1223 := c_le tx2 tx1 c1223
                    exact hp _ _ lit_0 
                  · replace c1223 := c_nle tx2 tx1 c1223
                    exact hp _ _ lit_1 
                · rw [show x0.toInt = zx0 from tx0] at c1222
                  refine ⟨fun c1224 => ?_, fun c1224 => ?_⟩
                  · rw [show x0.toInt = zx0 from tx0] at c1224
                    refine ⟨fun c1225 => ?_, fun c1225 => ?_⟩
                    · replace c1225 := c_neq tx1 tx2 c1225
                      exact hp _ _ lit_0 
                    · replace c1225 := c_eq tx1 tx2 c1225
                      exact hp _ _ lit_1 
                  · rw [show x0.toInt = zx0 from tx0] at c1224
                    refine ⟨fun c1226 => ?_, fun c1226 => ?_⟩
                    · rw [show x0.toInt = zx0 from tx0] at c1226
                      refine ⟨fun c1227 => ?_, fun c1227 => ?_⟩
                      · replace c1227 := c_le tx1 tx2 c1227
                        exact hp _ _ lit_0 
                      · replace c1227 := c_nle tx1 tx2 c1227
                        exact hp _ _ lit_1 
                    · rw [show x0.toInt = zx0 from tx0] at c1226
                      exact hp _ _ lit_0 
set_option maxHeartbeats 4000000 in
set_option maxRecDepth 100000 in
theorem sX7_valueOf_56 {T D : Int} {k : Nat} {post : Int32 → Wd → Prop} {b : Bool}   (hp : ∀ (r : Int32) (zr : Int) (w9 : Wd), Ti r zr → IX k T D w9 → post r w9) : ∀ (n : Nat) (x3 : Int32) (x4 : Int32) (x5 : Int32) (zx3 : Int) (zx4 : Int) (zx5 : Int) (w : Wd), Ti x3 zx3 → Ti x4 zx4 → Ti x5 zx5 → IX k T D w → (0 ≤ zx5 ∧ zx5 ≤ 999999999) → (zx3 ≤ 1600) → (-1 ≤ zx4 ∧ zx4 ≤ 31) → (1000000001 - zx5) < (n : Int) → pX7_valueOf_56   post b n x3 x4 x5 w := by
  intro n
  induction n with
  | zero =>
    intro x3 x4 x5 zx3 zx4 zx5 w tx3 tx4 tx5 hI h0 h1 h2 hm
    exact absurd hm (by omega)
  | succ n ih =>
    intro x3 x4 x5 zx3 zx4 zx5 w tx3 tx4 tx5 hI h0 h1 h2 hm
    unfold pX7_valueOf_56
    have hk := ix_k hI
    refine ⟨fun c1228 => ?_, fun c1228 => ?_⟩
    · replace c1228 := c_le tx3 tx5 c1228
      refine ⟨fun c1229 => ?_, fun c1229 => ?_⟩
      · replace c1229 := c_lt tx4 lit_0 c1229
        exact hp _ _ _  lit_0 hI 
      · replace c1229 := c_nlt tx4 lit_0 c1229
        obtain ⟨z1230, t1231⟩ := t_any (w.2.1 ((rl b) + 13) (0 : Int32).toNatClampNeg)
        exact hp _ _ _  t1231 hI 
    · replace c1228 := c_nle tx3 tx5 c1228
      refine ⟨vp_of tx5 (by omega) (by omega), ?_⟩
      obtain ⟨z1232, t1233⟩ := t_any (w.2.1 ((rl b) + 9) x5.toNatClampNeg)
      intro x6_3v535 ex6_3v535
      have tx6_3v535 : Ti x6_3v535 z1232 := by rw [ex6_3v535]; exact t1233
      refine ⟨fun c1234 => ?_, fun c1234 => ?_⟩
      · replace c1234 := c_lt tx6_3v535 lit_128 c1234
        unfold pX7_valueOf_110
        refine ⟨fun c1235 => ?_, fun c1235 => ?_⟩
        · replace c1235 := c_lt tx6_3v535 lit_0 c1235
          unfold pX7_valueOf_151
          refine ⟨fun c1236 => ?_, fun c1236 => ?_⟩
          · replace c1236 := c_neq tx6_3v535 lit_16 c1236
            unfold pX7_valueOf_188
            refine ⟨fun c1237 => ?_, fun c1237 => ?_⟩
            · replace c1237 := c_lt tx4 lit_1 c1237
              unfold pX7_valueOf_225
              obtain ⟨z1238, t1239, f1240⟩ := t_add tx5 lit_1
              first | replace f1240 := f1240 (by omega) | clear f1240
              intro x5_1v544 ex5_1v544
              have tx5_1v544 : Ti x5_1v544 z1238 := by rw [ex5_1v544]; exact t1239
              exact ih _ _ _ _ _ _ _ tx3 tx4 tx5_1v544 hI (by omega) (by omega) (by omega) (by omega)
            · replace c1237 := c_nlt tx4 lit_1 c1237
              obtain ⟨z1241, t1242, f1243⟩ := t_add tx4 lit_m1
              first | replace f1243 := f1243 (by omega) | clear f1243
              intro x4_2v540 ex4_2v540
              have tx4_2v540 : Ti x4_2v540 z1241 := by rw [ex4_2v540]; exact t1242
              refine ⟨vp_of tx4_2v540 (by omega) (by omega), ?_⟩
              obtain ⟨z1244, t1245, f1246⟩ := t_add tx4_2v540 lit_1
              first | replace f1246 := f1246 (by omega) | clear f1246
              refine ⟨vp_of t1245 (by omega) (by omega), ?_⟩
              obtain ⟨z1247, t1248⟩ := t_any (w.2.1 ((rl b) + 13) x4_2v540.toNatClampNeg)
              obtain ⟨z1249, t1250⟩ := t_any (w.2.1 ((rl b) + 13) (x4_2v540 + (1 : Int32)).toNatClampNeg)
              refine sX7_join   (hI := hI) (tx0 := tx6_3v535) (tx1 := t1248) (tx2 := t1250)  (hp := fun r_3v541 zr_3v541 tr_3v541 => ?_)
              refine ⟨vp_of tx4_2v540 (by omega) (by omega), ?_⟩
              intro w_5v545 ew_5v545
              have hIw_5v545 := ixs_A hI ew_5v545 (by have q := rl_or b; omega)
              unfold pX7_valueOf_225
              obtain ⟨z1251, t1252, f1253⟩ := t_add tx5 lit_1
              first | replace f1253 := f1253 (by omega) | clear f1253
              intro x5_1v546 ex5_1v546
              have tx5_1v546 : Ti x5_1v546 z1251 := by rw [ex5_1v546]; exact t1252
              exact ih _ _ _ _ _ _ _ tx3 tx4_2v540 tx5_1v546 hIw_5v545 (by omega) (by omega) (by omega) (by omega)
          · replace c1236 := c_eq tx6_3v535 lit_16 c1236
            refine ⟨fun c1254 => ?_, fun c1254 => ?_⟩
            · replace c1254 := c_lt tx4 lit_0 c1254
              unfold pX7_valueOf_188
              refine ⟨fun c1255 => ?_, fun c1255 => ?_⟩
              · replace c1255 := c_lt tx4 lit_1 c1255
                unfold pX7_valueOf_225
                obtain ⟨z1256, t1257, f1258⟩ := t_add tx5 lit_1
                first | replace f1258 := f1258 (by omega) | clear f1258
                intro x5_1v551 ex5_1v551
                have tx5_1v551 : Ti x5_1v551 z1256 := by rw [ex5_1v551]; exact t1257
                exact ih _ _ _ _ _ _ _ tx3 tx4 tx5_1v551 hI (by omega) (by omega) (by omega) (by omega)
              · replace c1255 := c_nlt tx4 lit_1 c1255
                obtain ⟨z1259, t1260, f1261⟩ := t_add tx4 lit_m1
                first | replace f1261 := f1261 (by omega) | clear f1261
                intro x4_2v547 ex4_2v547
                have tx4_2v547 : Ti x4_2v547 z1259 := by rw [ex4_2v547]; exact t1260
                refine ⟨vp_of tx4_2v547 (by omega) (by omega), ?_⟩
                obtain ⟨z1262, t1263, f1264⟩ := t_add tx4_2v547 lit_1
                first | replace f1264 := f1264 (by omega) | clear f1264
                refine ⟨vp_of t1263 (by omega) (by omega), ?_⟩
                obtain ⟨z1265, t1266⟩ := t_any (w.2.1 ((rl b) + 13) x4_2v547.toNatClampNeg)
                obtain ⟨z1267, t1268⟩ := t_any (w.2.1 ((rl b) + 13) (x4_2v547 + (1 : Int32)).toNatClampNeg)
                refine sX7_join   (hI := hI) (tx0 := tx6_3v535) (tx1 := t1266) (tx2 := t1268)  (hp := fun r_3v548 zr_3v548 tr_3v548 => ?_)
                refine ⟨vp_of tx4_2v547 (by omega) (by omega), ?_⟩
                intro w_5v552 ew_5v552
                have hIw_5v552 := ixs_A hI ew_5v552 (by have q := rl_or b; omega)
                unfold pX7_valueOf_225
                obtain ⟨z1269, t1270, f1271⟩ := t_add tx5 lit_1
                first | replace f1271 := f1271 (by omega) | clear f1271
                intro x5_1v553 ex5_1v553
                have tx5_1v553 : Ti x5_1v553 z1269 := by rw [ex5_1v553]; exact t1270
                exact ih _ _ _ _ _ _ _ tx3 tx4_2v547 tx5_1v553 hIw_5v552 (by omega) (by omega) (by omega) (by omega)
            · replace c1254 := c_nlt tx4 lit_0 c1254
              refine ⟨vp_of tx4 (by omega) (by omega), ?_⟩
              obtain ⟨z1272, t1273⟩ := t_any (w.2.1 ((rl b) + 13) x4.toNatClampNeg)
              refine ⟨fun c1274 => ?_, fun c1274 => ?_⟩
              · replace c1274 := c_neq t1273 lit_0 c1274
                unfold pX7_valueOf_184
                refine ⟨vp_of tx4 (by omega) (by omega), ?_⟩
                intro w_1v554 ew_1v554
                have hIw_1v554 := ixs_A hI ew_1v554 (by have q := rl_or b; omega)
                unfold pX7_valueOf_225
                obtain ⟨z1275, t1276, f1277⟩ := t_add tx5 lit_1
                first | replace f1277 := f1277 (by omega) | clear f1277
                intro x5_1v555 ex5_1v555
                have tx5_1v555 : Ti x5_1v555 z1275 := by rw [ex5_1v555]; exact t1276
                exact ih _ _ _ _ _ _ _ tx3 tx4 tx5_1v555 hIw_1v554 (by omega) (by omega) (by omega) (by omega)
              · replace c1274 := c_eq t1273 lit_0 c1274
                unfold pX7_valueOf_184
                refine ⟨vp_of tx4 (by omega) (by omega), ?_⟩
                intro w_1v556 ew_1v556
                have hIw_1v556 := ixs_A hI ew_1v556 (by have q := rl_or b; omega)
                unfold pX7_valueOf_225
                obtain ⟨z1278, t1279, f1280⟩ := t_add tx5 lit_1
                first | replace f1280 := f1280 (by omega) | clear f1280
                intro x5_1v557 ex5_1v557
                have tx5_1v557 : Ti x5_1v557 z1278 := by rw [ex5_1v557]; exact t1279
                exact ih _ _ _ _ _ _ _ tx3 tx4 tx5_1v557 hIw_1v556 (by omega) (by omega) (by omega) (by omega)
        · replace c1235 := c_nlt tx6_3v535 lit_0 c1235
          refine ⟨fun c1281 => ?_, fun c1281 => ?_⟩
          · replace c1281 := c_le lit_8 tx6_3v535 c1281
            unfold pX7_valueOf_151
            refine ⟨fun c1282 => ?_, fun c1282 => ?_⟩
            · replace c1282 := c_neq tx6_3v535 lit_16 c1282
              unfold pX7_valueOf_188
              refine ⟨fun c1283 => ?_, fun c1283 => ?_⟩
              · replace c1283 := c_lt tx4 lit_1 c1283
                unfold pX7_valueOf_225
                obtain ⟨z1284, t1285, f1286⟩ := t_add tx5 lit_1
                first | replace f1286 := f1286 (by omega) | clear f1286
                intro x5_1v562 ex5_1v562
                have tx5_1v562 : Ti x5_1v562 z1284 := by rw [ex5_1v562]; exact t1285
                exact ih _ _ _ _ _ _ _ tx3 tx4 tx5_1v562 hI (by omega) (by omega) (by omega) (by omega)
              · replace c1283 := c_nlt tx4 lit_1 c1283
                obtain ⟨z1287, t1288, f1289⟩ := t_add tx4 lit_m1
                first | replace f1289 := f1289 (by omega) | clear f1289
                intro x4_2v558 ex4_2v558
                have tx4_2v558 : Ti x4_2v558 z1287 := by rw [ex4_2v558]; exact t1288
                refine ⟨vp_of tx4_2v558 (by omega) (by omega), ?_⟩
                obtain ⟨z1290, t1291, f1292⟩ := t_add tx4_2v558 lit_1
                first | replace f1292 := f1292 (by omega) | clear f1292
                refine ⟨vp_of t1291 (by omega) (by omega), ?_⟩
                obtain ⟨z1293, t1294⟩ := t_any (w.2.1 ((rl b) + 13) x4_2v558.toNatClampNeg)
                obtain ⟨z1295, t1296⟩ := t_any (w.2.1 ((rl b) + 13) (x4_2v558 + (1 : Int32)).toNatClampNeg)
                refine sX7_join   (hI := hI) (tx0 := tx6_3v535) (tx1 := t1294) (tx2 := t1296)  (hp := fun r_3v559 zr_3v559 tr_3v559 => ?_)
                refine ⟨vp_of tx4_2v558 (by omega) (by omega), ?_⟩
                intro w_5v563 ew_5v563
                have hIw_5v563 := ixs_A hI ew_5v563 (by have q := rl_or b; omega)
                unfold pX7_valueOf_225
                obtain ⟨z1297, t1298, f1299⟩ := t_add tx5 lit_1
                first | replace f1299 := f1299 (by omega) | clear f1299
                intro x5_1v564 ex5_1v564
                have tx5_1v564 : Ti x5_1v564 z1297 := by rw [ex5_1v564]; exact t1298
                exact ih _ _ _ _ _ _ _ tx3 tx4_2v558 tx5_1v564 hIw_5v563 (by omega) (by omega) (by omega) (by omega)
            · replace c1282 := c_eq tx6_3v535 lit_16 c1282
              refine ⟨fun c1300 => ?_, fun c1300 => ?_⟩
              · replace c1300 := c_lt tx4 lit_0 c1300
                unfold pX7_valueOf_188
                refine ⟨fun c1301 => ?_, fun c1301 => ?_⟩
                · replace c1301 := c_lt tx4 lit_1 c1301
                  unfold pX7_valueOf_225
                  obtain ⟨z1302, t1303, f1304⟩ := t_add tx5 lit_1
                  first | replace f1304 := f1304 (by omega) | clear f1304
                  intro x5_1v569 ex5_1v569
                  have tx5_1v569 : Ti x5_1v569 z1302 := by rw [ex5_1v569]; exact t1303
                  exact ih _ _ _ _ _ _ _ tx3 tx4 tx5_1v569 hI (by omega) (by omega) (by omega) (by omega)
                · replace c1301 := c_nlt tx4 lit_1 c1301
                  obtain ⟨z1305, t1306, f1307⟩ := t_add tx4 lit_m1
                  first | replace f1307 := f1307 (by omega) | clear f1307
                  intro x4_2v565 ex4_2v565
                  have tx4_2v565 : Ti x4_2v565 z1305 := by rw [ex4_2v565]; exact t1306
                  refine ⟨vp_of tx4_2v565 (by omega) (by omega), ?_⟩
                  obtain ⟨z1308, t1309, f1310⟩ := t_add tx4_2v565 lit_1
                  first | replace f1310 := f1310 (by omega) | clear f1310
                  refine ⟨vp_of t1309 (by omega) (by omega), ?_⟩
                  obtain ⟨z1311, t1312⟩ := t_any (w.2.1 ((rl b) + 13) x4_2v565.toNatClampNeg)
                  obtain ⟨z1313, t1314⟩ := t_any (w.2.1 ((rl b) + 13) (x4_2v565 + (1 : Int32)).toNatClampNeg)
                  refine sX7_join   (hI := hI) (tx0 := tx6_3v535) (tx1 := t1312) (tx2 := t1314)  (hp := fun r_3v566 zr_3v566 tr_3v566 => ?_)
                  refine ⟨vp_of tx4_2v565 (by omega) (by omega), ?_⟩
                  intro w_5v570 ew_5v570
                  have hIw_5v570 := ixs_A hI ew_5v570 (by have q := rl_or b; omega)
                  unfold pX7_valueOf_225
                  obtain ⟨z1315, t1316, f1317⟩ := t_add tx5 lit_1
                  first | replace f1317 := f1317 (by omega) | clear f1317
                  intro x5_1v571 ex5_1v571
                  have tx5_1v571 : Ti x5_1v571 z1315 := by rw [ex5_1v571]; exact t1316
                  exact ih _ _ _ _ _ _ _ tx3 tx4_2v565 tx5_1v571 hIw_5v570 (by omega) (by omega) (by omega) (by omega)
              · replace c1300 := c_nlt tx4 lit_0 c1300
                refine ⟨vp_of tx4 (by omega) (by omega), ?_⟩
                obtain ⟨z1318, t1319⟩ := t_any (w.2.1 ((rl b) + 13) x4.toNatClampNeg)
                refine ⟨fun c1320 => ?_, fun c1320 => ?_⟩
                · replace c1320 := c_neq t1319 lit_0 c1320
                  unfold pX7_valueOf_184
                  refine ⟨vp_of tx4 (by omega) (by omega), ?_⟩
                  intro w_1v572 ew_1v572
                  have hIw_1v572 := ixs_A hI ew_1v572 (by have q := rl_or b; omega)
                  unfold pX7_valueOf_225
                  obtain ⟨z1321, t1322, f1323⟩ := t_add tx5 lit_1
                  first | replace f1323 := f1323 (by omega) | clear f1323
                  intro x5_1v573 ex5_1v573
                  have tx5_1v573 : Ti x5_1v573 z1321 := by rw [ex5_1v573]; exact t1322
                  exact ih _ _ _ _ _ _ _ tx3 tx4 tx5_1v573 hIw_1v572 (by omega) (by omega) (by omega) (by omega)
                · replace c1320 := c_eq t1319 lit_0 c1320
                  unfold pX7_valueOf_184
                  refine ⟨vp_of tx4 (by omega) (by omega), ?_⟩
                  intro w_1v574 ew_1v574
                  have hIw_1v574 := ixs_A hI ew_1v574 (by have q := rl_or b; omega)
                  unfold pX7_valueOf_225
                  obtain ⟨z1324, t1325, f1326⟩ := t_add tx5 lit_1
                  first | replace f1326 := f1326 (by omega) | clear f1326
                  intro x5_1v575 ex5_1v575
                  have tx5_1v575 : Ti x5_1v575 z1324 := by rw [ex5_1v575]; exact t1325
                  exact ih _ _ _ _ _ _ _ tx3 tx4 tx5_1v575 hIw_1v574 (by omega) (by omega) (by omega) (by omega)
          · replace c1281 := c_nle lit_8 tx6_3v535 c1281
            obtain ⟨z1327, t1328, f1329⟩ := t_sub lit_32 lit_1
            first | replace f1329 := f1329 (by omega) | clear f1329
            refine ⟨fun c1330 => ?_, fun c1330 => ?_⟩
            · replace c1330 := c_le t1328 tx4 c1330
              unfold pX7_valueOf_151
              refine ⟨fun c1331 => ?_, fun c1331 => ?_⟩
              · replace c1331 := c_neq tx6_3v535 lit_16 c1331
                unfold pX7_valueOf_188
                refine ⟨fun c1332 => ?_, fun c1332 => ?_⟩
                · replace c1332 := c_lt tx4 lit_1 c1332
                  unfold pX7_valueOf_225
                  obtain ⟨z1333, t1334, f1335⟩ := t_add tx5 lit_1
                  first | replace f1335 := f1335 (by omega) | clear f1335
                  intro x5_1v580 ex5_1v580
                  have tx5_1v580 : Ti x5_1v580 z1333 := by rw [ex5_1v580]; exact t1334
                  exact ih _ _ _ _ _ _ _ tx3 tx4 tx5_1v580 hI (by omega) (by omega) (by omega) (by omega)
                · replace c1332 := c_nlt tx4 lit_1 c1332
                  obtain ⟨z1336, t1337, f1338⟩ := t_add tx4 lit_m1
                  first | replace f1338 := f1338 (by omega) | clear f1338
                  intro x4_2v576 ex4_2v576
                  have tx4_2v576 : Ti x4_2v576 z1336 := by rw [ex4_2v576]; exact t1337
                  refine ⟨vp_of tx4_2v576 (by omega) (by omega), ?_⟩
                  obtain ⟨z1339, t1340, f1341⟩ := t_add tx4_2v576 lit_1
                  first | replace f1341 := f1341 (by omega) | clear f1341
                  refine ⟨vp_of t1340 (by omega) (by omega), ?_⟩
                  obtain ⟨z1342, t1343⟩ := t_any (w.2.1 ((rl b) + 13) x4_2v576.toNatClampNeg)
                  obtain ⟨z1344, t1345⟩ := t_any (w.2.1 ((rl b) + 13) (x4_2v576 + (1 : Int32)).toNatClampNeg)
                  refine sX7_join   (hI := hI) (tx0 := tx6_3v535) (tx1 := t1343) (tx2 := t1345)  (hp := fun r_3v577 zr_3v577 tr_3v577 => ?_)
                  refine ⟨vp_of tx4_2v576 (by omega) (by omega), ?_⟩
                  intro w_5v581 ew_5v581
                  have hIw_5v581 := ixs_A hI ew_5v581 (by have q := rl_or b; omega)
                  unfold pX7_valueOf_225
                  obtain ⟨z1346, t1347, f1348⟩ := t_add tx5 lit_1
                  first | replace f1348 := f1348 (by omega) | clear f1348
                  intro x5_1v582 ex5_1v582
                  have tx5_1v582 : Ti x5_1v582 z1346 := by rw [ex5_1v582]; exact t1347
                  exact ih _ _ _ _ _ _ _ tx3 tx4_2v576 tx5_1v582 hIw_5v581 (by omega) (by omega) (by omega) (by omega)
              · replace c1331 := c_eq tx6_3v535 lit_16 c1331
                refine ⟨fun c1349 => ?_, fun c1349 => ?_⟩
                · replace c1349 := c_lt tx4 lit_0 c1349
                  unfold pX7_valueOf_188
                  refine ⟨fun c1350 => ?_, fun c1350 => ?_⟩
                  · replace c1350 := c_lt tx4 lit_1 c1350
                    unfold pX7_valueOf_225
                    obtain ⟨z1351, t1352, f1353⟩ := t_add tx5 lit_1
                    first | replace f1353 := f1353 (by omega) | clear f1353
                    intro x5_1v587 ex5_1v587
                    have tx5_1v587 : Ti x5_1v587 z1351 := by rw [ex5_1v587]; exact t1352
                    exact ih _ _ _ _ _ _ _ tx3 tx4 tx5_1v587 hI (by omega) (by omega) (by omega) (by omega)
                  · replace c1350 := c_nlt tx4 lit_1 c1350
                    obtain ⟨z1354, t1355, f1356⟩ := t_add tx4 lit_m1
                    first | replace f1356 := f1356 (by omega) | clear f1356
                    intro x4_2v583 ex4_2v583
                    have tx4_2v583 : Ti x4_2v583 z1354 := by rw [ex4_2v583]; exact t1355
                    refine ⟨vp_of tx4_2v583 (by omega) (by omega), ?_⟩
                    obtain ⟨z1357, t1358, f1359⟩ := t_add tx4_2v583 lit_1
                    first | replace f1359 := f1359 (by omega) | clear f1359
                    refine ⟨vp_of t1358 (by omega) (by omega), ?_⟩
                    obtain ⟨z1360, t1361⟩ := t_any (w.2.1 ((rl b) + 13) x4_2v583.toNatClampNeg)
                    obtain ⟨z1362, t1363⟩ := t_any (w.2.1 ((rl b) + 13) (x4_2v583 + (1 : Int32)).toNatClampNeg)
                    refine sX7_join   (hI := hI) (tx0 := tx6_3v535) (tx1 := t1361) (tx2 := t1363)  (hp := fun r_3v584 zr_3v584 tr_3v584 => ?_)
                    refine ⟨vp_of tx4_2v583 (by omega) (by omega), ?_⟩
                    intro w_5v588 ew_5v588
                    have hIw_5v588 := ixs_A hI ew_5v588 (by have q := rl_or b; omega)
                    unfold pX7_valueOf_225
                    obtain ⟨z1364, t1365, f1366⟩ := t_add tx5 lit_1
                    first | replace f1366 := f1366 (by omega) | clear f1366
                    intro x5_1v589 ex5_1v589
                    have tx5_1v589 : Ti x5_1v589 z1364 := by rw [ex5_1v589]; exact t1365
                    exact ih _ _ _ _ _ _ _ tx3 tx4_2v583 tx5_1v589 hIw_5v588 (by omega) (by omega) (by omega) (by omega)
                · replace c1349 := c_nlt tx4 lit_0 c1349
                  refine ⟨vp_of tx4 (by omega) (by omega), ?_⟩
                  obtain ⟨z1367, t1368⟩ := t_any (w.2.1 ((rl b) + 13) x4.toNatClampNeg)
                  refine ⟨fun c1369 => ?_, fun c1369 => ?_⟩
                  · replace c1369 := c_neq t1368 lit_0 c1369
                    unfold pX7_valueOf_184
                    refine ⟨vp_of tx4 (by omega) (by omega), ?_⟩
                    intro w_1v590 ew_1v590
                    have hIw_1v590 := ixs_A hI ew_1v590 (by have q := rl_or b; omega)
                    unfold pX7_valueOf_225
                    obtain ⟨z1370, t1371, f1372⟩ := t_add tx5 lit_1
                    first | replace f1372 := f1372 (by omega) | clear f1372
                    intro x5_1v591 ex5_1v591
                    have tx5_1v591 : Ti x5_1v591 z1370 := by rw [ex5_1v591]; exact t1371
                    exact ih _ _ _ _ _ _ _ tx3 tx4 tx5_1v591 hIw_1v590 (by omega) (by omega) (by omega) (by omega)
                  · replace c1369 := c_eq t1368 lit_0 c1369
                    unfold pX7_valueOf_184
                    refine ⟨vp_of tx4 (by omega) (by omega), ?_⟩
                    intro w_1v592 ew_1v592
                    have hIw_1v592 := ixs_A hI ew_1v592 (by have q := rl_or b; omega)
                    unfold pX7_valueOf_225
                    obtain ⟨z1373, t1374, f1375⟩ := t_add tx5 lit_1
                    first | replace f1375 := f1375 (by omega) | clear f1375
                    intro x5_1v593 ex5_1v593
                    have tx5_1v593 : Ti x5_1v593 z1373 := by rw [ex5_1v593]; exact t1374
                    exact ih _ _ _ _ _ _ _ tx3 tx4 tx5_1v593 hIw_1v592 (by omega) (by omega) (by omega) (by omega)
            · replace c1330 := c_nle t1328 tx4 c1330
              obtain ⟨z1376, t1377, f1378⟩ := t_add tx4 lit_1
              first | replace f1378 := f1378 (by omega) | clear f1378
              intro x4_4v538 ex4_4v538
              have tx4_4v538 : Ti x4_4v538 z1376 := by rw [ex4_4v538]; exact t1377
              refine ⟨vp_of tx6_3v535 (by omega) (by omega), ?_⟩
              refine ⟨vp_of tx4_4v538 (by omega) (by omega), ?_⟩
              intro w_5v539 ew_5v539
              have hIw_5v539 := ixs_A hI ew_5v539 (by have q := rl_or b; omega)
              unfold pX7_valueOf_225
              obtain ⟨z1379, t1380, f1381⟩ := t_add tx5 lit_1
              first | replace f1381 := f1381 (by omega) | clear f1381
              intro x5_1v594 ex5_1v594
              have tx5_1v594 : Ti x5_1v594 z1379 := by rw [ex5_1v594]; exact t1380
              exact ih _ _ _ _ _ _ _ tx3 tx4_4v538 tx5_1v594 hIw_5v539 (by omega) (by omega) (by omega) (by omega)
      · replace c1234 := c_nlt tx6_3v535 lit_128 c1234
        obtain ⟨z1382, t1383, f1384⟩ := t_sub lit_32 lit_1
        first | replace f1384 := f1384 (by omega) | clear f1384
        refine ⟨fun c1385 => ?_, fun c1385 => ?_⟩
        · replace c1385 := c_le t1383 tx4 c1385
          unfold pX7_valueOf_110
          refine ⟨fun c1386 => ?_, fun c1386 => ?_⟩
          · replace c1386 := c_lt tx6_3v535 lit_0 c1386
            unfold pX7_valueOf_151
            refine ⟨fun c1387 => ?_, fun c1387 => ?_⟩
            · replace c1387 := c_neq tx6_3v535 lit_16 c1387
              unfold pX7_valueOf_188
              refine ⟨fun c1388 => ?_, fun c1388 => ?_⟩
              · replace c1388 := c_lt tx4 lit_1 c1388
                unfold pX7_valueOf_225
                obtain ⟨z1389, t1390, f1391⟩ := t_add tx5 lit_1
                first | replace f1391 := f1391 (by omega) | clear f1391
                intro x5_1v601 ex5_1v601
                have tx5_1v601 : Ti x5_1v601 z1389 := by rw [ex5_1v601]; exact t1390
                exact ih _ _ _ _ _ _ _ tx3 tx4 tx5_1v601 hI (by omega) (by omega) (by omega) (by omega)
              · replace c1388 := c_nlt tx4 lit_1 c1388
                obtain ⟨z1392, t1393, f1394⟩ := t_add tx4 lit_m1
                first | replace f1394 := f1394 (by omega) | clear f1394
                intro x4_2v597 ex4_2v597
                have tx4_2v597 : Ti x4_2v597 z1392 := by rw [ex4_2v597]; exact t1393
                refine ⟨vp_of tx4_2v597 (by omega) (by omega), ?_⟩
                obtain ⟨z1395, t1396, f1397⟩ := t_add tx4_2v597 lit_1
                first | replace f1397 := f1397 (by omega) | clear f1397
                refine ⟨vp_of t1396 (by omega) (by omega), ?_⟩
                obtain ⟨z1398, t1399⟩ := t_any (w.2.1 ((rl b) + 13) x4_2v597.toNatClampNeg)
                obtain ⟨z1400, t1401⟩ := t_any (w.2.1 ((rl b) + 13) (x4_2v597 + (1 : Int32)).toNatClampNeg)
                refine sX7_join   (hI := hI) (tx0 := tx6_3v535) (tx1 := t1399) (tx2 := t1401)  (hp := fun r_3v598 zr_3v598 tr_3v598 => ?_)
                refine ⟨vp_of tx4_2v597 (by omega) (by omega), ?_⟩
                intro w_5v602 ew_5v602
                have hIw_5v602 := ixs_A hI ew_5v602 (by have q := rl_or b; omega)
                unfold pX7_valueOf_225
                obtain ⟨z1402, t1403, f1404⟩ := t_add tx5 lit_1
                first | replace f1404 := f1404 (by omega) | clear f1404
                intro x5_1v603 ex5_1v603
                have tx5_1v603 : Ti x5_1v603 z1402 := by rw [ex5_1v603]; exact t1403
                exact ih _ _ _ _ _ _ _ tx3 tx4_2v597 tx5_1v603 hIw_5v602 (by omega) (by omega) (by omega) (by omega)
            · replace c1387 := c_eq tx6_3v535 lit_16 c1387
              refine ⟨fun c1405 => ?_, fun c1405 => ?_⟩
              · replace c1405 := c_lt tx4 lit_0 c1405
                unfold pX7_valueOf_188
                refine ⟨fun c1406 => ?_, fun c1406 => ?_⟩
                · replace c1406 := c_lt tx4 lit_1 c1406
                  unfold pX7_valueOf_225
                  obtain ⟨z1407, t1408, f1409⟩ := t_add tx5 lit_1
                  first | replace f1409 := f1409 (by omega) | clear f1409
                  intro x5_1v608 ex5_1v608
                  have tx5_1v608 : Ti x5_1v608 z1407 := by rw [ex5_1v608]; exact t1408
                  exact ih _ _ _ _ _ _ _ tx3 tx4 tx5_1v608 hI (by omega) (by omega) (by omega) (by omega)
                · replace c1406 := c_nlt tx4 lit_1 c1406
                  obtain ⟨z1410, t1411, f1412⟩ := t_add tx4 lit_m1
                  first | replace f1412 := f1412 (by omega) | clear f1412
                  intro x4_2v604 ex4_2v604
                  have tx4_2v604 : Ti x4_2v604 z1410 := by rw [ex4_2v604]; exact t1411
                  refine ⟨vp_of tx4_2v604 (by omega) (by omega), ?_⟩
                  obtain ⟨z1413, t1414, f1415⟩ := t_add tx4_2v604 lit_1
                  first | replace f1415 := f1415 (by omega) | clear f1415
                  refine ⟨vp_of t1414 (by omega) (by omega), ?_⟩
                  obtain ⟨z1416, t1417⟩ := t_any (w.2.1 ((rl b) + 13) x4_2v604.toNatClampNeg)
                  obtain ⟨z1418, t1419⟩ := t_any (w.2.1 ((rl b) + 13) (x4_2v604 + (1 : Int32)).toNatClampNeg)
                  refine sX7_join   (hI := hI) (tx0 := tx6_3v535) (tx1 := t1417) (tx2 := t1419)  (hp := fun r_3v605 zr_3v605 tr_3v605 => ?_)
                  refine ⟨vp_of tx4_2v604 (by omega) (by omega), ?_⟩
                  intro w_5v609 ew_5v609
                  have hIw_5v609 := ixs_A hI ew_5v609 (by have q := rl_or b; omega)
                  unfold pX7_valueOf_225
                  obtain ⟨z1420, t1421, f1422⟩ := t_add tx5 lit_1
                  first | replace f1422 := f1422 (by omega) | clear f1422
                  intro x5_1v610 ex5_1v610
                  have tx5_1v610 : Ti x5_1v610 z1420 := by rw [ex5_1v610]; exact t1421
                  exact ih _ _ _ _ _ _ _ tx3 tx4_2v604 tx5_1v610 hIw_5v609 (by omega) (by omega) (by omega) (by omega)
              · replace c1405 := c_nlt tx4 lit_0 c1405
                refine ⟨vp_of tx4 (by omega) (by omega), ?_⟩
                obtain ⟨z1423, t1424⟩ := t_any (w.2.1 ((rl b) + 13) x4.toNatClampNeg)
                refine ⟨fun c1425 => ?_, fun c1425 => ?_⟩
                · replace c1425 := c_neq t1424 lit_0 c1425
                  unfold pX7_valueOf_184
                  refine ⟨vp_of tx4 (by omega) (by omega), ?_⟩
                  intro w_1v611 ew_1v611
                  have hIw_1v611 := ixs_A hI ew_1v611 (by have q := rl_or b; omega)
                  unfold pX7_valueOf_225
                  obtain ⟨z1426, t1427, f1428⟩ := t_add tx5 lit_1
                  first | replace f1428 := f1428 (by omega) | clear f1428
                  intro x5_1v612 ex5_1v612
                  have tx5_1v612 : Ti x5_1v612 z1426 := by rw [ex5_1v612]; exact t1427
                  exact ih _ _ _ _ _ _ _ tx3 tx4 tx5_1v612 hIw_1v611 (by omega) (by omega) (by omega) (by omega)
                · replace c1425 := c_eq t1424 lit_0 c1425
                  unfold pX7_valueOf_184
                  refine ⟨vp_of tx4 (by omega) (by omega), ?_⟩
                  intro w_1v613 ew_1v613
                  have hIw_1v613 := ixs_A hI ew_1v613 (by have q := rl_or b; omega)
                  unfold pX7_valueOf_225
                  obtain ⟨z1429, t1430, f1431⟩ := t_add tx5 lit_1
                  first | replace f1431 := f1431 (by omega) | clear f1431
                  intro x5_1v614 ex5_1v614
                  have tx5_1v614 : Ti x5_1v614 z1429 := by rw [ex5_1v614]; exact t1430
                  exact ih _ _ _ _ _ _ _ tx3 tx4 tx5_1v614 hIw_1v613 (by omega) (by omega) (by omega) (by omega)
          · replace c1386 := c_nlt tx6_3v535 lit_0 c1386
            refine ⟨fun c1432 => ?_, fun c1432 => ?_⟩
            · replace c1432 := c_le lit_8 tx6_3v535 c1432
              unfold pX7_valueOf_151
              refine ⟨fun c1433 => ?_, fun c1433 => ?_⟩
              · replace c1433 := c_neq tx6_3v535 lit_16 c1433
                unfold pX7_valueOf_188
                refine ⟨fun c1434 => ?_, fun c1434 => ?_⟩
                · replace c1434 := c_lt tx4 lit_1 c1434
                  unfold pX7_valueOf_225
                  obtain ⟨z1435, t1436, f1437⟩ := t_add tx5 lit_1
                  first | replace f1437 := f1437 (by omega) | clear f1437
                  intro x5_1v619 ex5_1v619
                  have tx5_1v619 : Ti x5_1v619 z1435 := by rw [ex5_1v619]; exact t1436
                  exact ih _ _ _ _ _ _ _ tx3 tx4 tx5_1v619 hI (by omega) (by omega) (by omega) (by omega)
                · replace c1434 := c_nlt tx4 lit_1 c1434
                  obtain ⟨z1438, t1439, f1440⟩ := t_add tx4 lit_m1
                  first | replace f1440 := f1440 (by omega) | clear f1440
                  intro x4_2v615 ex4_2v615
                  have tx4_2v615 : Ti x4_2v615 z1438 := by rw [ex4_2v615]; exact t1439
                  refine ⟨vp_of tx4_2v615 (by omega) (by omega), ?_⟩
                  obtain ⟨z1441, t1442, f1443⟩ := t_add tx4_2v615 lit_1
                  first | replace f1443 := f1443 (by omega) | clear f1443
                  refine ⟨vp_of t1442 (by omega) (by omega), ?_⟩
                  obtain ⟨z1444, t1445⟩ := t_any (w.2.1 ((rl b) + 13) x4_2v615.toNatClampNeg)
                  obtain ⟨z1446, t1447⟩ := t_any (w.2.1 ((rl b) + 13) (x4_2v615 + (1 : Int32)).toNatClampNeg)
                  refine sX7_join   (hI := hI) (tx0 := tx6_3v535) (tx1 := t1445) (tx2 := t1447)  (hp := fun r_3v616 zr_3v616 tr_3v616 => ?_)
                  refine ⟨vp_of tx4_2v615 (by omega) (by omega), ?_⟩
                  intro w_5v620 ew_5v620
                  have hIw_5v620 := ixs_A hI ew_5v620 (by have q := rl_or b; omega)
                  unfold pX7_valueOf_225
                  obtain ⟨z1448, t1449, f1450⟩ := t_add tx5 lit_1
                  first | replace f1450 := f1450 (by omega) | clear f1450
                  intro x5_1v621 ex5_1v621
                  have tx5_1v621 : Ti x5_1v621 z1448 := by rw [ex5_1v621]; exact t1449
                  exact ih _ _ _ _ _ _ _ tx3 tx4_2v615 tx5_1v621 hIw_5v620 (by omega) (by omega) (by omega) (by omega)
              · replace c1433 := c_eq tx6_3v535 lit_16 c1433
                refine ⟨fun c1451 => ?_, fun c1451 => ?_⟩
                · replace c1451 := c_lt tx4 lit_0 c1451
                  unfold pX7_valueOf_188
                  refine ⟨fun c1452 => ?_, fun c1452 => ?_⟩
                  · replace c1452 := c_lt tx4 lit_1 c1452
                    unfold pX7_valueOf_225
                    obtain ⟨z1453, t1454, f1455⟩ := t_add tx5 lit_1
                    first | replace f1455 := f1455 (by omega) | clear f1455
                    intro x5_1v626 ex5_1v626
                    have tx5_1v626 : Ti x5_1v626 z1453 := by rw [ex5_1v626]; exact t1454
                    exact ih _ _ _ _ _ _ _ tx3 tx4 tx5_1v626 hI (by omega) (by omega) (by omega) (by omega)
                  · replace c1452 := c_nlt tx4 lit_1 c1452
                    obtain ⟨z1456, t1457, f1458⟩ := t_add tx4 lit_m1
                    first | replace f1458 := f1458 (by omega) | clear f1458
                    intro x4_2v622 ex4_2v622
                    have tx4_2v622 : Ti x4_2v622 z1456 := by rw [ex4_2v622]; exact t1457
                    refine ⟨vp_of tx4_2v622 (by omega) (by omega), ?_⟩
                    obtain ⟨z1459, t1460, f1461⟩ := t_add tx4_2v622 lit_1
                    first | replace f1461 := f1461 (by omega) | clear f1461
                    refine ⟨vp_of t1460 (by omega) (by omega), ?_⟩
                    obtain ⟨z1462, t1463⟩ := t_any (w.2.1 ((rl b) + 13) x4_2v622.toNatClampNeg)
                    obtain ⟨z1464, t1465⟩ := t_any (w.2.1 ((rl b) + 13) (x4_2v622 + (1 : Int32)).toNatClampNeg)
                    refine sX7_join   (hI := hI) (tx0 := tx6_3v535) (tx1 := t1463) (tx2 := t1465)  (hp := fun r_3v623 zr_3v623 tr_3v623 => ?_)
                    refine ⟨vp_of tx4_2v622 (by omega) (by omega), ?_⟩
                    intro w_5v627 ew_5v627
                    have hIw_5v627 := ixs_A hI ew_5v627 (by have q := rl_or b; omega)
                    unfold pX7_valueOf_225
                    obtain ⟨z1466, t1467, f1468⟩ := t_add tx5 lit_1
                    first | replace f1468 := f1468 (by omega) | clear f1468
                    intro x5_1v628 ex5_1v628
                    have tx5_1v628 : Ti x5_1v628 z1466 := by rw [ex5_1v628]; exact t1467
                    exact ih _ _ _ _ _ _ _ tx3 tx4_2v622 tx5_1v628 hIw_5v627 (by omega) (by omega) (by omega) (by omega)
                · replace c1451 := c_nlt tx4 lit_0 c1451
                  refine ⟨vp_of tx4 (by omega) (by omega), ?_⟩
                  obtain ⟨z1469, t1470⟩ := t_any (w.2.1 ((rl b) + 13) x4.toNatClampNeg)
                  refine ⟨fun c1471 => ?_, fun c1471 => ?_⟩
                  · replace c1471 := c_neq t1470 lit_0 c1471
                    unfold pX7_valueOf_184
                    refine ⟨vp_of tx4 (by omega) (by omega), ?_⟩
                    intro w_1v629 ew_1v629
                    have hIw_1v629 := ixs_A hI ew_1v629 (by have q := rl_or b; omega)
                    unfold pX7_valueOf_225
                    obtain ⟨z1472, t1473, f1474⟩ := t_add tx5 lit_1
                    first | replace f1474 := f1474 (by omega) | clear f1474
                    intro x5_1v630 ex5_1v630
                    have tx5_1v630 : Ti x5_1v630 z1472 := by rw [ex5_1v630]; exact t1473
                    exact ih _ _ _ _ _ _ _ tx3 tx4 tx5_1v630 hIw_1v629 (by omega) (by omega) (by omega) (by omega)
                  · replace c1471 := c_eq t1470 lit_0 c1471
                    unfold pX7_valueOf_184
                    refine ⟨vp_of tx4 (by omega) (by omega), ?_⟩
                    intro w_1v631 ew_1v631
                    have hIw_1v631 := ixs_A hI ew_1v631 (by have q := rl_or b; omega)
                    unfold pX7_valueOf_225
                    obtain ⟨z1475, t1476, f1477⟩ := t_add tx5 lit_1
                    first | replace f1477 := f1477 (by omega) | clear f1477
                    intro x5_1v632 ex5_1v632
                    have tx5_1v632 : Ti x5_1v632 z1475 := by rw [ex5_1v632]; exact t1476
                    exact ih _ _ _ _ _ _ _ tx3 tx4 tx5_1v632 hIw_1v631 (by omega) (by omega) (by omega) (by omega)
            · replace c1432 := c_nle lit_8 tx6_3v535 c1432
              refine ⟨fun c1478 => ?_, fun c1478 => ?_⟩
              · replace c1478 := c_le t1383 tx4 c1478
                unfold pX7_valueOf_151
                refine ⟨fun c1479 => ?_, fun c1479 => ?_⟩
                · replace c1479 := c_neq tx6_3v535 lit_16 c1479
                  unfold pX7_valueOf_188
                  refine ⟨fun c1480 => ?_, fun c1480 => ?_⟩
                  · replace c1480 := c_lt tx4 lit_1 c1480
                    unfold pX7_valueOf_225
                    obtain ⟨z1481, t1482, f1483⟩ := t_add tx5 lit_1
                    first | replace f1483 := f1483 (by omega) | clear f1483
                    intro x5_1v637 ex5_1v637
                    have tx5_1v637 : Ti x5_1v637 z1481 := by rw [ex5_1v637]; exact t1482
                    exact ih _ _ _ _ _ _ _ tx3 tx4 tx5_1v637 hI (by omega) (by omega) (by omega) (by omega)
                  · replace c1480 := c_nlt tx4 lit_1 c1480
                    obtain ⟨z1484, t1485, f1486⟩ := t_add tx4 lit_m1
                    first | replace f1486 := f1486 (by omega) | clear f1486
                    intro x4_2v633 ex4_2v633
                    have tx4_2v633 : Ti x4_2v633 z1484 := by rw [ex4_2v633]; exact t1485
                    refine ⟨vp_of tx4_2v633 (by omega) (by omega), ?_⟩
                    obtain ⟨z1487, t1488, f1489⟩ := t_add tx4_2v633 lit_1
                    first | replace f1489 := f1489 (by omega) | clear f1489
                    refine ⟨vp_of t1488 (by omega) (by omega), ?_⟩
                    obtain ⟨z1490, t1491⟩ := t_any (w.2.1 ((rl b) + 13) x4_2v633.toNatClampNeg)
                    obtain ⟨z1492, t1493⟩ := t_any (w.2.1 ((rl b) + 13) (x4_2v633 + (1 : Int32)).toNatClampNeg)
                    refine sX7_join   (hI := hI) (tx0 := tx6_3v535) (tx1 := t1491) (tx2 := t1493)  (hp := fun r_3v634 zr_3v634 tr_3v634 => ?_)
                    refine ⟨vp_of tx4_2v633 (by omega) (by omega), ?_⟩
                    intro w_5v638 ew_5v638
                    have hIw_5v638 := ixs_A hI ew_5v638 (by have q := rl_or b; omega)
                    unfold pX7_valueOf_225
                    obtain ⟨z1494, t1495, f1496⟩ := t_add tx5 lit_1
                    first | replace f1496 := f1496 (by omega) | clear f1496
                    intro x5_1v639 ex5_1v639
                    have tx5_1v639 : Ti x5_1v639 z1494 := by rw [ex5_1v639]; exact t1495
                    exact ih _ _ _ _ _ _ _ tx3 tx4_2v633 tx5_1v639 hIw_5v638 (by omega) (by omega) (by omega) (by omega)
                · replace c1479 := c_eq tx6_3v535 lit_16 c1479
                  refine ⟨fun c1497 => ?_, fun c1497 => ?_⟩
                  · replace c1497 := c_lt tx4 lit_0 c1497
                    unfold pX7_valueOf_188
                    refine ⟨fun c1498 => ?_, fun c1498 => ?_⟩
                    · replace c1498 := c_lt tx4 lit_1 c1498
                      unfold pX7_valueOf_225
                      obtain ⟨z1499, t1500, f1501⟩ := t_add tx5 lit_1
                      first | replace f1501 := f1501 (by omega) | clear f1501
                      intro x5_1v644 ex5_1v644
                      have tx5_1v644 : Ti x5_1v644 z1499 := by rw [ex5_1v644]; exact t1500
                      exact ih _ _ _ _ _ _ _ tx3 tx4 tx5_1v644 hI (by omega) (by omega) (by omega) (by omega)
                    · replace c1498 := c_nlt tx4 lit_1 c1498
                      obtain ⟨z1502, t1503, f1504⟩ := t_add tx4 lit_m1
                      first | replace f1504 := f1504 (by omega) | clear f1504
                      intro x4_2v640 ex4_2v640
                      have tx4_2v640 : Ti x4_2v640 z1502 := by rw [ex4_2v640]; exact t1503
                      refine ⟨vp_of tx4_2v640 (by omega) (by omega), ?_⟩
                      obtain ⟨z1505, t1506, f1507⟩ := t_add tx4_2v640 lit_1
                      first | replace f1507 := f1507 (by omega) | clear f1507
                      refine ⟨vp_of t1506 (by omega) (by omega), ?_⟩
                      obtain ⟨z1508, t1509⟩ := t_any (w.2.1 ((rl b) + 13) x4_2v640.toNatClampNeg)
                      obtain ⟨z1510, t1511⟩ := t_any (w.2.1 ((rl b) + 13) (x4_2v640 + (1 : Int32)).toNatClampNeg)
                      refine sX7_join   (hI := hI) (tx0 := tx6_3v535) (tx1 := t1509) (tx2 := t1511)  (hp := fun r_3v641 zr_3v641 tr_3v641 => ?_)
                      refine ⟨vp_of tx4_2v640 (by omega) (by omega), ?_⟩
                      intro w_5v645 ew_5v645
                      have hIw_5v645 := ixs_A hI ew_5v645 (by have q := rl_or b; omega)
                      unfold pX7_valueOf_225
                      obtain ⟨z1512, t1513, f1514⟩ := t_add tx5 lit_1
                      first | replace f1514 := f1514 (by omega) | clear f1514
                      intro x5_1v646 ex5_1v646
                      have tx5_1v646 : Ti x5_1v646 z1512 := by rw [ex5_1v646]; exact t1513
                      exact ih _ _ _ _ _ _ _ tx3 tx4_2v640 tx5_1v646 hIw_5v645 (by omega) (by omega) (by omega) (by omega)
                  · replace c1497 := c_nlt tx4 lit_0 c1497
                    refine ⟨vp_of tx4 (by omega) (by omega), ?_⟩
                    obtain ⟨z1515, t1516⟩ := t_any (w.2.1 ((rl b) + 13) x4.toNatClampNeg)
                    refine ⟨fun c1517 => ?_, fun c1517 => ?_⟩
                    · replace c1517 := c_neq t1516 lit_0 c1517
                      unfold pX7_valueOf_184
                      refine ⟨vp_of tx4 (by omega) (by omega), ?_⟩
                      intro w_1v647 ew_1v647
                      have hIw_1v647 := ixs_A hI ew_1v647 (by have q := rl_or b; omega)
                      unfold pX7_valueOf_225
                      obtain ⟨z1518, t1519, f1520⟩ := t_add tx5 lit_1
                      first | replace f1520 := f1520 (by omega) | clear f1520
                      intro x5_1v648 ex5_1v648
                      have tx5_1v648 : Ti x5_1v648 z1518 := by rw [ex5_1v648]; exact t1519
                      exact ih _ _ _ _ _ _ _ tx3 tx4 tx5_1v648 hIw_1v647 (by omega) (by omega) (by omega) (by omega)
                    · replace c1517 := c_eq t1516 lit_0 c1517
                      unfold pX7_valueOf_184
                      refine ⟨vp_of tx4 (by omega) (by omega), ?_⟩
                      intro w_1v649 ew_1v649
                      have hIw_1v649 := ixs_A hI ew_1v649 (by have q := rl_or b; omega)
                      unfold pX7_valueOf_225
                      obtain ⟨z1521, t1522, f1523⟩ := t_add tx5 lit_1
                      first | replace f1523 := f1523 (by omega) | clear f1523
                      intro x5_1v650 ex5_1v650
                      have tx5_1v650 : Ti x5_1v650 z1521 := by rw [ex5_1v650]; exact t1522
                      exact ih _ _ _ _ _ _ _ tx3 tx4 tx5_1v650 hIw_1v649 (by omega) (by omega) (by omega) (by omega)
              · replace c1478 := c_nle t1383 tx4 c1478
                obtain ⟨z1524, t1525, f1526⟩ := t_add tx4 lit_1
                first | replace f1526 := f1526 (by omega) | clear f1526
                intro x4_4v595 ex4_4v595
                have tx4_4v595 : Ti x4_4v595 z1524 := by rw [ex4_4v595]; exact t1525
                refine ⟨vp_of tx6_3v535 (by omega) (by omega), ?_⟩
                refine ⟨vp_of tx4_4v595 (by omega) (by omega), ?_⟩
                intro w_5v596 ew_5v596
                have hIw_5v596 := ixs_A hI ew_5v596 (by have q := rl_or b; omega)
                unfold pX7_valueOf_225
                obtain ⟨z1527, t1528, f1529⟩ := t_add tx5 lit_1
                first | replace f1529 := f1529 (by omega) | clear f1529
                intro x5_1v651 ex5_1v651
                have tx5_1v651 : Ti x5_1v651 z1527 := by rw [ex5_1v651]; exact t1528
                exact ih _ _ _ _ _ _ _ tx3 tx4_4v595 tx5_1v651 hIw_5v596 (by omega) (by omega) (by omega) (by omega)
        · replace c1385 := c_nle t1383 tx4 c1385
          obtain ⟨z1530, t1531, f1532⟩ := t_add tx4 lit_1
          first | replace f1532 := f1532 (by omega) | clear f1532
          intro x4_6v536 ex4_6v536
          have tx4_6v536 : Ti x4_6v536 z1530 := by rw [ex4_6v536]; exact t1531
          refine ⟨vp_of tx4_6v536 (by omega) (by omega), ?_⟩
          intro w_7v537 ew_7v537
          have hIw_7v537 := ixs_A hI ew_7v537 (by have q := rl_or b; omega)
          unfold pX7_valueOf_225
          obtain ⟨z1533, t1534, f1535⟩ := t_add tx5 lit_1
          first | replace f1535 := f1535 (by omega) | clear f1535
          intro x5_1v652 ex5_1v652
          have tx5_1v652 : Ti x5_1v652 z1533 := by rw [ex5_1v652]; exact t1534
          exact ih _ _ _ _ _ _ _ tx3 tx4_6v536 tx5_1v652 hIw_7v537 (by omega) (by omega) (by omega) (by omega)
set_option maxHeartbeats 4000000 in
set_option maxRecDepth 100000 in
theorem sX7_valueOf {T D : Int} {k : Nat} {post : Int32 → Wd → Prop} {b : Bool} {x1 : Int32} {zx1 : Int} {w : Wd}  (tx1 : Ti x1 zx1) (hI : IX k T D w)  (hp : ∀ (r : Int32) (zr : Int) (w9 : Wd), Ti r zr → IX k T D w9 → post r w9) : pX7_valueOf   post b x1 w := by
  unfold pX7_valueOf
  have hk := ix_k hI
  refine ⟨fun c1536 => ?_, fun c1536 => ?_⟩
  · replace c1536 := c_lt tx1 lit_0 c1536
    exact hp _ _ _  lit_0 hI 
  · replace c1536 := c_nlt tx1 lit_0 c1536
    obtain ⟨z1537, t1538⟩ := t_any (w.1 (rl b) 11)
    refine ⟨fun c1539 => ?_, fun c1539 => ?_⟩
    · replace c1539 := c_le t1538 tx1 c1539
      exact hp _ _ _  lit_0 hI 
    · replace c1539 := c_nle t1538 tx1 c1539
      obtain ⟨z1540, t1541, f1542⟩ := t_sub lit_9 lit_1
      first | replace f1542 := f1542 (by omega) | clear f1542
      refine ⟨fun c1543 => ?_, fun c1543 => ?_⟩
      · replace c1543 := c_lt tx1 t1541 c1543
        obtain ⟨z1544, t1545, f1546⟩ := t_add tx1 lit_1
        first | replace f1546 := f1546 (by omega) | clear f1546
        refine ⟨vp_of t1545 (by omega) (by omega), ?_⟩
        obtain ⟨z1547, t1548⟩ := t_any (w.1 (rl b) 9)
        have f1549 := ixg_r9 hI t1548
        obtain ⟨z1550, t1551⟩ := t_any (w.2.1 ((rl b) + 11) (x1 + (1 : Int32)).toNatClampNeg)
        obtain ⟨z1552, t1553, f1554⟩ := t_ite t1548 t1551 t1548 t1551
        intro x3_4v653 ex3_4v653
        have tx3_4v653 : Ti x3_4v653 z1552 := by rw [ex3_4v653]; exact t1553
        refine ⟨vp_of tx1 (by omega) (by omega), ?_⟩
        obtain ⟨z1555, t1556⟩ := t_any (w.2.1 ((rl b) + 11) x1.toNatClampNeg)
        obtain ⟨z1557, t1558, f1559⟩ := t_ite t1556 lit_0 lit_0 t1556
        intro x5_5v654 ex5_5v654
        have tx5_5v654 : Ti x5_5v654 z1557 := by rw [ex5_5v654]; exact t1558
        exact ⟨1000000002, sX7_valueOf_56   (hp := hp) 1000000002 _ _ _ _ _ _ _ tx3_4v653 lit_m1 tx5_5v654 hI (by omega) (by omega) (by omega) (by omega)⟩
      · replace c1543 := c_nlt tx1 t1541 c1543
        exact hp _ _ _  lit_0 hI 
set_option maxHeartbeats 4000000 in
set_option maxRecDepth 100000 in
theorem sX1_learn {T D : Int} {k : Nat} {post : Wd → Prop} {x1 : Int32} {zx1 : Int} {x2 : Int32} {zx2 : Int} {x3 : Int32} {zx3 : Int} {x4 : Int32} {zx4 : Int} {w : Wd}  (tx1 : Ti x1 zx1) (tx2 : Ti x2 zx2) (tx3 : Ti x3 zx3) (tx4 : Ti x4 zx4) (hI : IX k T D w)  (hp : ∀ (w9 : Wd), IX k T D w9 → post w9) : pX1_learn   post  x1 x2 x3 x4 w := by
  unfold pX1_learn
  have hk := ix_k hI
  intro w_1v655 ew_1v655
  have hIw_1v655 := ixs_A hI ew_1v655 (by decide)
  intro w_2v656 ew_2v656
  have hIw_2v656 := ixs_A hIw_1v655 ew_2v656 (by decide)
  intro w_3v657 ew_3v657
  have hIw_3v657 := ixs_A hIw_2v656 ew_3v657 (by decide)
  intro w_4v658 ew_4v658
  have hIw_4v658 := ixs_A hIw_3v657 ew_4v658 (by decide)
  obtain ⟨z1560, t1561⟩ := t_any (w_4v658.2.1 46 (1 : Int32).toNatClampNeg)
  refine ⟨fun c1562 => ?_, fun c1562 => ?_⟩
  · replace c1562 := c_eq t1561 lit_0 c1562
    obtain ⟨z1563, t1564, f1565⟩ := t_mul lit_2 tx1
    first | replace f1565 := f1565 (by omega) | clear f1565
    obtain ⟨z1566, t1567, f1568⟩ := t_add t1564 lit_1
    first | replace f1568 := f1568 (by omega) | clear f1568
    refine sX7_valueOf   (hI := hIw_4v658) (tx1 := t1567)  (hp := fun r_6v659 zr_6v659 w_7v660  tr_6v659 hIw_7v660  => ?_)
    refine ⟨fun c1569 => ?_, fun c1569 => ?_⟩
    · replace c1569 := c_eq tr_6v659 lit_0 c1569
      unfold pX1_learn_97
      obtain ⟨z1570, t1571, f1572⟩ := t_add tx2 tx3
      first | replace f1572 := f1572 (by omega) | clear f1572
      intro x6_1v663 ex6_1v663
      have tx6_1v663 : Ti x6_1v663 z1570 := by rw [ex6_1v663]; exact t1571
      refine ⟨fun c1573 => ?_, fun c1573 => ?_⟩
      · replace c1573 := c_lt tx6_1v663 lit_0 c1573
        exact hp  _   hIw_7v660 
      · replace c1573 := c_nlt tx6_1v663 lit_0 c1573
        refine ⟨fun c1574 => ?_, fun c1574 => ?_⟩
        · replace c1574 := c_le lit_4160 tx6_1v663 c1574
          exact hp  _   hIw_7v660 
        · replace c1574 := c_nle lit_4160 tx6_1v663 c1574
          refine ⟨vp_of tx6_1v663 (by omega) (by omega), ?_⟩
          refine ⟨vp_of tx6_1v663 (by omega) (by omega), ?_⟩
          intro w_4v664 ew_4v664
          have hIw_4v664 := ixs_A hIw_7v660 ew_4v664 (by decide)
          refine ⟨vp_of tx6_1v663 (by omega) (by omega), ?_⟩
          refine ⟨fun c1575 => ?_, fun c1575 => ?_⟩
          · replace c1575 := c_eq lit_0 lit_0 c1575
            refine ⟨vp_of tx6_1v663 (by omega) (by omega), ?_⟩
            intro w_6v665 ew_6v665
            have hIw_6v665 := ixs_A hIw_4v664 ew_6v665 (by decide)
            exact hp  _   hIw_6v665 
          · replace c1575 := c_neq lit_0 lit_0 c1575
            refine ⟨vp_of tx6_1v663 (by omega) (by omega), ?_⟩
            intro w_7v666 ew_7v666
            have hIw_7v666 := ixs_A hIw_4v664 ew_7v666 (by decide)
            exact hp  _   hIw_7v666 
    · replace c1569 := c_neq tr_6v659 lit_0 c1569
      unfold pX1_learn_97
      obtain ⟨z1576, t1577, f1578⟩ := t_add tx2 tx3
      first | replace f1578 := f1578 (by omega) | clear f1578
      intro x6_1v667 ex6_1v667
      have tx6_1v667 : Ti x6_1v667 z1576 := by rw [ex6_1v667]; exact t1577
      refine ⟨fun c1579 => ?_, fun c1579 => ?_⟩
      · replace c1579 := c_lt tx6_1v667 lit_0 c1579
        exact hp  _   hIw_7v660 
      · replace c1579 := c_nlt tx6_1v667 lit_0 c1579
        refine ⟨fun c1580 => ?_, fun c1580 => ?_⟩
        · replace c1580 := c_le lit_4160 tx6_1v667 c1580
          exact hp  _   hIw_7v660 
        · replace c1580 := c_nle lit_4160 tx6_1v667 c1580
          refine ⟨vp_of tx6_1v667 (by omega) (by omega), ?_⟩
          refine ⟨vp_of tx6_1v667 (by omega) (by omega), ?_⟩
          intro w_4v668 ew_4v668
          have hIw_4v668 := ixs_A hIw_7v660 ew_4v668 (by decide)
          refine ⟨vp_of tx6_1v667 (by omega) (by omega), ?_⟩
          refine ⟨fun c1581 => ?_, fun c1581 => ?_⟩
          · replace c1581 := c_eq lit_1 lit_0 c1581
            refine ⟨vp_of tx6_1v667 (by omega) (by omega), ?_⟩
            intro w_6v669 ew_6v669
            have hIw_6v669 := ixs_A hIw_4v668 ew_6v669 (by decide)
            exact hp  _   hIw_6v669 
          · replace c1581 := c_neq lit_1 lit_0 c1581
            refine ⟨vp_of tx6_1v667 (by omega) (by omega), ?_⟩
            intro w_7v670 ew_7v670
            have hIw_7v670 := ixs_A hIw_4v668 ew_7v670 (by decide)
            exact hp  _   hIw_7v670 
  · replace c1562 := c_neq t1561 lit_0 c1562
    obtain ⟨z1582, t1583, f1584⟩ := t_mul lit_2 tx1
    first | replace f1584 := f1584 (by omega) | clear f1584
    refine sX7_valueOf   (hI := hIw_4v658) (tx1 := t1583)  (hp := fun r_9v661 zr_9v661 w_10v662  tr_9v661 hIw_10v662  => ?_)
    refine ⟨fun c1585 => ?_, fun c1585 => ?_⟩
    · replace c1585 := c_neq tr_9v661 lit_0 c1585
      unfold pX1_learn_97
      obtain ⟨z1586, t1587, f1588⟩ := t_add tx2 tx3
      first | replace f1588 := f1588 (by omega) | clear f1588
      intro x6_1v671 ex6_1v671
      have tx6_1v671 : Ti x6_1v671 z1586 := by rw [ex6_1v671]; exact t1587
      refine ⟨fun c1589 => ?_, fun c1589 => ?_⟩
      · replace c1589 := c_lt tx6_1v671 lit_0 c1589
        exact hp  _   hIw_10v662 
      · replace c1589 := c_nlt tx6_1v671 lit_0 c1589
        refine ⟨fun c1590 => ?_, fun c1590 => ?_⟩
        · replace c1590 := c_le lit_4160 tx6_1v671 c1590
          exact hp  _   hIw_10v662 
        · replace c1590 := c_nle lit_4160 tx6_1v671 c1590
          refine ⟨vp_of tx6_1v671 (by omega) (by omega), ?_⟩
          refine ⟨vp_of tx6_1v671 (by omega) (by omega), ?_⟩
          intro w_4v672 ew_4v672
          have hIw_4v672 := ixs_A hIw_10v662 ew_4v672 (by decide)
          refine ⟨vp_of tx6_1v671 (by omega) (by omega), ?_⟩
          refine ⟨fun c1591 => ?_, fun c1591 => ?_⟩
          · replace c1591 := c_eq lit_0 lit_0 c1591
            refine ⟨vp_of tx6_1v671 (by omega) (by omega), ?_⟩
            intro w_6v673 ew_6v673
            have hIw_6v673 := ixs_A hIw_4v672 ew_6v673 (by decide)
            exact hp  _   hIw_6v673 
          · replace c1591 := c_neq lit_0 lit_0 c1591
            refine ⟨vp_of tx6_1v671 (by omega) (by omega), ?_⟩
            intro w_7v674 ew_7v674
            have hIw_7v674 := ixs_A hIw_4v672 ew_7v674 (by decide)
            exact hp  _   hIw_7v674 
    · replace c1585 := c_eq tr_9v661 lit_0 c1585
      unfold pX1_learn_97
      obtain ⟨z1592, t1593, f1594⟩ := t_add tx2 tx3
      first | replace f1594 := f1594 (by omega) | clear f1594
      intro x6_1v675 ex6_1v675
      have tx6_1v675 : Ti x6_1v675 z1592 := by rw [ex6_1v675]; exact t1593
      refine ⟨fun c1595 => ?_, fun c1595 => ?_⟩
      · replace c1595 := c_lt tx6_1v675 lit_0 c1595
        exact hp  _   hIw_10v662 
      · replace c1595 := c_nlt tx6_1v675 lit_0 c1595
        refine ⟨fun c1596 => ?_, fun c1596 => ?_⟩
        · replace c1596 := c_le lit_4160 tx6_1v675 c1596
          exact hp  _   hIw_10v662 
        · replace c1596 := c_nle lit_4160 tx6_1v675 c1596
          refine ⟨vp_of tx6_1v675 (by omega) (by omega), ?_⟩
          refine ⟨vp_of tx6_1v675 (by omega) (by omega), ?_⟩
          intro w_4v676 ew_4v676
          have hIw_4v676 := ixs_A hIw_10v662 ew_4v676 (by decide)
          refine ⟨vp_of tx6_1v675 (by omega) (by omega), ?_⟩
          refine ⟨fun c1597 => ?_, fun c1597 => ?_⟩
          · replace c1597 := c_eq lit_1 lit_0 c1597
            refine ⟨vp_of tx6_1v675 (by omega) (by omega), ?_⟩
            intro w_6v677 ew_6v677
            have hIw_6v677 := ixs_A hIw_4v676 ew_6v677 (by decide)
            exact hp  _   hIw_6v677 
          · replace c1597 := c_neq lit_1 lit_0 c1597
            refine ⟨vp_of tx6_1v675 (by omega) (by omega), ?_⟩
            intro w_7v678 ew_7v678
            have hIw_7v678 := ixs_A hIw_4v676 ew_7v678 (by decide)
            exact hp  _   hIw_7v678 
set_option maxHeartbeats 4000000 in
set_option maxRecDepth 100000 in
theorem sX1_forget_6 {T D : Int} {k : Nat} {post : Wd → Prop}   (hp : ∀ (w9 : Wd), IX k T D w9 → post w9) : ∀ (n : Nat) (x1 : Int32) (x2 : Int32) (x3 : Int32) (zx1 : Int) (zx2 : Int) (zx3 : Int) (w : Wd), Ti x1 zx1 → Ti x2 zx2 → Ti x3 zx3 → IX k T D w → (0 ≤ zx3) → (2147483648 - zx3) < (n : Int) → pX1_forget_6   post  n x1 x2 x3 w := by
  intro n
  induction n with
  | zero =>
    intro x1 x2 x3 zx1 zx2 zx3 w tx1 tx2 tx3 hI h0 hm
    exact absurd hm (by omega)
  | succ n ih =>
    intro x1 x2 x3 zx1 zx2 zx3 w tx1 tx2 tx3 hI h0 hm
    unfold pX1_forget_6
    have hk := ix_k hI
    obtain ⟨z1598, t1599, f1600⟩ := t_add tx1 tx2
    first | replace f1600 := f1600 (by omega) | clear f1600
    refine ⟨fun c1601 => ?_, fun c1601 => ?_⟩
    · replace c1601 := c_le t1599 tx3 c1601
      exact hp  _   hI 
    · replace c1601 := c_nle t1599 tx3 c1601
      refine ⟨fun c1602 => ?_, fun c1602 => ?_⟩
      · replace c1602 := c_le lit_4160 tx3 c1602
        exact hp  _   hI 
      · replace c1602 := c_nle lit_4160 tx3 c1602
        refine ⟨vp_of tx3 (by omega) (by omega), ?_⟩
        intro w_3v679 ew_3v679
        have hIw_3v679 := ixs_A hI ew_3v679 (by decide)
        refine ⟨vp_of tx3 (by omega) (by omega), ?_⟩
        intro w_4v680 ew_4v680
        have hIw_4v680 := ixs_A hIw_3v679 ew_4v680 (by decide)
        obtain ⟨z1603, t1604, f1605⟩ := t_add tx3 lit_1
        first | replace f1605 := f1605 (by omega) | clear f1605
        intro x3_5v681 ex3_5v681
        have tx3_5v681 : Ti x3_5v681 z1603 := by rw [ex3_5v681]; exact t1604
        exact ih _ _ _ _ _ _ _ tx1 tx2 tx3_5v681 hIw_4v680 (by omega) (by omega)
set_option maxHeartbeats 4000000 in
set_option maxRecDepth 100000 in
theorem sX1_forget {T D : Int} {k : Nat} {post : Wd → Prop} {x1 : Int32} {zx1 : Int} {x2 : Int32} {zx2 : Int} {w : Wd}  (tx1 : Ti x1 zx1) (tx2 : Ti x2 zx2) (hI : IX k T D w)  (hp : ∀ (w9 : Wd), IX k T D w9 → post w9) : pX1_forget   post  x1 x2 w := by
  unfold pX1_forget
  have hk := ix_k hI
  obtain ⟨z1606, t1607, f1608⟩ := t_ite tx1 lit_0 lit_0 tx1
  intro x3_1v682 ex3_1v682
  have tx3_1v682 : Ti x3_1v682 z1606 := by rw [ex3_1v682]; exact t1607
  exact ⟨2147483649, sX1_forget_6   (hp := hp) 2147483649 _ _ _ _ _ _ _ tx1 tx2 tx3_1v682 hI (by omega) (by omega)⟩
set_option maxHeartbeats 4000000 in
set_option maxRecDepth 100000 in
theorem sX7_isUsed {T D : Int} {k : Nat} {post : Int32 → Wd → Prop} {b : Bool} {x1 : Int32} {zx1 : Int} {x2 : Int32} {zx2 : Int} {w : Wd}  (tx1 : Ti x1 zx1) (tx2 : Ti x2 zx2) (hI : IX k T D w)  (hp : ∀ (r : Int32) (zr : Int), Ti r zr → ((zr = 0 ∨ zr = 1)) → post r w) : pX7_isUsed   post b x1 x2 w := by
  unfold pX7_isUsed
  have hk := ix_k hI
  refine ⟨fun c1609 => ?_, fun c1609 => ?_⟩
  · replace c1609 := c_lt tx1 lit_0 c1609
    exact hp _ _ lit_0 (by omega)
  · replace c1609 := c_nlt tx1 lit_0 c1609
    refine ⟨fun c1610 => ?_, fun c1610 => ?_⟩
    · replace c1610 := c_le lit_4 tx1 c1610
      exact hp _ _ lit_0 (by omega)
    · replace c1610 := c_nle lit_4 tx1 c1610
      refine ⟨vp_of tx1 (by omega) (by omega), ?_⟩
      obtain ⟨z1611, t1612, f1613⟩ := t_and (x := ((w.2.1 ((rl b) + 8) x1.toNatClampNeg) >>> (x2 &&& 31))) lit_1 (by decide)
      refine ⟨fun c1614 => ?_, fun c1614 => ?_⟩
      · replace c1614 := c_eq t1612 lit_0 c1614
        exact hp _ _ lit_0 (by omega)
      · replace c1614 := c_neq t1612 lit_0 c1614
        exact hp _ _ lit_1 (by omega)
set_option maxHeartbeats 4000000 in
set_option maxRecDepth 100000 in
theorem sX1_setUp {T D : Int} {k : Nat} {post : Int32 → Wd → Prop} {x1 : Int32} {zx1 : Int} {x2 : Int32} {zx2 : Int} {x3 : Int32} {zx3 : Int} {w : Wd}  (tx1 : Ti x1 zx1) (tx2 : Ti x2 zx2) (tx3 : Ti x3 zx3) (hI : IX k T D w) (h0 : 0 ≤ zx1 ∧ zx1 ≤ 3) (h1 : 0 ≤ zx2 ∧ zx2 ≤ 9) (hp : ∀ (r : Int32) (zr : Int) (w9 : Wd), Ti r zr → IX k T D w9 → (0 ≤ zr ∧ zr ≤ 4056) → post r w9) : pX1_setUp   post  x1 x2 x3 w := by
  unfold pX1_setUp
  have hk := ix_k hI
  refine sX7_isUsed   (hI := hI) (tx1 := tx1) (tx2 := lit_6)  (hp := fun r_1v683 zr_1v683 tr_1v683 p1615 => ?_)
  refine ⟨fun c1616 => ?_, fun c1616 => ?_⟩
  · replace c1616 := c_eq tr_1v683 lit_0 c1616
    unfold pX1_setUp_22
    obtain ⟨z1617, t1618, f1619⟩ := t_mul tx1 lit_10
    first | replace f1619 := f1619 (by omega) | clear f1619
    obtain ⟨z1620, t1621, f1622⟩ := t_add t1618 lit_0
    first | replace f1622 := f1622 (by omega) | clear f1622
    intro x4_1v685 ex4_1v685
    have tx4_1v685 : Ti x4_1v685 z1620 := by rw [ex4_1v685]; exact t1621
    refine sX7_isUsed   (hI := hI) (tx1 := tx1) (tx2 := lit_5)  (hp := fun r_2v686 zr_2v686 tr_2v686 p1623 => ?_)
    refine ⟨fun c1624 => ?_, fun c1624 => ?_⟩
    · replace c1624 := c_eq tr_2v686 lit_0 c1624
      unfold pX1_setUp_51
      refine sX7_isUsed   (hI := hI) (tx1 := tx1) (tx2 := lit_7)  (hp := fun r_1v688 zr_1v688 tr_1v688 p1625 => ?_)
      refine ⟨fun c1626 => ?_, fun c1626 => ?_⟩
      · replace c1626 := c_eq tr_1v688 lit_0 c1626
        unfold pX1_setUp_73
        obtain ⟨z1627, t1628, f1629⟩ := t_add lit_0 lit_0
        first | replace f1629 := f1629 (by omega) | clear f1629
        intro x5_1v690 ex5_1v690
        have tx5_1v690 : Ti x5_1v690 z1627 := by rw [ex5_1v690]; exact t1628
        refine ⟨vp_of tx4_1v685 (by omega) (by omega), ?_⟩
        obtain ⟨z1630, t1631⟩ := t_any (w.2.1 45 x4_1v685.toNatClampNeg)
        refine ⟨fun c1632 => ?_, fun c1632 => ?_⟩
        · replace c1632 := c_eq t1631 tx5_1v690 c1632
          unfold pX1_setUp_125
          intro w_1v693 ew_1v693
          have hIw_1v693 := ixs_A hI ew_1v693 (by decide)
          intro w_2v694 ew_2v694
          have hIw_2v694 := ixs_A hIw_1v693 ew_2v694 (by decide)
          intro w_3v695 ew_3v695
          have hIw_3v695 := ixs_A hIw_2v694 ew_3v695 (by decide)
          obtain ⟨z1633, t1634, f1635⟩ := t_mul tx4_1v685 lit_104
          first | replace f1635 := f1635 (by omega) | clear f1635
          exact hp _ _ _  t1634 hIw_3v695 (by omega)
        · replace c1632 := c_neq t1631 tx5_1v690 c1632
          refine sX7_isUsed   (hI := hI) (tx1 := tx1) (tx2 := lit_4)  (hp := fun r_3v691 zr_3v691 tr_3v691 p1636 => ?_)
          refine ⟨fun c1637 => ?_, fun c1637 => ?_⟩
          · replace c1637 := c_eq tr_3v691 lit_0 c1637
            unfold pX1_setUp_113
            obtain ⟨z1638, t1639, f1640⟩ := t_mul tx4_1v685 lit_104
            first | replace f1640 := f1640 (by omega) | clear f1640
            refine sX1_forget   (hI := hI) (tx1 := t1639) (tx2 := lit_8)  (hp := fun  w_1v696   hIw_1v696  => ?_)
            refine ⟨vp_of tx4_1v685 (by omega) (by omega), ?_⟩
            intro w_2v697 ew_2v697
            have hIw_2v697 := ixs_A hIw_1v696 ew_2v697 (by decide)
            unfold pX1_setUp_125
            intro w_1v698 ew_1v698
            have hIw_1v698 := ixs_A hIw_2v697 ew_1v698 (by decide)
            intro w_2v699 ew_2v699
            have hIw_2v699 := ixs_A hIw_1v698 ew_2v699 (by decide)
            intro w_3v700 ew_3v700
            have hIw_3v700 := ixs_A hIw_2v699 ew_3v700 (by decide)
            exact hp _ _ _  t1639 hIw_3v700 (by omega)
          · replace c1637 := c_neq tr_3v691 lit_0 c1637
            unfold pX1_setUp_113
            obtain ⟨z1641, t1642, f1643⟩ := t_mul tx4_1v685 lit_104
            first | replace f1643 := f1643 (by omega) | clear f1643
            refine sX1_forget   (hI := hI) (tx1 := t1642) (tx2 := lit_104)  (hp := fun  w_1v701   hIw_1v701  => ?_)
            refine ⟨vp_of tx4_1v685 (by omega) (by omega), ?_⟩
            intro w_2v702 ew_2v702
            have hIw_2v702 := ixs_A hIw_1v701 ew_2v702 (by decide)
            unfold pX1_setUp_125
            intro w_1v703 ew_1v703
            have hIw_1v703 := ixs_A hIw_2v702 ew_1v703 (by decide)
            intro w_2v704 ew_2v704
            have hIw_2v704 := ixs_A hIw_1v703 ew_2v704 (by decide)
            intro w_3v705 ew_3v705
            have hIw_3v705 := ixs_A hIw_2v704 ew_3v705 (by decide)
            exact hp _ _ _  t1642 hIw_3v705 (by omega)
      · replace c1626 := c_neq tr_1v688 lit_0 c1626
        unfold pX1_setUp_73
        obtain ⟨z1644, t1645, f1646⟩ := t_add lit_0 tx3
        first | replace f1646 := f1646 (by omega) | clear f1646
        intro x5_1v706 ex5_1v706
        have tx5_1v706 : Ti x5_1v706 z1644 := by rw [ex5_1v706]; exact t1645
        refine ⟨vp_of tx4_1v685 (by omega) (by omega), ?_⟩
        obtain ⟨z1647, t1648⟩ := t_any (w.2.1 45 x4_1v685.toNatClampNeg)
        refine ⟨fun c1649 => ?_, fun c1649 => ?_⟩
        · replace c1649 := c_eq t1648 tx5_1v706 c1649
          unfold pX1_setUp_125
          intro w_1v709 ew_1v709
          have hIw_1v709 := ixs_A hI ew_1v709 (by decide)
          intro w_2v710 ew_2v710
          have hIw_2v710 := ixs_A hIw_1v709 ew_2v710 (by decide)
          intro w_3v711 ew_3v711
          have hIw_3v711 := ixs_A hIw_2v710 ew_3v711 (by decide)
          obtain ⟨z1650, t1651, f1652⟩ := t_mul tx4_1v685 lit_104
          first | replace f1652 := f1652 (by omega) | clear f1652
          exact hp _ _ _  t1651 hIw_3v711 (by omega)
        · replace c1649 := c_neq t1648 tx5_1v706 c1649
          refine sX7_isUsed   (hI := hI) (tx1 := tx1) (tx2 := lit_4)  (hp := fun r_3v707 zr_3v707 tr_3v707 p1653 => ?_)
          refine ⟨fun c1654 => ?_, fun c1654 => ?_⟩
          · replace c1654 := c_eq tr_3v707 lit_0 c1654
            unfold pX1_setUp_113
            obtain ⟨z1655, t1656, f1657⟩ := t_mul tx4_1v685 lit_104
            first | replace f1657 := f1657 (by omega) | clear f1657
            refine sX1_forget   (hI := hI) (tx1 := t1656) (tx2 := lit_8)  (hp := fun  w_1v712   hIw_1v712  => ?_)
            refine ⟨vp_of tx4_1v685 (by omega) (by omega), ?_⟩
            intro w_2v713 ew_2v713
            have hIw_2v713 := ixs_A hIw_1v712 ew_2v713 (by decide)
            unfold pX1_setUp_125
            intro w_1v714 ew_1v714
            have hIw_1v714 := ixs_A hIw_2v713 ew_1v714 (by decide)
            intro w_2v715 ew_2v715
            have hIw_2v715 := ixs_A hIw_1v714 ew_2v715 (by decide)
            intro w_3v716 ew_3v716
            have hIw_3v716 := ixs_A hIw_2v715 ew_3v716 (by decide)
            exact hp _ _ _  t1656 hIw_3v716 (by omega)
          · replace c1654 := c_neq tr_3v707 lit_0 c1654
            unfold pX1_setUp_113
            obtain ⟨z1658, t1659, f1660⟩ := t_mul tx4_1v685 lit_104
            first | replace f1660 := f1660 (by omega) | clear f1660
            refine sX1_forget   (hI := hI) (tx1 := t1659) (tx2 := lit_104)  (hp := fun  w_1v717   hIw_1v717  => ?_)
            refine ⟨vp_of tx4_1v685 (by omega) (by omega), ?_⟩
            intro w_2v718 ew_2v718
            have hIw_2v718 := ixs_A hIw_1v717 ew_2v718 (by decide)
            unfold pX1_setUp_125
            intro w_1v719 ew_1v719
            have hIw_1v719 := ixs_A hIw_2v718 ew_1v719 (by decide)
            intro w_2v720 ew_2v720
            have hIw_2v720 := ixs_A hIw_1v719 ew_2v720 (by decide)
            intro w_3v721 ew_3v721
            have hIw_3v721 := ixs_A hIw_2v720 ew_3v721 (by decide)
            exact hp _ _ _  t1659 hIw_3v721 (by omega)
    · replace c1624 := c_neq tr_2v686 lit_0 c1624
      unfold pX1_setUp_51
      refine sX7_isUsed   (hI := hI) (tx1 := tx1) (tx2 := lit_7)  (hp := fun r_1v722 zr_1v722 tr_1v722 p1661 => ?_)
      refine ⟨fun c1662 => ?_, fun c1662 => ?_⟩
      · replace c1662 := c_eq tr_1v722 lit_0 c1662
        unfold pX1_setUp_73
        obtain ⟨z1663, t1664⟩ := t_any (w.1 160 12)
        obtain ⟨z1665, t1666, f1667⟩ := t_mul t1664 lit_100
        first | replace f1667 := f1667 (by omega) | clear f1667
        obtain ⟨z1668, t1669, f1670⟩ := t_add t1666 lit_0
        first | replace f1670 := f1670 (by omega) | clear f1670
        intro x5_1v724 ex5_1v724
        have tx5_1v724 : Ti x5_1v724 z1668 := by rw [ex5_1v724]; exact t1669
        refine ⟨vp_of tx4_1v685 (by omega) (by omega), ?_⟩
        obtain ⟨z1671, t1672⟩ := t_any (w.2.1 45 x4_1v685.toNatClampNeg)
        refine ⟨fun c1673 => ?_, fun c1673 => ?_⟩
        · replace c1673 := c_eq t1672 tx5_1v724 c1673
          unfold pX1_setUp_125
          intro w_1v727 ew_1v727
          have hIw_1v727 := ixs_A hI ew_1v727 (by decide)
          intro w_2v728 ew_2v728
          have hIw_2v728 := ixs_A hIw_1v727 ew_2v728 (by decide)
          intro w_3v729 ew_3v729
          have hIw_3v729 := ixs_A hIw_2v728 ew_3v729 (by decide)
          obtain ⟨z1674, t1675, f1676⟩ := t_mul tx4_1v685 lit_104
          first | replace f1676 := f1676 (by omega) | clear f1676
          exact hp _ _ _  t1675 hIw_3v729 (by omega)
        · replace c1673 := c_neq t1672 tx5_1v724 c1673
          refine sX7_isUsed   (hI := hI) (tx1 := tx1) (tx2 := lit_4)  (hp := fun r_3v725 zr_3v725 tr_3v725 p1677 => ?_)
          refine ⟨fun c1678 => ?_, fun c1678 => ?_⟩
          · replace c1678 := c_eq tr_3v725 lit_0 c1678
            unfold pX1_setUp_113
            obtain ⟨z1679, t1680, f1681⟩ := t_mul tx4_1v685 lit_104
            first | replace f1681 := f1681 (by omega) | clear f1681
            refine sX1_forget   (hI := hI) (tx1 := t1680) (tx2 := lit_8)  (hp := fun  w_1v730   hIw_1v730  => ?_)
            refine ⟨vp_of tx4_1v685 (by omega) (by omega), ?_⟩
            intro w_2v731 ew_2v731
            have hIw_2v731 := ixs_A hIw_1v730 ew_2v731 (by decide)
            unfold pX1_setUp_125
            intro w_1v732 ew_1v732
            have hIw_1v732 := ixs_A hIw_2v731 ew_1v732 (by decide)
            intro w_2v733 ew_2v733
            have hIw_2v733 := ixs_A hIw_1v732 ew_2v733 (by decide)
            intro w_3v734 ew_3v734
            have hIw_3v734 := ixs_A hIw_2v733 ew_3v734 (by decide)
            exact hp _ _ _  t1680 hIw_3v734 (by omega)
          · replace c1678 := c_neq tr_3v725 lit_0 c1678
            unfold pX1_setUp_113
            obtain ⟨z1682, t1683, f1684⟩ := t_mul tx4_1v685 lit_104
            first | replace f1684 := f1684 (by omega) | clear f1684
            refine sX1_forget   (hI := hI) (tx1 := t1683) (tx2 := lit_104)  (hp := fun  w_1v735   hIw_1v735  => ?_)
            refine ⟨vp_of tx4_1v685 (by omega) (by omega), ?_⟩
            intro w_2v736 ew_2v736
            have hIw_2v736 := ixs_A hIw_1v735 ew_2v736 (by decide)
            unfold pX1_setUp_125
            intro w_1v737 ew_1v737
            have hIw_1v737 := ixs_A hIw_2v736 ew_1v737 (by decide)
            intro w_2v738 ew_2v738
            have hIw_2v738 := ixs_A hIw_1v737 ew_2v738 (by decide)
            intro w_3v739 ew_3v739
            have hIw_3v739 := ixs_A hIw_2v738 ew_3v739 (by decide)
            exact hp _ _ _  t1683 hIw_3v739 (by omega)
      · replace c1662 := c_neq tr_1v722 lit_0 c1662
        unfold pX1_setUp_73
        obtain ⟨z1685, t1686⟩ := t_any (w.1 160 12)
        obtain ⟨z1687, t1688, f1689⟩ := t_mul t1686 lit_100
        first | replace f1689 := f1689 (by omega) | clear f1689
        obtain ⟨z1690, t1691, f1692⟩ := t_add t1688 tx3
        first | replace f1692 := f1692 (by omega) | clear f1692
        intro x5_1v740 ex5_1v740
        have tx5_1v740 : Ti x5_1v740 z1690 := by rw [ex5_1v740]; exact t1691
        refine ⟨vp_of tx4_1v685 (by omega) (by omega), ?_⟩
        obtain ⟨z1693, t1694⟩ := t_any (w.2.1 45 x4_1v685.toNatClampNeg)
        refine ⟨fun c1695 => ?_, fun c1695 => ?_⟩
        · replace c1695 := c_eq t1694 tx5_1v740 c1695
          unfold pX1_setUp_125
          intro w_1v743 ew_1v743
          have hIw_1v743 := ixs_A hI ew_1v743 (by decide)
          intro w_2v744 ew_2v744
          have hIw_2v744 := ixs_A hIw_1v743 ew_2v744 (by decide)
          intro w_3v745 ew_3v745
          have hIw_3v745 := ixs_A hIw_2v744 ew_3v745 (by decide)
          obtain ⟨z1696, t1697, f1698⟩ := t_mul tx4_1v685 lit_104
          first | replace f1698 := f1698 (by omega) | clear f1698
          exact hp _ _ _  t1697 hIw_3v745 (by omega)
        · replace c1695 := c_neq t1694 tx5_1v740 c1695
          refine sX7_isUsed   (hI := hI) (tx1 := tx1) (tx2 := lit_4)  (hp := fun r_3v741 zr_3v741 tr_3v741 p1699 => ?_)
          refine ⟨fun c1700 => ?_, fun c1700 => ?_⟩
          · replace c1700 := c_eq tr_3v741 lit_0 c1700
            unfold pX1_setUp_113
            obtain ⟨z1701, t1702, f1703⟩ := t_mul tx4_1v685 lit_104
            first | replace f1703 := f1703 (by omega) | clear f1703
            refine sX1_forget   (hI := hI) (tx1 := t1702) (tx2 := lit_8)  (hp := fun  w_1v746   hIw_1v746  => ?_)
            refine ⟨vp_of tx4_1v685 (by omega) (by omega), ?_⟩
            intro w_2v747 ew_2v747
            have hIw_2v747 := ixs_A hIw_1v746 ew_2v747 (by decide)
            unfold pX1_setUp_125
            intro w_1v748 ew_1v748
            have hIw_1v748 := ixs_A hIw_2v747 ew_1v748 (by decide)
            intro w_2v749 ew_2v749
            have hIw_2v749 := ixs_A hIw_1v748 ew_2v749 (by decide)
            intro w_3v750 ew_3v750
            have hIw_3v750 := ixs_A hIw_2v749 ew_3v750 (by decide)
            exact hp _ _ _  t1702 hIw_3v750 (by omega)
          · replace c1700 := c_neq tr_3v741 lit_0 c1700
            unfold pX1_setUp_113
            obtain ⟨z1704, t1705, f1706⟩ := t_mul tx4_1v685 lit_104
            first | replace f1706 := f1706 (by omega) | clear f1706
            refine sX1_forget   (hI := hI) (tx1 := t1705) (tx2 := lit_104)  (hp := fun  w_1v751   hIw_1v751  => ?_)
            refine ⟨vp_of tx4_1v685 (by omega) (by omega), ?_⟩
            intro w_2v752 ew_2v752
            have hIw_2v752 := ixs_A hIw_1v751 ew_2v752 (by decide)
            unfold pX1_setUp_125
            intro w_1v753 ew_1v753
            have hIw_1v753 := ixs_A hIw_2v752 ew_1v753 (by decide)
            intro w_2v754 ew_2v754
            have hIw_2v754 := ixs_A hIw_1v753 ew_2v754 (by decide)
            intro w_3v755 ew_3v755
            have hIw_3v755 := ixs_A hIw_2v754 ew_3v755 (by decide)
            exact hp _ _ _  t1705 hIw_3v755 (by omega)
  · replace c1616 := c_neq tr_1v683 lit_0 c1616
    unfold pX1_setUp_22
    obtain ⟨z1707, t1708, f1709⟩ := t_mul tx1 lit_10
    first | replace f1709 := f1709 (by omega) | clear f1709
    obtain ⟨z1710, t1711, f1712⟩ := t_add t1708 tx2
    first | replace f1712 := f1712 (by omega) | clear f1712
    intro x4_1v756 ex4_1v756
    have tx4_1v756 : Ti x4_1v756 z1710 := by rw [ex4_1v756]; exact t1711
    refine sX7_isUsed   (hI := hI) (tx1 := tx1) (tx2 := lit_5)  (hp := fun r_2v757 zr_2v757 tr_2v757 p1713 => ?_)
    refine ⟨fun c1714 => ?_, fun c1714 => ?_⟩
    · replace c1714 := c_eq tr_2v757 lit_0 c1714
      unfold pX1_setUp_51
      refine sX7_isUsed   (hI := hI) (tx1 := tx1) (tx2 := lit_7)  (hp := fun r_1v759 zr_1v759 tr_1v759 p1715 => ?_)
      refine ⟨fun c1716 => ?_, fun c1716 => ?_⟩
      · replace c1716 := c_eq tr_1v759 lit_0 c1716
        unfold pX1_setUp_73
        obtain ⟨z1717, t1718, f1719⟩ := t_add lit_0 lit_0
        first | replace f1719 := f1719 (by omega) | clear f1719
        intro x5_1v761 ex5_1v761
        have tx5_1v761 : Ti x5_1v761 z1717 := by rw [ex5_1v761]; exact t1718
        refine ⟨vp_of tx4_1v756 (by omega) (by omega), ?_⟩
        obtain ⟨z1720, t1721⟩ := t_any (w.2.1 45 x4_1v756.toNatClampNeg)
        refine ⟨fun c1722 => ?_, fun c1722 => ?_⟩
        · replace c1722 := c_eq t1721 tx5_1v761 c1722
          unfold pX1_setUp_125
          intro w_1v764 ew_1v764
          have hIw_1v764 := ixs_A hI ew_1v764 (by decide)
          intro w_2v765 ew_2v765
          have hIw_2v765 := ixs_A hIw_1v764 ew_2v765 (by decide)
          intro w_3v766 ew_3v766
          have hIw_3v766 := ixs_A hIw_2v765 ew_3v766 (by decide)
          obtain ⟨z1723, t1724, f1725⟩ := t_mul tx4_1v756 lit_104
          first | replace f1725 := f1725 (by omega) | clear f1725
          exact hp _ _ _  t1724 hIw_3v766 (by omega)
        · replace c1722 := c_neq t1721 tx5_1v761 c1722
          refine sX7_isUsed   (hI := hI) (tx1 := tx1) (tx2 := lit_4)  (hp := fun r_3v762 zr_3v762 tr_3v762 p1726 => ?_)
          refine ⟨fun c1727 => ?_, fun c1727 => ?_⟩
          · replace c1727 := c_eq tr_3v762 lit_0 c1727
            unfold pX1_setUp_113
            obtain ⟨z1728, t1729, f1730⟩ := t_mul tx4_1v756 lit_104
            first | replace f1730 := f1730 (by omega) | clear f1730
            refine sX1_forget   (hI := hI) (tx1 := t1729) (tx2 := lit_8)  (hp := fun  w_1v767   hIw_1v767  => ?_)
            refine ⟨vp_of tx4_1v756 (by omega) (by omega), ?_⟩
            intro w_2v768 ew_2v768
            have hIw_2v768 := ixs_A hIw_1v767 ew_2v768 (by decide)
            unfold pX1_setUp_125
            intro w_1v769 ew_1v769
            have hIw_1v769 := ixs_A hIw_2v768 ew_1v769 (by decide)
            intro w_2v770 ew_2v770
            have hIw_2v770 := ixs_A hIw_1v769 ew_2v770 (by decide)
            intro w_3v771 ew_3v771
            have hIw_3v771 := ixs_A hIw_2v770 ew_3v771 (by decide)
            exact hp _ _ _  t1729 hIw_3v771 (by omega)
          · replace c1727 := c_neq tr_3v762 lit_0 c1727
            unfold pX1_setUp_113
            obtain ⟨z1731, t1732, f1733⟩ := t_mul tx4_1v756 lit_104
            first | replace f1733 := f1733 (by omega) | clear f1733
            refine sX1_forget   (hI := hI) (tx1 := t1732) (tx2 := lit_104)  (hp := fun  w_1v772   hIw_1v772  => ?_)
            refine ⟨vp_of tx4_1v756 (by omega) (by omega), ?_⟩
            intro w_2v773 ew_2v773
            have hIw_2v773 := ixs_A hIw_1v772 ew_2v773 (by decide)
            unfold pX1_setUp_125
            intro w_1v774 ew_1v774
            have hIw_1v774 := ixs_A hIw_2v773 ew_1v774 (by decide)
            intro w_2v775 ew_2v775
            have hIw_2v775 := ixs_A hIw_1v774 ew_2v775 (by decide)
            intro w_3v776 ew_3v776
            have hIw_3v776 := ixs_A hIw_2v775 ew_3v776 (by decide)
            exact hp _ _ _  t1732 hIw_3v776 (by omega)
      · replace c1716 := c_neq tr_1v759 lit_0 c1716
        unfold pX1_setUp_73
        obtain ⟨z1734, t1735, f1736⟩ := t_add lit_0 tx3
        first | replace f1736 := f1736 (by omega) | clear f1736
        intro x5_1v777 ex5_1v777
        have tx5_1v777 : Ti x5_1v777 z1734 := by rw [ex5_1v777]; exact t1735
        refine ⟨vp_of tx4_1v756 (by omega) (by omega), ?_⟩
        obtain ⟨z1737, t1738⟩ := t_any (w.2.1 45 x4_1v756.toNatClampNeg)
        refine ⟨fun c1739 => ?_, fun c1739 => ?_⟩
        · replace c1739 := c_eq t1738 tx5_1v777 c1739
          unfold pX1_setUp_125
          intro w_1v780 ew_1v780
          have hIw_1v780 := ixs_A hI ew_1v780 (by decide)
          intro w_2v781 ew_2v781
          have hIw_2v781 := ixs_A hIw_1v780 ew_2v781 (by decide)
          intro w_3v782 ew_3v782
          have hIw_3v782 := ixs_A hIw_2v781 ew_3v782 (by decide)
          obtain ⟨z1740, t1741, f1742⟩ := t_mul tx4_1v756 lit_104
          first | replace f1742 := f1742 (by omega) | clear f1742
          exact hp _ _ _  t1741 hIw_3v782 (by omega)
        · replace c1739 := c_neq t1738 tx5_1v777 c1739
          refine sX7_isUsed   (hI := hI) (tx1 := tx1) (tx2 := lit_4)  (hp := fun r_3v778 zr_3v778 tr_3v778 p1743 => ?_)
          refine ⟨fun c1744 => ?_, fun c1744 => ?_⟩
          · replace c1744 := c_eq tr_3v778 lit_0 c1744
            unfold pX1_setUp_113
            obtain ⟨z1745, t1746, f1747⟩ := t_mul tx4_1v756 lit_104
            first | replace f1747 := f1747 (by omega) | clear f1747
            refine sX1_forget   (hI := hI) (tx1 := t1746) (tx2 := lit_8)  (hp := fun  w_1v783   hIw_1v783  => ?_)
            refine ⟨vp_of tx4_1v756 (by omega) (by omega), ?_⟩
            intro w_2v784 ew_2v784
            have hIw_2v784 := ixs_A hIw_1v783 ew_2v784 (by decide)
            unfold pX1_setUp_125
            intro w_1v785 ew_1v785
            have hIw_1v785 := ixs_A hIw_2v784 ew_1v785 (by decide)
            intro w_2v786 ew_2v786
            have hIw_2v786 := ixs_A hIw_1v785 ew_2v786 (by decide)
            intro w_3v787 ew_3v787
            have hIw_3v787 := ixs_A hIw_2v786 ew_3v787 (by decide)
            exact hp _ _ _  t1746 hIw_3v787 (by omega)
          · replace c1744 := c_neq tr_3v778 lit_0 c1744
            unfold pX1_setUp_113
            obtain ⟨z1748, t1749, f1750⟩ := t_mul tx4_1v756 lit_104
            first | replace f1750 := f1750 (by omega) | clear f1750
            refine sX1_forget   (hI := hI) (tx1 := t1749) (tx2 := lit_104)  (hp := fun  w_1v788   hIw_1v788  => ?_)
            refine ⟨vp_of tx4_1v756 (by omega) (by omega), ?_⟩
            intro w_2v789 ew_2v789
            have hIw_2v789 := ixs_A hIw_1v788 ew_2v789 (by decide)
            unfold pX1_setUp_125
            intro w_1v790 ew_1v790
            have hIw_1v790 := ixs_A hIw_2v789 ew_1v790 (by decide)
            intro w_2v791 ew_2v791
            have hIw_2v791 := ixs_A hIw_1v790 ew_2v791 (by decide)
            intro w_3v792 ew_3v792
            have hIw_3v792 := ixs_A hIw_2v791 ew_3v792 (by decide)
            exact hp _ _ _  t1749 hIw_3v792 (by omega)
    · replace c1714 := c_neq tr_2v757 lit_0 c1714
      unfold pX1_setUp_51
      refine sX7_isUsed   (hI := hI) (tx1 := tx1) (tx2 := lit_7)  (hp := fun r_1v793 zr_1v793 tr_1v793 p1751 => ?_)
      refine ⟨fun c1752 => ?_, fun c1752 => ?_⟩
      · replace c1752 := c_eq tr_1v793 lit_0 c1752
        unfold pX1_setUp_73
        obtain ⟨z1753, t1754⟩ := t_any (w.1 160 12)
        obtain ⟨z1755, t1756, f1757⟩ := t_mul t1754 lit_100
        first | replace f1757 := f1757 (by omega) | clear f1757
        obtain ⟨z1758, t1759, f1760⟩ := t_add t1756 lit_0
        first | replace f1760 := f1760 (by omega) | clear f1760
        intro x5_1v795 ex5_1v795
        have tx5_1v795 : Ti x5_1v795 z1758 := by rw [ex5_1v795]; exact t1759
        refine ⟨vp_of tx4_1v756 (by omega) (by omega), ?_⟩
        obtain ⟨z1761, t1762⟩ := t_any (w.2.1 45 x4_1v756.toNatClampNeg)
        refine ⟨fun c1763 => ?_, fun c1763 => ?_⟩
        · replace c1763 := c_eq t1762 tx5_1v795 c1763
          unfold pX1_setUp_125
          intro w_1v798 ew_1v798
          have hIw_1v798 := ixs_A hI ew_1v798 (by decide)
          intro w_2v799 ew_2v799
          have hIw_2v799 := ixs_A hIw_1v798 ew_2v799 (by decide)
          intro w_3v800 ew_3v800
          have hIw_3v800 := ixs_A hIw_2v799 ew_3v800 (by decide)
          obtain ⟨z1764, t1765, f1766⟩ := t_mul tx4_1v756 lit_104
          first | replace f1766 := f1766 (by omega) | clear f1766
          exact hp _ _ _  t1765 hIw_3v800 (by omega)
        · replace c1763 := c_neq t1762 tx5_1v795 c1763
          refine sX7_isUsed   (hI := hI) (tx1 := tx1) (tx2 := lit_4)  (hp := fun r_3v796 zr_3v796 tr_3v796 p1767 => ?_)
          refine ⟨fun c1768 => ?_, fun c1768 => ?_⟩
          · replace c1768 := c_eq tr_3v796 lit_0 c1768
            unfold pX1_setUp_113
            obtain ⟨z1769, t1770, f1771⟩ := t_mul tx4_1v756 lit_104
            first | replace f1771 := f1771 (by omega) | clear f1771
            refine sX1_forget   (hI := hI) (tx1 := t1770) (tx2 := lit_8)  (hp := fun  w_1v801   hIw_1v801  => ?_)
            refine ⟨vp_of tx4_1v756 (by omega) (by omega), ?_⟩
            intro w_2v802 ew_2v802
            have hIw_2v802 := ixs_A hIw_1v801 ew_2v802 (by decide)
            unfold pX1_setUp_125
            intro w_1v803 ew_1v803
            have hIw_1v803 := ixs_A hIw_2v802 ew_1v803 (by decide)
            intro w_2v804 ew_2v804
            have hIw_2v804 := ixs_A hIw_1v803 ew_2v804 (by decide)
            intro w_3v805 ew_3v805
            have hIw_3v805 := ixs_A hIw_2v804 ew_3v805 (by decide)
            exact hp _ _ _  t1770 hIw_3v805 (by omega)
          · replace c1768 := c_neq tr_3v796 lit_0 c1768
            unfold pX1_setUp_113
            obtain ⟨z1772, t1773, f1774⟩ := t_mul tx4_1v756 lit_104
            first | replace f1774 := f1774 (by omega) | clear f1774
            refine sX1_forget   (hI := hI) (tx1 := t1773) (tx2 := lit_104)  (hp := fun  w_1v806   hIw_1v806  => ?_)
            refine ⟨vp_of tx4_1v756 (by omega) (by omega), ?_⟩
            intro w_2v807 ew_2v807
            have hIw_2v807 := ixs_A hIw_1v806 ew_2v807 (by decide)
            unfold pX1_setUp_125
            intro w_1v808 ew_1v808
            have hIw_1v808 := ixs_A hIw_2v807 ew_1v808 (by decide)
            intro w_2v809 ew_2v809
            have hIw_2v809 := ixs_A hIw_1v808 ew_2v809 (by decide)
            intro w_3v810 ew_3v810
            have hIw_3v810 := ixs_A hIw_2v809 ew_3v810 (by decide)
            exact hp _ _ _  t1773 hIw_3v810 (by omega)
      · replace c1752 := c_neq tr_1v793 lit_0 c1752
        unfold pX1_setUp_73
        obtain ⟨z1775, t1776⟩ := t_any (w.1 160 12)
        obtain ⟨z1777, t1778, f1779⟩ := t_mul t1776 lit_100
        first | replace f1779 := f1779 (by omega) | clear f1779
        obtain ⟨z1780, t1781, f1782⟩ := t_add t1778 tx3
        first | replace f1782 := f1782 (by omega) | clear f1782
        intro x5_1v811 ex5_1v811
        have tx5_1v811 : Ti x5_1v811 z1780 := by rw [ex5_1v811]; exact t1781
        refine ⟨vp_of tx4_1v756 (by omega) (by omega), ?_⟩
        obtain ⟨z1783, t1784⟩ := t_any (w.2.1 45 x4_1v756.toNatClampNeg)
        refine ⟨fun c1785 => ?_, fun c1785 => ?_⟩
        · replace c1785 := c_eq t1784 tx5_1v811 c1785
          unfold pX1_setUp_125
          intro w_1v814 ew_1v814
          have hIw_1v814 := ixs_A hI ew_1v814 (by decide)
          intro w_2v815 ew_2v815
          have hIw_2v815 := ixs_A hIw_1v814 ew_2v815 (by decide)
          intro w_3v816 ew_3v816
          have hIw_3v816 := ixs_A hIw_2v815 ew_3v816 (by decide)
          obtain ⟨z1786, t1787, f1788⟩ := t_mul tx4_1v756 lit_104
          first | replace f1788 := f1788 (by omega) | clear f1788
          exact hp _ _ _  t1787 hIw_3v816 (by omega)
        · replace c1785 := c_neq t1784 tx5_1v811 c1785
          refine sX7_isUsed   (hI := hI) (tx1 := tx1) (tx2 := lit_4)  (hp := fun r_3v812 zr_3v812 tr_3v812 p1789 => ?_)
          refine ⟨fun c1790 => ?_, fun c1790 => ?_⟩
          · replace c1790 := c_eq tr_3v812 lit_0 c1790
            unfold pX1_setUp_113
            obtain ⟨z1791, t1792, f1793⟩ := t_mul tx4_1v756 lit_104
            first | replace f1793 := f1793 (by omega) | clear f1793
            refine sX1_forget   (hI := hI) (tx1 := t1792) (tx2 := lit_8)  (hp := fun  w_1v817   hIw_1v817  => ?_)
            refine ⟨vp_of tx4_1v756 (by omega) (by omega), ?_⟩
            intro w_2v818 ew_2v818
            have hIw_2v818 := ixs_A hIw_1v817 ew_2v818 (by decide)
            unfold pX1_setUp_125
            intro w_1v819 ew_1v819
            have hIw_1v819 := ixs_A hIw_2v818 ew_1v819 (by decide)
            intro w_2v820 ew_2v820
            have hIw_2v820 := ixs_A hIw_1v819 ew_2v820 (by decide)
            intro w_3v821 ew_3v821
            have hIw_3v821 := ixs_A hIw_2v820 ew_3v821 (by decide)
            exact hp _ _ _  t1792 hIw_3v821 (by omega)
          · replace c1790 := c_neq tr_3v812 lit_0 c1790
            unfold pX1_setUp_113
            obtain ⟨z1794, t1795, f1796⟩ := t_mul tx4_1v756 lit_104
            first | replace f1796 := f1796 (by omega) | clear f1796
            refine sX1_forget   (hI := hI) (tx1 := t1795) (tx2 := lit_104)  (hp := fun  w_1v822   hIw_1v822  => ?_)
            refine ⟨vp_of tx4_1v756 (by omega) (by omega), ?_⟩
            intro w_2v823 ew_2v823
            have hIw_2v823 := ixs_A hIw_1v822 ew_2v823 (by decide)
            unfold pX1_setUp_125
            intro w_1v824 ew_1v824
            have hIw_1v824 := ixs_A hIw_2v823 ew_1v824 (by decide)
            intro w_2v825 ew_2v825
            have hIw_2v825 := ixs_A hIw_1v824 ew_2v825 (by decide)
            intro w_3v826 ew_3v826
            have hIw_3v826 := ixs_A hIw_2v825 ew_3v826 (by decide)
            exact hp _ _ _  t1795 hIw_3v826 (by omega)
set_option maxHeartbeats 4000000 in
set_option maxRecDepth 100000 in
theorem sX1_rowAfter_112 {T D : Int} {k : Nat} {post : Int32 → Wd → Prop}   (hp : ∀ (r : Int32) (zr : Int) (w9 : Wd), Ti r zr → IX k T D w9 → post r w9) : ∀ (n : Nat) (x2 : Int32) (x7 : Int32) (x8 : Int32) (x9 : Int32) (x10 : Int32) (x11 : Int32) (zx2 : Int) (zx7 : Int) (zx8 : Int) (zx9 : Int) (zx10 : Int) (zx11 : Int) (w : Wd), Ti x2 zx2 → Ti x7 zx7 → Ti x8 zx8 → Ti x9 zx9 → Ti x10 zx10 → Ti x11 zx11 → IX k T D w → (0 ≤ zx11 ∧ zx11 ≤ 12) → (zx8 ≤ 12) → (0 ≤ zx7 ∧ zx7 ≤ 4152) → (13 - zx11) < (n : Int) → pX1_rowAfter_112   post  n x2 x7 x8 x9 x10 x11 w := by
  intro n
  induction n with
  | zero =>
    intro x2 x7 x8 x9 x10 x11 zx2 zx7 zx8 zx9 zx10 zx11 w tx2 tx7 tx8 tx9 tx10 tx11 hI h0 h1 h2 hm
    exact absurd hm (by omega)
  | succ n ih =>
    intro x2 x7 x8 x9 x10 x11 zx2 zx7 zx8 zx9 zx10 zx11 w tx2 tx7 tx8 tx9 tx10 tx11 hI h0 h1 h2 hm
    unfold pX1_rowAfter_112
    have hk := ix_k hI
    refine ⟨fun c1797 => ?_, fun c1797 => ?_⟩
    · replace c1797 := c_le tx8 tx11 c1797
      exact hp _ _ _  tx10 hI 
    · replace c1797 := c_nle tx8 tx11 c1797
      obtain ⟨z1798, t1799, f1800⟩ := t_and (x := ((x9.toUInt32 >>> (x11.toUInt32 &&& Int32.toUInt32 31)).toInt32)) lit_7 (by decide)
      intro x12_2v827 ex12_2v827
      have tx12_2v827 : Ti x12_2v827 z1798 := by rw [ex12_2v827]; exact t1799
      obtain ⟨z1801, t1802, f1803⟩ := t_shl tx11
      first | replace f1803 := f1803 (by omega) | clear f1803
      intro x13_3v828 ex13_3v828
      have tx13_3v828 : Ti x13_3v828 z1801 := by rw [ex13_3v828]; exact t1802
      obtain ⟨z1804, t1805, f1806⟩ := t_add tx7 tx12_2v827
      first | replace f1806 := f1806 (by omega) | clear f1806
      refine ⟨vp_of t1805 (by omega) (by omega), ?_⟩
      obtain ⟨z1807, t1808⟩ := t_any ((w.2.1 43 (x7 + x12_2v827).toNatClampNeg) &&& x13_3v828)
      refine ⟨fun c1809 => ?_, fun c1809 => ?_⟩
      · replace c1809 := c_neq t1808 lit_0 c1809
        unfold pX1_rowAfter_162
        refine ⟨vp_of t1805 (by omega) (by omega), ?_⟩
        obtain ⟨z1810, t1811⟩ := t_any (x10 ||| ((w.2.1 44 (x7 + x12_2v827).toNatClampNeg) &&& x13_3v828))
        intro x10_1v830 ex10_1v830
        have tx10_1v830 : Ti x10_1v830 z1810 := by rw [ex10_1v830]; exact t1811
        obtain ⟨z1812, t1813, f1814⟩ := t_add tx11 lit_1
        first | replace f1814 := f1814 (by omega) | clear f1814
        intro x11_2v831 ex11_2v831
        have tx11_2v831 : Ti x11_2v831 z1812 := by rw [ex11_2v831]; exact t1813
        exact ih _ _ _ _ _ _ _ _ _ _ _ _ _ tx2 tx7 tx8 tx9 tx10_1v830 tx11_2v831 hI (by omega) (by omega) (by omega) (by omega)
      · replace c1809 := c_eq t1808 lit_0 c1809
        refine sX1_learn   (hI := hI) (tx1 := tx2) (tx2 := tx7) (tx3 := tx12_2v827) (tx4 := tx11)  (hp := fun  w_5v829   hIw_5v829  => ?_)
        unfold pX1_rowAfter_162
        refine ⟨vp_of t1805 (by omega) (by omega), ?_⟩
        obtain ⟨z1815, t1816⟩ := t_any (x10 ||| ((w_5v829.2.1 44 (x7 + x12_2v827).toNatClampNeg) &&& x13_3v828))
        intro x10_1v832 ex10_1v832
        have tx10_1v832 : Ti x10_1v832 z1815 := by rw [ex10_1v832]; exact t1816
        obtain ⟨z1817, t1818, f1819⟩ := t_add tx11 lit_1
        first | replace f1819 := f1819 (by omega) | clear f1819
        intro x11_2v833 ex11_2v833
        have tx11_2v833 : Ti x11_2v833 z1817 := by rw [ex11_2v833]; exact t1818
        exact ih _ _ _ _ _ _ _ _ _ _ _ _ _ tx2 tx7 tx8 tx9 tx10_1v832 tx11_2v833 hIw_5v829 (by omega) (by omega) (by omega) (by omega)
set_option maxHeartbeats 4000000 in
set_option maxRecDepth 100000 in
theorem sX1_rowAfter {T D : Int} {k : Nat} {post : Int32 → Wd → Prop} {x1 : Int32} {zx1 : Int} {x2 : Int32} {zx2 : Int} {x3 : Int32} {zx3 : Int} {x4 : Int32} {zx4 : Int} {w : Wd}  (tx1 : Ti x1 zx1) (tx2 : Ti x2 zx2) (tx3 : Ti x3 zx3) (tx4 : Ti x4 zx4) (hI : IX k T D w)  (hp : ∀ (r : Int32) (zr : Int) (w9 : Wd), Ti r zr → IX k T D w9 → post r w9) : pX1_rowAfter   post  x1 x2 x3 x4 w := by
  unfold pX1_rowAfter
  have hk := ix_k hI
  refine ⟨fun c1820 => ?_, fun c1820 => ?_⟩
  · replace c1820 := c_lt tx2 lit_0 c1820
    exact hp _ _ _  tx1 hI 
  · replace c1820 := c_nlt tx2 lit_0 c1820
    obtain ⟨z1821, t1822⟩ := t_any (w.1 (rl (w.2.2.2.2 3)) 2)
    have f1823 := ixg_r2 hI t1822
    refine ⟨fun c1824 => ?_, fun c1824 => ?_⟩
    · replace c1824 := c_le t1822 tx2 c1824
      exact hp _ _ _  tx1 hI 
    · replace c1824 := c_nle t1822 tx2 c1824
      refine sX10_isHeat   (hI := hI) (tx0 := tx3)  (hp := fun r_3v834 zr_3v834 tr_3v834 p1825 => ?_)
      refine ⟨fun c1826 => ?_, fun c1826 => ?_⟩
      · replace c1826 := c_neq tr_3v834 lit_0 c1826
        obtain ⟨z1827, t1828⟩ := t_any (w.1 (rl (w.2.2.2.2 3)) 0)
        have f1829 := ixg_r0 hI t1828
        refine sX10_turn   (hI := hI) (tx0 := tx1) (tx1 := t1828)  (hp := fun r_6v846 zr_6v846 tr_6v846 => ?_)
        refine sJ6_bitCount_0f7a4   (hI := hI) (tx0 := tr_6v846)  (hp := fun r_8v856 zr_8v856 tr_8v856 p1830 => ?_)
        refine sX1_setUp   (hI := hI) (tx1 := tx2) (tx2 := tx3) (tx3 := tx4) (h0 := (by omega)) (h1 := (by omega)) (hp := fun r_10v864 zr_10v864 w_11v865  tr_10v864 hIw_11v865 p1831 => ?_)
        refine sX7_isUsed   (hI := hIw_11v865) (tx1 := tx2) (tx2 := lit_4)  (hp := fun r_12v866 zr_12v866 tr_12v866 p1832 => ?_)
        refine ⟨fun c1833 => ?_, fun c1833 => ?_⟩
        · replace c1833 := c_eq tr_12v866 lit_0 c1833
          unfold pX1_rowAfter_91
          obtain ⟨z1834, t1835⟩ := t_any (w_11v865.1 (rl (w_11v865.2.2.2.2 3)) 0)
          have f1836 := ixg_r0 hIw_11v865 t1835
          intro x8_1v872 ex8_1v872
          have tx8_1v872 : Ti x8_1v872 z1834 := by rw [ex8_1v872]; exact t1835
          obtain ⟨z1837, t1838⟩ := t_any (r_6v846 <<< ((1 : Int32) &&& 31))
          intro x9_2v873 ex9_2v873
          have tx9_2v873 : Ti x9_2v873 z1837 := by rw [ex9_2v873]; exact t1838
          exact ⟨70000, sX1_rowAfter_112   (hp := hp) 70000 _ _ _ _ _ _ _ _ _ _ _ _ _ tx2 tr_10v864 tx8_1v872 tx9_2v873 lit_0 lit_0 hIw_11v865 (by omega) (by omega) (by omega) (by omega)⟩
        · replace c1833 := c_neq tr_12v866 lit_0 c1833
          refine ⟨fun c1839 => ?_, fun c1839 => ?_⟩
          · replace c1839 := c_lt lit_12 tr_8v856 c1839
            unfold pX1_rowAfter_91
            obtain ⟨z1840, t1841⟩ := t_any (w_11v865.1 (rl (w_11v865.2.2.2.2 3)) 0)
            have f1842 := ixg_r0 hIw_11v865 t1841
            intro x8_1v874 ex8_1v874
            have tx8_1v874 : Ti x8_1v874 z1840 := by rw [ex8_1v874]; exact t1841
            obtain ⟨z1843, t1844⟩ := t_any (r_6v846 <<< ((1 : Int32) &&& 31))
            intro x9_2v875 ex9_2v875
            have tx9_2v875 : Ti x9_2v875 z1843 := by rw [ex9_2v875]; exact t1844
            exact ⟨70000, sX1_rowAfter_112   (hp := hp) 70000 _ _ _ _ _ _ _ _ _ _ _ _ _ tx2 tr_10v864 tx8_1v874 tx9_2v875 lit_0 lit_0 hIw_11v865 (by omega) (by omega) (by omega) (by omega)⟩
          · replace c1839 := c_nlt lit_12 tr_8v856 c1839
            obtain ⟨z1845, t1846, f1847⟩ := t_mul tr_8v856 lit_8
            first | replace f1847 := f1847 (by omega) | clear f1847
            obtain ⟨z1848, t1849, f1850⟩ := t_add tr_10v864 t1846
            first | replace f1850 := f1850 (by omega) | clear f1850
            intro x7_16v870 ex7_16v870
            have tx7_16v870 : Ti x7_16v870 z1848 := by rw [ex7_16v870]; exact t1849
            intro w_17v871 ew_17v871
            have hIw_17v871 := ixs_A hIw_11v865 ew_17v871 (by decide)
            unfold pX1_rowAfter_91
            obtain ⟨z1852, t1853⟩ := t_any (w_11v865.1 (rl (w_17v871.2.2.2.2 3)) 0)
            have f1854 := ixg_r0 hIw_11v865 t1853
            have t1851 : Ti (w_17v871.1 (rl (w_17v871.2.2.2.2 3)) 0) z1852 := by rw [e1_A ew_17v871]; exact t1853
            intro x8_1v876 ex8_1v876
            have tx8_1v876 : Ti x8_1v876 z1852 := by rw [ex8_1v876]; exact t1851
            obtain ⟨z1855, t1856⟩ := t_any (r_6v846 <<< ((1 : Int32) &&& 31))
            intro x9_2v877 ex9_2v877
            have tx9_2v877 : Ti x9_2v877 z1855 := by rw [ex9_2v877]; exact t1856
            exact ⟨70000, sX1_rowAfter_112   (hp := hp) 70000 _ _ _ _ _ _ _ _ _ _ _ _ _ tx2 tx7_16v870 tx8_1v876 tx9_2v877 lit_0 lit_0 hIw_17v871 (by omega) (by omega) (by omega) (by omega)⟩
      · replace c1826 := c_eq tr_3v834 lit_0 c1826
        exact hp _ _ _  tx1 hI 
set_option maxHeartbeats 4000000 in
set_option maxRecDepth 100000 in
theorem sX10_would {T D : Int} {k : Nat} {post : Int32 → Wd → Prop} {x1 : Int32} {zx1 : Int} {x2 : Int32} {zx2 : Int} {x3 : Int32} {zx3 : Int} {x4 : Int32} {zx4 : Int} {w : Wd}  (tx1 : Ti x1 zx1) (tx2 : Ti x2 zx2) (tx3 : Ti x3 zx3) (tx4 : Ti x4 zx4) (hI : IX k T D w)  (hp : ∀ (r : Int32) (zr : Int) (w9 : Wd), Ti r zr → IX k T D w9 → post r w9) : pX10_would   post  x1 x2 x3 x4 w := by
  unfold pX10_would
  have hk := ix_k hI
  refine sX10_isRow   (hI := hI) (tx1 := tx1)  (hp := fun r_1v878 zr_1v878 tr_1v878 p1857 => ?_)
  refine ⟨fun c1858 => ?_, fun c1858 => ?_⟩
  · replace c1858 := c_eq tr_1v878 lit_0 c1858
    exact hp _ _ _  lit_m1 hI 
  · replace c1858 := c_neq tr_1v878 lit_0 c1858
    refine sX10_isHand   (hI := hI) (tx1 := tx2)  (hp := fun r_4v886 zr_4v886 tr_4v886 p1859 => ?_)
    refine ⟨fun c1860 => ?_, fun c1860 => ?_⟩
    · replace c1860 := c_eq tr_4v886 lit_0 c1860
      exact hp _ _ _  lit_m1 hI 
    · replace c1860 := c_neq tr_4v886 lit_0 c1860
      refine sX10_isHeat   (hI := hI) (tx0 := tx3)  (hp := fun r_7v892 zr_7v892 tr_7v892 p1861 => ?_)
      refine ⟨fun c1862 => ?_, fun c1862 => ?_⟩
      · replace c1862 := c_eq tr_7v892 lit_0 c1862
        exact hp _ _ _  lit_m1 hI 
      · replace c1862 := c_neq tr_7v892 lit_0 c1862
        refine ⟨fun c1863 => ?_, fun c1863 => ?_⟩
        · replace c1863 := c_lt tx4 lit_0 c1863
          exact hp _ _ _  lit_m1 hI 
        · replace c1863 := c_nlt tx4 lit_0 c1863
          refine ⟨fun c1864 => ?_, fun c1864 => ?_⟩
          · replace c1864 := c_lt tx4 lit_100 c1864
            refine sX1_rowAfter   (hI := hI) (tx1 := tx1) (tx2 := tx2) (tx3 := tx3) (tx4 := tx4)  (hp := fun r_12v896 zr_12v896 w_13v897  tr_12v896 hIw_13v897  => ?_)
            exact hp _ _ _  tr_12v896 hIw_13v897 
          · replace c1864 := c_nlt tx4 lit_100 c1864
            exact hp _ _ _  lit_m1 hI 
set_option maxHeartbeats 4000000 in
set_option maxRecDepth 100000 in
theorem sX0_dropOldest {T D : Int} {k : Nat} {post : Wd → Prop}  {w : Wd}   (hI : IX k T D w)  (hp : ∀ (w9 : Wd), IX k T 39 w9 → post w9) : pX0_dropOldest   post   w := by
  unfold pX0_dropOldest
  have hk := ix_k hI
  intro w_1v898 ew_1v898
  have hIw_1v898 := ixs_C hI ew_1v898 (by decide)
  intro w_2v899 ew_2v899
  have hIw_2v899 := ixs_C hIw_1v898 ew_2v899 (by decide)
  intro w_3v900 ew_3v900
  have hIw_3v900 := ixs_C hIw_2v899 ew_3v900 (by decide)
  intro w_4v901 ew_4v901
  have hIw_4v901 := ixs_C hIw_3v900 ew_4v901 (by decide)
  intro w_5v902 ew_5v902
  have hIw_5v902 := ixs_C hIw_4v901 ew_5v902 (by decide)
  intro w_6v903 ew_6v903
  have hIw_6v903 := ixs_50_7 hIw_5v902 ew_6v903 lit_39 (by omega) (by omega)
  exact hp  _   hIw_6v903 
set_option maxHeartbeats 4000000 in
set_option maxRecDepth 100000 in
theorem sX2_addSeal {T D : Int} {k : Nat} {post : Wd → Prop} {x1 : Int32} {zx1 : Int} {x2 : Int32} {zx2 : Int} {x3 : Int32} {zx3 : Int} {w : Wd}  (tx1 : Ti x1 zx1) (tx2 : Ti x2 zx2) (tx3 : Ti x3 zx3) (hI : IX k T D w)  (hp : ∀ (w9 : Wd), IX k T D w9 → post w9) : pX2_addSeal   post  x1 x2 x3 w := by
  unfold pX2_addSeal
  have hk := ix_k hI
  obtain ⟨z1865, t1866⟩ := t_any (w.1 160 0)
  have f1867 := ixg_c0 hI t1866
  refine ⟨fun c1868 => ?_, fun c1868 => ?_⟩
  · replace c1868 := c_lt t1866 lit_0 c1868
    exact hp  _   hI 
  · replace c1868 := c_nlt t1866 lit_0 c1868
    refine ⟨fun c1869 => ?_, fun c1869 => ?_⟩
    · replace c1869 := c_le lit_24 t1866 c1869
      exact hp  _   hI 
    · replace c1869 := c_nle lit_24 t1866 c1869
      refine ⟨fun c1870 => ?_, fun c1870 => ?_⟩
      · replace c1870 := c_lt tx2 lit_0 c1870
        exact hp  _   hI 
      · replace c1870 := c_nlt tx2 lit_0 c1870
        refine ⟨fun c1871 => ?_, fun c1871 => ?_⟩
        · replace c1871 := c_lt tx2 t1866 c1871
          refine ⟨vp_of t1866 (by omega) (by omega), ?_⟩
          intro w_5v904 ew_5v904
          have hIw_5v904 := ixs_A hI ew_5v904 (by decide)
          have t1872 : Ti (w_5v904.1 160 0) z1865 := by rw [e1_A ew_5v904]; exact t1866
          refine ⟨vp_of t1872 (by omega) (by omega), ?_⟩
          intro w_6v905 ew_6v905
          have hIw_6v905 := ixs_A hIw_5v904 ew_6v905 (by decide)
          have t1873 : Ti (w_6v905.1 160 0) z1865 := by rw [e1_A ew_6v905]; exact t1872
          refine ⟨vp_of t1873 (by omega) (by omega), ?_⟩
          intro w_7v906 ew_7v906
          have hIw_7v906 := ixs_A hIw_6v905 ew_7v906 (by decide)
          have t1874 : Ti (w_7v906.1 160 0) z1865 := by rw [e1_A ew_7v906]; exact t1873
          refine ⟨vp_of t1874 (by omega) (by omega), ?_⟩
          intro w_8v907 ew_8v907
          have hIw_8v907 := ixs_A hIw_7v906 ew_8v907 (by decide)
          refine ⟨vp_of tx2 (by omega) (by omega), ?_⟩
          have t1875 : Ti (w_8v907.1 160 0) z1865 := by rw [e1_A ew_8v907]; exact t1874
          refine ⟨vp_of t1875 (by omega) (by omega), ?_⟩
          intro w_9v908 ew_9v908
          have hIw_9v908 := ixs_A hIw_8v907 ew_9v908 (by decide)
          intro w_10v909 ew_10v909
          have t1876 : Ti (w_9v908.1 160 0) z1865 := by rw [e1_A ew_9v908]; exact t1875
          obtain ⟨z1877, t1878, f1879⟩ := t_add t1876 lit_1
          first | replace f1879 := f1879 (by omega) | clear f1879
          have hIw_10v909 := ixs_c0 (c := 0) hIw_9v908 ew_10v909 t1878 (by omega) (by omega)
          exact hp  _   hIw_10v909 
        · replace c1871 := c_nlt tx2 t1866 c1871
          exact hp  _   hI 
set_option maxHeartbeats 4000000 in
set_option maxRecDepth 100000 in
theorem sX0_makeCast {T D : Int} {k : Nat} {post : Wd → Prop} {x1 : Int32} {zx1 : Int} {x2 : Int32} {zx2 : Int} {x3 : Int32} {zx3 : Int} {w : Wd}  (tx1 : Ti x1 zx1) (tx2 : Ti x2 zx2) (tx3 : Ti x3 zx3) (hI : IX k T D w)  (hp : ∀ (w9 : Wd), IX k T D w9 → post w9) : pX0_makeCast   post  x1 x2 x3 w := by
  unfold pX0_makeCast
  have hk := ix_k hI
  refine ⟨fun c1880 => ?_, fun c1880 => ?_⟩
  · replace c1880 := c_lt tx1 lit_0 c1880
    exact hp  _   hI 
  · replace c1880 := c_nlt tx1 lit_0 c1880
    obtain ⟨z1881, t1882⟩ := t_any (w.1 160 0)
    have f1883 := ixg_c0 hI t1882
    refine ⟨fun c1884 => ?_, fun c1884 => ?_⟩
    · replace c1884 := c_lt tx1 t1882 c1884
      intro w_3v910 ew_3v910
      have hIw_3v910 := ixs_n hI ew_3v910 (by unfold nX; omega)
      refine ⟨vp_of tx1 (by omega) (by omega), ?_⟩
      obtain ⟨z1885, t1886⟩ := t_any (w_3v910.2.1 162 x1.toNatClampNeg)
      obtain ⟨z1888, t1889⟩ := t_any (w.1 160 13)
      obtain ⟨z1890, t1891, f1892⟩ := t_mul t1889 lit_137
      first | replace f1892 := f1892 (by omega) | clear f1892
      obtain ⟨z1893, t1894, f1895⟩ := t_add t1891 lit_71
      first | replace f1895 := f1895 (by omega) | clear f1895
      obtain ⟨z1896, t1897, f1898⟩ := t_rem t1894 lit_1000
      first | replace f1898 := f1898 (by omega) | clear f1898
      have t1887 : Ti (w_3v910.1 160 13) z1896 := by rw [ew_3v910, sI_at]; exact t1897
      obtain ⟨z1899, t1900, f1901⟩ := t_rem t1887 lit_100
      first | replace f1901 := f1901 (by omega) | clear f1901
      refine sX1_rowAfter   (hI := hIw_3v910) (tx1 := t1886) (tx2 := tx2) (tx3 := tx3) (tx4 := t1900)  (hp := fun r_4v911 zr_4v911 w_5v912  tr_4v911 hIw_5v912  => ?_)
      refine sX2_addSeal   (hI := hIw_5v912) (tx1 := tr_4v911) (tx2 := tx1) (tx3 := tx2)  (hp := fun  w_6v913   hIw_6v913  => ?_)
      intro w_7v914 ew_7v914
      have hIw_7v914 := ixs_n hIw_6v913 ew_7v914 (by unfold nX; omega)
      exact hp  _   hIw_7v914 
    · replace c1884 := c_nlt tx1 t1882 c1884
      exact hp  _   hI 
set_option maxHeartbeats 4000000 in
set_option maxRecDepth 100000 in
theorem sX2_addPrint {T D : Int} {k : Nat} {post : Wd → Prop} {x1 : Int32} {zx1 : Int} {w : Wd}  (tx1 : Ti x1 zx1) (hI : IX k T D w)  (hp : ∀ (w9 : Wd), IX k T D w9 → post w9) : pX2_addPrint   post  x1 w := by
  unfold pX2_addPrint
  have hk := ix_k hI
  obtain ⟨z1902, t1903⟩ := t_any (w.1 160 6)
  have f1904 := ixg_c6 hI t1903
  refine ⟨fun c1905 => ?_, fun c1905 => ?_⟩
  · replace c1905 := c_lt t1903 lit_0 c1905
    exact hp  _   hI 
  · replace c1905 := c_nlt t1903 lit_0 c1905
    refine ⟨fun c1906 => ?_, fun c1906 => ?_⟩
    · replace c1906 := c_le lit_40 t1903 c1906
      exact hp  _   hI 
    · replace c1906 := c_nle lit_40 t1903 c1906
      refine ⟨fun c1907 => ?_, fun c1907 => ?_⟩
      · replace c1907 := c_lt tx1 lit_0 c1907
        exact hp  _   hI 
      · replace c1907 := c_nlt tx1 lit_0 c1907
        obtain ⟨z1908, t1909⟩ := t_any (w.1 160 0)
        have f1910 := ixg_c0 hI t1909
        refine ⟨fun c1911 => ?_, fun c1911 => ?_⟩
        · replace c1911 := c_lt tx1 t1909 c1911
          refine ⟨vp_of tx1 (by omega) (by omega), ?_⟩
          obtain ⟨z1912, t1913⟩ := t_any (w.2.1 162 x1.toNatClampNeg)
          obtain ⟨z1914, t1915⟩ := t_any (w.1 160 10)
          refine sX10_turn   (hI := hI) (tx0 := t1913) (tx1 := t1915)  (hp := fun r_5v915 zr_5v915 tr_5v915 => ?_)
          refine ⟨vp_of t1903 (by omega) (by omega), ?_⟩
          intro w_7v921 ew_7v921
          have hIw_7v921 := ixs_A hI ew_7v921 (by decide)
          have t1916 : Ti (w_7v921.1 160 6) z1902 := by rw [e1_A ew_7v921]; exact t1903
          refine ⟨vp_of t1916 (by omega) (by omega), ?_⟩
          intro w_8v922 ew_8v922
          have hIw_8v922 := ixs_A hIw_7v921 ew_8v922 (by decide)
          have t1917 : Ti (w_8v922.1 160 6) z1902 := by rw [e1_A ew_8v922]; exact t1916
          refine ⟨vp_of t1917 (by omega) (by omega), ?_⟩
          intro w_9v923 ew_9v923
          have hIw_9v923 := ixs_A hIw_8v922 ew_9v923 (by decide)
          intro w_10v924 ew_10v924
          have t1918 : Ti (w_9v923.1 160 6) z1902 := by rw [e1_A ew_9v923]; exact t1917
          obtain ⟨z1919, t1920, f1921⟩ := t_add t1918 lit_1
          first | replace f1921 := f1921 (by omega) | clear f1921
          have hIw_10v924 := ixs_c6 (c := 0) hIw_9v923 ew_10v924 t1920 (by omega) (by omega)
          exact hp  _   hIw_10v924 
        · replace c1911 := c_nlt tx1 t1909 c1911
          exact hp  _   hI 
set_option maxHeartbeats 4000000 in
set_option maxRecDepth 100000 in
theorem sX2_flip {T D : Int} {k : Nat} {post : Wd → Prop} {x1 : Int32} {zx1 : Int} {x2 : Int32} {zx2 : Int} {w : Wd}  (tx1 : Ti x1 zx1) (tx2 : Ti x2 zx2) (hI : IX k T D w)  (hp : ∀ (w9 : Wd), IX k T D w9 → post w9) : pX2_flip   post  x1 x2 w := by
  unfold pX2_flip
  have hk := ix_k hI
  refine ⟨fun c1922 => ?_, fun c1922 => ?_⟩
  · replace c1922 := c_lt tx1 lit_0 c1922
    exact hp  _   hI 
  · replace c1922 := c_nlt tx1 lit_0 c1922
    obtain ⟨z1923, t1924⟩ := t_any (w.1 160 0)
    have f1925 := ixg_c0 hI t1924
    refine ⟨fun c1926 => ?_, fun c1926 => ?_⟩
    · replace c1926 := c_le t1924 tx1 c1926
      exact hp  _   hI 
    · replace c1926 := c_nle t1924 tx1 c1926
      refine ⟨vp_of tx1 (by omega) (by omega), ?_⟩
      refine ⟨vp_of tx1 (by omega) (by omega), ?_⟩
      intro w_3v925 ew_3v925
      have hIw_3v925 := ixs_A hI ew_3v925 (by decide)
      exact hp  _   hIw_3v925 
set_option maxHeartbeats 4000000 in
set_option maxRecDepth 100000 in
theorem sX0_perform {T D : Int} {k : Nat} {post : Wd → Prop} {x1 : Int32} {zx1 : Int} {w : Wd}  (tx1 : Ti x1 zx1) (hI : IX k T D w) (h0 : 0 ≤ zx1 ∧ zx1 ≤ 39) (hp : ∀ (w9 : Wd), IX k T D w9 → post w9) : pX0_perform   post  x1 w := by
  unfold pX0_perform
  have hk := ix_k hI
  refine ⟨vp_of tx1 (by omega) (by omega), ?_⟩
  obtain ⟨z1927, t1928⟩ := t_any (w.2.1 53 x1.toNatClampNeg)
  refine ⟨fun c1929 => ?_, fun c1929 => ?_, fun c1929 => ?_, fun c1929 => ?_⟩
  · rw [show (w.2.1 53 x1.toNatClampNeg).toInt = z1927 from t1928] at c1929
    intro w_2v926 ew_2v926
    have hIw_2v926 := ixs_n hI ew_2v926 (by unfold nX; omega)
    exact hp  _   hIw_2v926 
  · rw [show (w.2.1 53 x1.toNatClampNeg).toInt = z1927 from t1928] at c1929
    refine ⟨vp_of tx1 (by omega) (by omega), ?_⟩
    refine ⟨vp_of tx1 (by omega) (by omega), ?_⟩
    refine ⟨vp_of tx1 (by omega) (by omega), ?_⟩
    obtain ⟨z1930, t1931⟩ := t_any (w.2.1 54 x1.toNatClampNeg)
    obtain ⟨z1932, t1933⟩ := t_any (w.2.1 55 x1.toNatClampNeg)
    obtain ⟨z1934, t1935⟩ := t_any (w.2.1 56 x1.toNatClampNeg)
    refine sX0_makeCast   (hI := hI) (tx1 := t1931) (tx2 := t1933) (tx3 := t1935)  (hp := fun  w_3v927   hIw_3v927  => ?_)
    exact hp  _   hIw_3v927 
  · rw [show (w.2.1 53 x1.toNatClampNeg).toInt = z1927 from t1928] at c1929
    refine ⟨vp_of tx1 (by omega) (by omega), ?_⟩
    obtain ⟨z1936, t1937⟩ := t_any (w.2.1 54 x1.toNatClampNeg)
    refine sX2_addPrint   (hI := hI) (tx1 := t1937)  (hp := fun  w_4v928   hIw_4v928  => ?_)
    intro w_5v929 ew_5v929
    have hIw_5v929 := ixs_n hIw_4v928 ew_5v929 (by unfold nX; omega)
    exact hp  _   hIw_5v929 
  · rw [show (w.2.1 53 x1.toNatClampNeg).toInt = z1927 from t1928] at c1929
    refine ⟨vp_of tx1 (by omega) (by omega), ?_⟩
    refine ⟨vp_of tx1 (by omega) (by omega), ?_⟩
    obtain ⟨z1938, t1939⟩ := t_any (w.2.1 54 x1.toNatClampNeg)
    obtain ⟨z1940, t1941⟩ := t_any (w.2.1 55 x1.toNatClampNeg)
    refine sX2_flip   (hI := hI) (tx1 := t1939) (tx2 := t1941)  (hp := fun  w_6v930   hIw_6v930  => ?_)
    exact hp  _   hIw_6v930 
set_option maxHeartbeats 4000000 in
set_option maxRecDepth 100000 in
theorem sX0_add {T D : Int} {k : Nat} {post : Wd → Prop} {x1 : Int32} {zx1 : Int} {x2 : Int32} {zx2 : Int} {x3 : Int32} {zx3 : Int} {x4 : Int32} {zx4 : Int} {w : Wd}  (tx1 : Ti x1 zx1) (tx2 : Ti x2 zx2) (tx3 : Ti x3 zx3) (tx4 : Ti x4 zx4) (hI : IX k T D w)  (hp : ∀ (w9 : Wd) (D9 : Int), IX k T D9 w9 → post w9) : pX0_add   post  x1 x2 x3 x4 w := by
  unfold pX0_add
  have hk := ix_k hI
  obtain ⟨z1942, t1943⟩ := t_any (w.1 50 7)
  have f1944 := ixg_50_7 hI t1943
  refine ⟨fun c1945 => ?_, fun c1945 => ?_⟩
  · replace c1945 := c_lt t1943 lit_40 c1945
    unfold pX0_add_13
    refine ⟨fun c1946 => ?_, fun c1946 => ?_⟩
    · replace c1946 := c_lt t1943 lit_0 c1946
      exact hp  _ _  hI 
    · replace c1946 := c_nlt t1943 lit_0 c1946
      refine ⟨fun c1947 => ?_, fun c1947 => ?_⟩
      · replace c1947 := c_lt t1943 lit_40 c1947
        refine ⟨vp_of t1943 (by omega) (by omega), ?_⟩
        intro w_3v932 ew_3v932
        have hIw_3v932 := ixs_A hI ew_3v932 (by decide)
        have t1948 : Ti (w_3v932.1 50 7) z1942 := by rw [e1_A ew_3v932]; exact t1943
        refine ⟨vp_of t1948 (by omega) (by omega), ?_⟩
        intro w_4v933 ew_4v933
        have hIw_4v933 := ixs_A hIw_3v932 ew_4v933 (by decide)
        have t1949 : Ti (w_4v933.1 50 7) z1942 := by rw [e1_A ew_4v933]; exact t1948
        refine ⟨vp_of t1949 (by omega) (by omega), ?_⟩
        intro w_5v934 ew_5v934
        have hIw_5v934 := ixs_A hIw_4v933 ew_5v934 (by decide)
        have t1950 : Ti (w_5v934.1 50 7) z1942 := by rw [e1_A ew_5v934]; exact t1949
        refine ⟨vp_of t1950 (by omega) (by omega), ?_⟩
        intro w_6v935 ew_6v935
        have hIw_6v935 := ixs_A hIw_5v934 ew_6v935 (by decide)
        have t1951 : Ti (w_6v935.1 50 7) z1942 := by rw [e1_A ew_6v935]; exact t1950
        refine ⟨vp_of t1951 (by omega) (by omega), ?_⟩
        intro w_7v936 ew_7v936
        have hIw_7v936 := ixs_A hIw_6v935 ew_7v936 (by decide)
        have t1952 : Ti (w_7v936.1 50 7) z1942 := by rw [e1_A ew_7v936]; exact t1951
        refine sX0_perform   (hI := hIw_7v936) (tx1 := t1952) (h0 := (by omega)) (hp := fun  w_8v937   hIw_8v937  => ?_)
        intro w_9v938 ew_9v938
        obtain ⟨z1953, t1954⟩ := t_any (w_8v937.1 50 7)
        have f1955 := ixg_50_7 hIw_8v937 t1954
        obtain ⟨z1956, t1957, f1958⟩ := t_add t1954 lit_1
        first | replace f1958 := f1958 (by omega) | clear f1958
        have hIw_9v938 := ixs_50_7 hIw_8v937 ew_9v938 t1957 (by omega) (by omega)
        intro w_10v939 ew_10v939
        have hIw_10v939 := ixs_n hIw_9v938 ew_10v939 (by unfold nX; omega)
        exact hp  _ _  hIw_10v939 
      · replace c1947 := c_nlt t1943 lit_40 c1947
        exact hp  _ _  hI 
  · replace c1945 := c_nlt t1943 lit_40 c1945
    refine sX0_dropOldest   (hI := hI)   (hp := fun  w_2v931   hIw_2v931  => ?_)
    unfold pX0_add_13
    obtain ⟨z1959, t1960⟩ := t_any (w_2v931.1 50 7)
    have f1961 := ixg_50_7 hIw_2v931 t1960
    refine ⟨fun c1962 => ?_, fun c1962 => ?_⟩
    · replace c1962 := c_lt t1960 lit_0 c1962
      exact hp  _ _  hIw_2v931 
    · replace c1962 := c_nlt t1960 lit_0 c1962
      refine ⟨fun c1963 => ?_, fun c1963 => ?_⟩
      · replace c1963 := c_lt t1960 lit_40 c1963
        refine ⟨vp_of t1960 (by omega) (by omega), ?_⟩
        intro w_3v940 ew_3v940
        have hIw_3v940 := ixs_A hIw_2v931 ew_3v940 (by decide)
        have t1964 : Ti (w_3v940.1 50 7) z1959 := by rw [e1_A ew_3v940]; exact t1960
        refine ⟨vp_of t1964 (by omega) (by omega), ?_⟩
        intro w_4v941 ew_4v941
        have hIw_4v941 := ixs_A hIw_3v940 ew_4v941 (by decide)
        have t1965 : Ti (w_4v941.1 50 7) z1959 := by rw [e1_A ew_4v941]; exact t1964
        refine ⟨vp_of t1965 (by omega) (by omega), ?_⟩
        intro w_5v942 ew_5v942
        have hIw_5v942 := ixs_A hIw_4v941 ew_5v942 (by decide)
        have t1966 : Ti (w_5v942.1 50 7) z1959 := by rw [e1_A ew_5v942]; exact t1965
        refine ⟨vp_of t1966 (by omega) (by omega), ?_⟩
        intro w_6v943 ew_6v943
        have hIw_6v943 := ixs_A hIw_5v942 ew_6v943 (by decide)
        have t1967 : Ti (w_6v943.1 50 7) z1959 := by rw [e1_A ew_6v943]; exact t1966
        refine ⟨vp_of t1967 (by omega) (by omega), ?_⟩
        intro w_7v944 ew_7v944
        have hIw_7v944 := ixs_A hIw_6v943 ew_7v944 (by decide)
        have t1968 : Ti (w_7v944.1 50 7) z1959 := by rw [e1_A ew_7v944]; exact t1967
        refine sX0_perform   (hI := hIw_7v944) (tx1 := t1968) (h0 := (by omega)) (hp := fun  w_8v945   hIw_8v945  => ?_)
        intro w_9v946 ew_9v946
        obtain ⟨z1969, t1970⟩ := t_any (w_8v945.1 50 7)
        have f1971 := ixg_50_7 hIw_8v945 t1970
        obtain ⟨z1972, t1973, f1974⟩ := t_add t1970 lit_1
        first | replace f1974 := f1974 (by omega) | clear f1974
        have hIw_9v946 := ixs_50_7 hIw_8v945 ew_9v946 t1973 (by omega) (by omega)
        intro w_10v947 ew_10v947
        have hIw_10v947 := ixs_n hIw_9v946 ew_10v947 (by unfold nX; omega)
        exact hp  _ _  hIw_10v947 
      · replace c1963 := c_nlt t1960 lit_40 c1963
        exact hp  _ _  hIw_2v931 
