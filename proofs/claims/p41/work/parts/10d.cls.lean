set_option maxHeartbeats 4000000 in
set_option maxRecDepth 100000 in
theorem sX8_splitSign {T D : Int} {k : Nat} {post : Int32 → Wd → Prop} {x1 : Int32} {zx1 : Int} {x2 : Int32} {zx2 : Int} {x3 : Int32} {zx3 : Int} {w : Wd}  (tx1 : Ti x1 zx1) (tx2 : Ti x2 zx2) (tx3 : Ti x3 zx3) (hI : IX k T D w)  (hp : ∀ (r : Int32) (zr : Int) (w9 : Wd), Ti r zr → IX k T D w9 → post r w9) : pX8_splitSign   post  x1 x2 x3 w := by
  unfold pX8_splitSign
  have hk := ix_k hI
  refine ⟨fun c928 => ?_, fun c928 => ?_⟩
  · replace c928 := c_le tx1 lit_32 c928
    unfold pX8_splitSign_17
    unfold pX8_splitSign_18
    refine ⟨fun c929 => ?_, fun c929 => ?_⟩
    · replace c929 := c_eq tx1 lit_59 c929
      unfold pX8_splitSign_43
      refine sX8_add   (hI := hI) (tx1 := tx1) (tx2 := tx2)  (hp := fun  w_1v430   hIw_1v430  => ?_)
      obtain ⟨z930, t931, f932⟩ := t_add tx2 lit_1
      first | replace f932 := f932 (by omega) | clear f932
      exact hp _ _ _  t931 hIw_1v430 
    · replace c929 := c_neq tx1 lit_59 c929
      refine ⟨fun c933 => ?_, fun c933 => ?_⟩
      · replace c933 := c_eq tx1 lit_40 c933
        unfold pX8_splitSign_43
        refine sX8_add   (hI := hI) (tx1 := tx1) (tx2 := tx2)  (hp := fun  w_1v431   hIw_1v431  => ?_)
        obtain ⟨z934, t935, f936⟩ := t_add tx2 lit_1
        first | replace f936 := f936 (by omega) | clear f936
        exact hp _ _ _  t935 hIw_1v431 
      · replace c933 := c_neq tx1 lit_40 c933
        refine ⟨fun c937 => ?_, fun c937 => ?_⟩
        · replace c937 := c_eq tx1 lit_41 c937
          unfold pX8_splitSign_43
          refine sX8_add   (hI := hI) (tx1 := tx1) (tx2 := tx2)  (hp := fun  w_1v432   hIw_1v432  => ?_)
          obtain ⟨z938, t939, f940⟩ := t_add tx2 lit_1
          first | replace f940 := f940 (by omega) | clear f940
          exact hp _ _ _  t939 hIw_1v432 
        · replace c937 := c_neq tx1 lit_41 c937
          refine ⟨fun c941 => ?_, fun c941 => ?_⟩
          · replace c941 := c_eq lit_0 lit_0 c941
            refine sX8_add   (hI := hI) (tx1 := lit_23) (tx2 := tx2)  (hp := fun  w_5v429   hIw_5v429  => ?_)
            exact hp _ _ _  tx3 hIw_5v429 
          · replace c941 := c_neq lit_0 lit_0 c941
            unfold pX8_splitSign_43
            refine sX8_add   (hI := hI) (tx1 := tx1) (tx2 := tx2)  (hp := fun  w_1v433   hIw_1v433  => ?_)
            obtain ⟨z942, t943, f944⟩ := t_add tx2 lit_1
            first | replace f944 := f944 (by omega) | clear f944
            exact hp _ _ _  t943 hIw_1v433 
  · replace c928 := c_nle tx1 lit_32 c928
    refine sX8_rankOf   (hI := hI) (tx0 := tx1)  (hp := fun r_2v427 zr_2v427 tr_2v427 => ?_)
    refine ⟨fun c945 => ?_, fun c945 => ?_⟩
    · replace c945 := c_lt tr_2v427 lit_0 c945
      unfold pX8_splitSign_17
      unfold pX8_splitSign_18
      refine ⟨fun c946 => ?_, fun c946 => ?_⟩
      · replace c946 := c_eq tx1 lit_59 c946
        unfold pX8_splitSign_43
        refine sX8_add   (hI := hI) (tx1 := tx1) (tx2 := tx2)  (hp := fun  w_1v435   hIw_1v435  => ?_)
        obtain ⟨z947, t948, f949⟩ := t_add tx2 lit_1
        first | replace f949 := f949 (by omega) | clear f949
        exact hp _ _ _  t948 hIw_1v435 
      · replace c946 := c_neq tx1 lit_59 c946
        refine ⟨fun c950 => ?_, fun c950 => ?_⟩
        · replace c950 := c_eq tx1 lit_40 c950
          unfold pX8_splitSign_43
          refine sX8_add   (hI := hI) (tx1 := tx1) (tx2 := tx2)  (hp := fun  w_1v436   hIw_1v436  => ?_)
          obtain ⟨z951, t952, f953⟩ := t_add tx2 lit_1
          first | replace f953 := f953 (by omega) | clear f953
          exact hp _ _ _  t952 hIw_1v436 
        · replace c950 := c_neq tx1 lit_40 c950
          refine ⟨fun c954 => ?_, fun c954 => ?_⟩
          · replace c954 := c_eq tx1 lit_41 c954
            unfold pX8_splitSign_43
            refine sX8_add   (hI := hI) (tx1 := tx1) (tx2 := tx2)  (hp := fun  w_1v437   hIw_1v437  => ?_)
            obtain ⟨z955, t956, f957⟩ := t_add tx2 lit_1
            first | replace f957 := f957 (by omega) | clear f957
            exact hp _ _ _  t956 hIw_1v437 
          · replace c954 := c_neq tx1 lit_41 c954
            refine ⟨fun c958 => ?_, fun c958 => ?_⟩
            · replace c958 := c_eq lit_0 lit_0 c958
              refine sX8_add   (hI := hI) (tx1 := lit_23) (tx2 := tx2)  (hp := fun  w_5v434   hIw_5v434  => ?_)
              exact hp _ _ _  tx3 hIw_5v434 
            · replace c958 := c_neq lit_0 lit_0 c958
              unfold pX8_splitSign_43
              refine sX8_add   (hI := hI) (tx1 := tx1) (tx2 := tx2)  (hp := fun  w_1v438   hIw_1v438  => ?_)
              obtain ⟨z959, t960, f961⟩ := t_add tx2 lit_1
              first | replace f961 := f961 (by omega) | clear f961
              exact hp _ _ _  t960 hIw_1v438 
    · replace c945 := c_nlt tr_2v427 lit_0 c945
      unfold pX8_splitSign_18
      refine ⟨fun c962 => ?_, fun c962 => ?_⟩
      · replace c962 := c_eq tx1 lit_59 c962
        unfold pX8_splitSign_43
        refine sX8_add   (hI := hI) (tx1 := tx1) (tx2 := tx2)  (hp := fun  w_1v440   hIw_1v440  => ?_)
        obtain ⟨z963, t964, f965⟩ := t_add tx2 lit_1
        first | replace f965 := f965 (by omega) | clear f965
        exact hp _ _ _  t964 hIw_1v440 
      · replace c962 := c_neq tx1 lit_59 c962
        refine ⟨fun c966 => ?_, fun c966 => ?_⟩
        · replace c966 := c_eq tx1 lit_40 c966
          unfold pX8_splitSign_43
          refine sX8_add   (hI := hI) (tx1 := tx1) (tx2 := tx2)  (hp := fun  w_1v441   hIw_1v441  => ?_)
          obtain ⟨z967, t968, f969⟩ := t_add tx2 lit_1
          first | replace f969 := f969 (by omega) | clear f969
          exact hp _ _ _  t968 hIw_1v441 
        · replace c966 := c_neq tx1 lit_40 c966
          refine ⟨fun c970 => ?_, fun c970 => ?_⟩
          · replace c970 := c_eq tx1 lit_41 c970
            unfold pX8_splitSign_43
            refine sX8_add   (hI := hI) (tx1 := tx1) (tx2 := tx2)  (hp := fun  w_1v442   hIw_1v442  => ?_)
            obtain ⟨z971, t972, f973⟩ := t_add tx2 lit_1
            first | replace f973 := f973 (by omega) | clear f973
            exact hp _ _ _  t972 hIw_1v442 
          · replace c970 := c_neq tx1 lit_41 c970
            refine ⟨fun c974 => ?_, fun c974 => ?_⟩
            · replace c974 := c_eq lit_1 lit_0 c974
              refine sX8_add   (hI := hI) (tx1 := lit_23) (tx2 := tx2)  (hp := fun  w_5v439   hIw_5v439  => ?_)
              exact hp _ _ _  tx3 hIw_5v439 
            · replace c974 := c_neq lit_1 lit_0 c974
              unfold pX8_splitSign_43
              refine sX8_add   (hI := hI) (tx1 := tx1) (tx2 := tx2)  (hp := fun  w_1v443   hIw_1v443  => ?_)
              obtain ⟨z975, t976, f977⟩ := t_add tx2 lit_1
              first | replace f977 := f977 (by omega) | clear f977
              exact hp _ _ _  t976 hIw_1v443 
set_option maxHeartbeats 4000000 in
set_option maxRecDepth 100000 in
theorem sX8_kindOf_2 {T D : Int} {k : Nat} {post : Int32 → Wd → Prop} {w : Wd}  (hp : ∀ (r : Int32) (zr : Int), Ti r zr → post r w) : ∀ (n : Nat) (x1 : Int64) (x3 : Int32) (zx3 : Int), Ti x3 zx3 → IX k T D w → (0 ≤ zx3 ∧ zx3 ≤ 17) → (18 - zx3) < (n : Int) → pX8_kindOf_2   post  n x1 x3 w := by
  intro n
  induction n with
  | zero =>
    intro x1 x3 zx3  tx3 hI h0 hm
    exact absurd hm (by omega)
  | succ n ih =>
    intro x1 x3 zx3  tx3 hI h0 hm
    unfold pX8_kindOf_2
    have hk := ix_k hI
    refine ⟨fun c978 => ?_, fun c978 => ?_⟩
    · replace c978 := c_le lit_17 tx3 c978
      exact hp _ _ lit_20 
    · replace c978 := c_nle lit_17 tx3 c978
      refine ⟨vp_of tx3 (by omega) (by omega), ?_⟩
      refine ⟨fun c979 => ?_, fun c979 => ?_⟩
      · obtain ⟨z980, t981, f982⟩ := t_add tx3 lit_1
        first | replace f982 := f982 (by omega) | clear f982
        intro x3_3v444 ex3_3v444
        have tx3_3v444 : Ti x3_3v444 z980 := by rw [ex3_3v444]; exact t981
        exact ih _ _ _  tx3_3v444 hI (by omega) (by omega)
      · exact hp _ _ tx3 
set_option maxHeartbeats 4000000 in
set_option maxRecDepth 100000 in
theorem sX8_kindOf {T D : Int} {k : Nat} {post : Int32 → Wd → Prop} {x1 : Int64} {w : Wd}   (hI : IX k T D w)  (hp : ∀ (r : Int32) (zr : Int), Ti r zr → post r w) : pX8_kindOf   post  x1 w := by
  unfold pX8_kindOf
  have hk := ix_k hI
  exact ⟨70000, sX8_kindOf_2    (hp := hp) 70000 _ _ _  lit_0 hI (by omega) (by omega)⟩
set_option maxHeartbeats 4000000 in
set_option maxRecDepth 100000 in
theorem sX8_withLetter {T D : Int} {k : Nat} {post : Int64 → Wd → Prop} {x0 : Int64} {x2 : Int32} {zx2 : Int} {w : Wd}  (tx2 : Ti x2 zx2) (hI : IX k T D w)  (hp : ∀ (r : Int64), post r w) : pX8_withLetter   post  x0 x2 w := by
  unfold pX8_withLetter
  have hk := ix_k hI
  exact hp _  
set_option maxHeartbeats 4000000 in
set_option maxRecDepth 100000 in
theorem sX8_splitWord_6 {T D : Int} {k : Nat} {post : Int32 → Wd → Prop}   (hp : ∀ (r : Int32) (zr : Int) (w9 : Wd), Ti r zr → IX k T D w9 → post r w9) : ∀ (n : Nat) (x2 : Int32) (x3 : Int32) (x4 : Int64) (x6 : Int32) (zx2 : Int) (zx3 : Int) (zx6 : Int) (w : Wd), Ti x2 zx2 → Ti x3 zx3 → Ti x6 zx6 → IX k T D w → (0 ≤ zx6) → (zx6 ≤ 1000000) → (zx3 ≤ 1600) → (2000000 - zx6) < (n : Int) → pX8_splitWord_6   post  n x2 x3 x4 x6 w := by
  intro n
  induction n with
  | zero =>
    intro x2 x3 x4 x6 zx2 zx3 zx6 w tx2 tx3 tx6 hI h0 h1 h2 hm
    exact absurd hm (by omega)
  | succ n ih =>
    intro x2 x3 x4 x6 zx2 zx3 zx6 w tx2 tx3 tx6 hI h0 h1 h2 hm
    unfold pX8_splitWord_6
    have hk := ix_k hI
    refine ⟨fun c983 => ?_, fun c983 => ?_⟩
    · replace c983 := c_le tx3 tx6 c983
      unfold pX8_splitWord_39
      obtain ⟨z984, t985, f986⟩ := t_sub tx6 tx2
      first | replace f986 := f986 (by omega) | clear f986
      refine ⟨fun c987 => ?_, fun c987 => ?_⟩
      · replace c987 := c_le t985 lit_8 c987
        refine sX8_kindOf   (hI := hI)   (hp := fun r_2v450 zr_2v450 tr_2v450 => ?_)
        refine sX8_add   (hI := hI) (tx1 := tr_2v450) (tx2 := tx2)  (hp := fun  w_4v454   hIw_4v454  => ?_)
        exact hp _ _ _  tx6 hIw_4v454 
      · replace c987 := c_nle t985 lit_8 c987
        refine sX8_add   (hI := hI) (tx1 := lit_23) (tx2 := tx2)  (hp := fun  w_5v453   hIw_5v453  => ?_)
        exact hp _ _ _  tx3 hIw_5v453 
    · replace c983 := c_nle tx3 tx6 c983
      refine ⟨vp_of tx6 (by omega) (by omega), ?_⟩
      obtain ⟨z988, t989⟩ := t_any (w.2.1 1 x6.toNatClampNeg)
      refine sX8_isLetter   (hI := hI) (tx0 := t989)  (hp := fun r_2v445 zr_2v445 tr_2v445 => ?_)
      refine ⟨fun c990 => ?_, fun c990 => ?_⟩
      · replace c990 := c_eq tr_2v445 lit_0 c990
        unfold pX8_splitWord_39
        obtain ⟨z991, t992, f993⟩ := t_sub tx6 tx2
        first | replace f993 := f993 (by omega) | clear f993
        refine ⟨fun c994 => ?_, fun c994 => ?_⟩
        · replace c994 := c_le t992 lit_8 c994
          refine sX8_kindOf   (hI := hI)   (hp := fun r_2v458 zr_2v458 tr_2v458 => ?_)
          refine sX8_add   (hI := hI) (tx1 := tr_2v458) (tx2 := tx2)  (hp := fun  w_4v462   hIw_4v462  => ?_)
          exact hp _ _ _  tx6 hIw_4v462 
        · replace c994 := c_nle t992 lit_8 c994
          refine sX8_add   (hI := hI) (tx1 := lit_23) (tx2 := tx2)  (hp := fun  w_5v461   hIw_5v461  => ?_)
          exact hp _ _ _  tx3 hIw_5v461 
      · replace c990 := c_neq tr_2v445 lit_0 c990
        refine ⟨vp_of tx6 (by omega) (by omega), ?_⟩
        refine sX8_withLetter   (hI := hI) (tx2 := t989)  (hp := fun r_5v455 => ?_)
        obtain ⟨z995, t996, f997⟩ := t_add tx6 lit_1
        first | replace f997 := f997 (by omega) | clear f997
        intro x6_7v463 ex6_7v463
        have tx6_7v463 : Ti x6_7v463 z995 := by rw [ex6_7v463]; exact t996
        exact ih _ _ _ _ _ _ _ _ tx2 tx3 tx6_7v463 hI (by omega) (by omega) (by omega) (by omega)
set_option maxHeartbeats 4000000 in
set_option maxRecDepth 100000 in
theorem sX8_splitWord {T D : Int} {k : Nat} {post : Int32 → Wd → Prop} {x2 : Int32} {zx2 : Int} {x3 : Int32} {zx3 : Int} {w : Wd}  (tx2 : Ti x2 zx2) (tx3 : Ti x3 zx3) (hI : IX k T D w) (h0 : 0 ≤ zx2) (h1 : zx2 ≤ 1600) (h2 : zx3 ≤ 1600) (hp : ∀ (r : Int32) (zr : Int) (w9 : Wd), Ti r zr → IX k T D w9 → post r w9) : pX8_splitWord   post  x2 x3 w := by
  unfold pX8_splitWord
  have hk := ix_k hI
  exact ⟨3000000, sX8_splitWord_6    (hp := hp) 3000000 _ _ _ _ _ _ _ _ tx2 tx3 tx2 hI (by omega) (by omega) (by omega) (by omega)⟩
set_option maxHeartbeats 4000000 in
set_option maxRecDepth 100000 in
theorem sX8_split_18 {T D : Int} {k : Nat} {post : Wd → Prop}   (hp : ∀ (w9 : Wd), IX k T D w9 → post w9) : ∀ (n : Nat) (x2 : Int32) (x3 : Int32) (x4 : Int32) (x5 : Int32) (zx2 : Int) (zx3 : Int) (zx4 : Int) (zx5 : Int) (w : Wd), Ti x2 zx2 → Ti x3 zx3 → Ti x4 zx4 → Ti x5 zx5 → IX k T D w → (0 ≤ zx5 ∧ zx5 ≤ 1600) → (zx3 ≤ 1600) → (1601 - zx5) < (n : Int) → pX8_split_18   post  n x2 x3 x4 x5 w := by
  intro n
  induction n with
  | zero =>
    intro x2 x3 x4 x5 zx2 zx3 zx4 zx5 w tx2 tx3 tx4 tx5 hI h0 h1 hm
    exact absurd hm (by omega)
  | succ n ih =>
    intro x2 x3 x4 x5 zx2 zx3 zx4 zx5 w tx2 tx3 tx4 tx5 hI h0 h1 hm
    unfold pX8_split_18
    have hk := ix_k hI
    refine ⟨fun c998 => ?_, fun c998 => ?_⟩
    · replace c998 := c_le lit_1600 tx5 c998
      refine sX8_add   (hI := hI) (tx1 := lit_22) (tx2 := tx2)  (hp := fun  w_2v464   hIw_2v464  => ?_)
      exact hp  _   hIw_2v464 
    · replace c998 := c_nle lit_1600 tx5 c998
      refine ⟨fun c999 => ?_, fun c999 => ?_⟩
      · replace c999 := c_lt tx4 lit_0 c999
        refine sX8_add   (hI := hI) (tx1 := lit_22) (tx2 := tx2)  (hp := fun  w_4v465   hIw_4v465  => ?_)
        exact hp  _   hIw_4v465 
      · replace c999 := c_nlt tx4 lit_0 c999
        refine ⟨fun c1000 => ?_, fun c1000 => ?_⟩
        · replace c1000 := c_le tx3 tx4 c1000
          refine sX8_add   (hI := hI) (tx1 := lit_22) (tx2 := tx2)  (hp := fun  w_6v466   hIw_6v466  => ?_)
          exact hp  _   hIw_6v466 
        · replace c1000 := c_nle tx3 tx4 c1000
          refine ⟨vp_of tx4 (by omega) (by omega), ?_⟩
          obtain ⟨z1001, t1002⟩ := t_any (w.2.1 1 x4.toNatClampNeg)
          intro x6_7v467 ex6_7v467
          have tx6_7v467 : Ti x6_7v467 z1001 := by rw [ex6_7v467]; exact t1002
          refine ⟨fun c1003 => ?_, fun c1003 => ?_⟩
          · replace c1003 := c_eq tx6_7v467 lit_32 c1003
            unfold pX8_split_57
            obtain ⟨z1004, t1005, f1006⟩ := t_add tx4 lit_1
            first | replace f1006 := f1006 (by omega) | clear f1006
            intro x4_1v478 ex4_1v478
            have tx4_1v478 : Ti x4_1v478 z1004 := by rw [ex4_1v478]; exact t1005
            unfold pX8_split_116
            obtain ⟨z1007, t1008, f1009⟩ := t_add tx5 lit_1
            first | replace f1009 := f1009 (by omega) | clear f1009
            intro x5_1v479 ex5_1v479
            have tx5_1v479 : Ti x5_1v479 z1007 := by rw [ex5_1v479]; exact t1008
            exact ih _ _ _ _ _ _ _ _ _ tx2 tx3 tx4_1v478 tx5_1v479 hI (by omega) (by omega) (by omega)
          · replace c1003 := c_neq tx6_7v467 lit_32 c1003
            refine ⟨fun c1010 => ?_, fun c1010 => ?_⟩
            · replace c1010 := c_neq tx6_7v467 lit_10 c1010
              refine sX8_isLetter   (hI := hI) (tx0 := tx6_7v467)  (hp := fun r_10v468 zr_10v468 tr_10v468 => ?_)
              refine ⟨fun c1011 => ?_, fun c1011 => ?_⟩
              · replace c1011 := c_eq tr_10v468 lit_0 c1011
                refine sX8_isDigit   (hI := hI) (tx0 := tx6_7v467)  (hp := fun r_13v480 zr_13v480 tr_13v480 => ?_)
                refine ⟨fun c1012 => ?_, fun c1012 => ?_⟩
                · replace c1012 := c_eq tr_13v480 lit_0 c1012
                  refine sX8_splitSign   (hI := hI) (tx1 := tx6_7v467) (tx2 := tx4) (tx3 := tx3)  (hp := fun r_16v488 zr_16v488 w_17v489  tr_16v488 hIw_17v489  => ?_)
                  unfold pX8_split_116
                  obtain ⟨z1013, t1014, f1015⟩ := t_add tx5 lit_1
                  first | replace f1015 := f1015 (by omega) | clear f1015
                  intro x5_1v492 ex5_1v492
                  have tx5_1v492 : Ti x5_1v492 z1013 := by rw [ex5_1v492]; exact t1014
                  exact ih _ _ _ _ _ _ _ _ _ tx2 tx3 tr_16v488 tx5_1v492 hIw_17v489 (by omega) (by omega) (by omega)
                · replace c1012 := c_neq tr_13v480 lit_0 c1012
                  refine sX8_splitNumber   (hI := hI) (tx2 := tx4) (tx3 := tx3) (h0 := (by omega)) (h1 := (by omega)) (h2 := (by omega)) (hp := fun r_18v490 zr_18v490 w_19v491  tr_18v490 hIw_19v491  => ?_)
                  unfold pX8_split_116
                  obtain ⟨z1016, t1017, f1018⟩ := t_add tx5 lit_1
                  first | replace f1018 := f1018 (by omega) | clear f1018
                  intro x5_1v493 ex5_1v493
                  have tx5_1v493 : Ti x5_1v493 z1016 := by rw [ex5_1v493]; exact t1017
                  exact ih _ _ _ _ _ _ _ _ _ tx2 tx3 tr_18v490 tx5_1v493 hIw_19v491 (by omega) (by omega) (by omega)
              · replace c1011 := c_neq tr_10v468 lit_0 c1011
                refine sX8_splitWord   (hI := hI) (tx2 := tx4) (tx3 := tx3) (h0 := (by omega)) (h1 := (by omega)) (h2 := (by omega)) (hp := fun r_20v486 zr_20v486 w_21v487  tr_20v486 hIw_21v487  => ?_)
                unfold pX8_split_116
                obtain ⟨z1019, t1020, f1021⟩ := t_add tx5 lit_1
                first | replace f1021 := f1021 (by omega) | clear f1021
                intro x5_1v494 ex5_1v494
                have tx5_1v494 : Ti x5_1v494 z1019 := by rw [ex5_1v494]; exact t1020
                exact ih _ _ _ _ _ _ _ _ _ tx2 tx3 tr_20v486 tx5_1v494 hIw_21v487 (by omega) (by omega) (by omega)
            · replace c1010 := c_eq tx6_7v467 lit_10 c1010
              unfold pX8_split_57
              obtain ⟨z1022, t1023, f1024⟩ := t_add tx4 lit_1
              first | replace f1024 := f1024 (by omega) | clear f1024
              intro x4_1v495 ex4_1v495
              have tx4_1v495 : Ti x4_1v495 z1022 := by rw [ex4_1v495]; exact t1023
              unfold pX8_split_116
              obtain ⟨z1025, t1026, f1027⟩ := t_add tx5 lit_1
              first | replace f1027 := f1027 (by omega) | clear f1027
              intro x5_1v496 ex5_1v496
              have tx5_1v496 : Ti x5_1v496 z1025 := by rw [ex5_1v496]; exact t1026
              exact ih _ _ _ _ _ _ _ _ _ tx2 tx3 tx4_1v495 tx5_1v496 hI (by omega) (by omega) (by omega)
set_option maxHeartbeats 4000000 in
set_option maxRecDepth 100000 in
theorem sX8_split {T D : Int} {k : Nat} {post : Wd → Prop} {x2 : Int32} {zx2 : Int} {w : Wd}  (tx2 : Ti x2 zx2) (hI : IX k T D w)  (hp : ∀ (w9 : Wd), IX k T D w9 → post w9) : pX8_split   post  x2 w := by
  unfold pX8_split
  have hk := ix_k hI
  intro w_1v497 ew_1v497
  have hIw_1v497 := ixs_20_3 hI ew_1v497 lit_0 (by omega) (by omega)
  obtain ⟨z1028, t1029, f1030⟩ := t_ite lit_1600 tx2 lit_1600 tx2
  intro x3_2v498 ex3_2v498
  have tx3_2v498 : Ti x3_2v498 z1028 := by rw [ex3_2v498]; exact t1029
  exact ⟨70000, sX8_split_18    (hp := hp) 70000 _ _ _ _ _ _ _ _ _ tx2 tx3_2v498 lit_0 lit_0 hIw_1v497 (by omega) (by omega) (by omega)⟩
set_option maxHeartbeats 4000000 in
set_option maxRecDepth 100000 in
theorem sX10_chancery {T D : Int} {k : Nat} {post : Int32 → Wd → Prop}  {w : Wd}   (hI : IX k T D w)  (hp : ∀ (r : Int32) (zr : Int) (w9 : Wd) (D9 : Int), Ti r zr → IX k T D9 w9 → post r w9) : pX10_chancery   post   w := by
  unfold pX10_chancery
  have hk := ix_k hI
  obtain ⟨z1031, t1032⟩ := t_any (w.1 0 13)
  have f1033 := ixg_0_13 hI t1032
  refine sX8_split   (hI := hI) (tx2 := t1032)  (hp := fun  w_1v499   hIw_1v499  => ?_)
  refine sX6_read   (hI := hIw_1v499)   (hp := fun r_2v500 zr_2v500 w_3v501  tr_2v500 hIw_3v501  => ?_)
  intro w_4v502 ew_4v502
  have hIw_4v502 := ixs_n hIw_3v501 ew_4v502 (by unfold nX; omega)
  intro w_5v503 ew_5v503
  have hIw_5v503 := ixs_n hIw_4v502 ew_5v503 (by unfold nX; omega)
  have t1035 : Ti (w_4v502.1 0 14) zr_2v500 := by rw [ew_4v502, sI_at]; exact tr_2v500
  have t1034 : Ti (w_5v503.1 0 14) zr_2v500 := by rw [ew_5v503, sI_ne (by omega)]; exact t1035
  refine ⟨fun c1036 => ?_, fun c1036 => ?_⟩
  · replace c1036 := c_eq t1034 lit_0 c1036
    intro w_7v504 ew_7v504
    have hIw_7v504 := ixs_R hIw_5v503 ew_7v504
    intro w_8v505 ew_8v505
    have hIw_8v505 := ixs_R hIw_7v504 ew_8v505
    refine sX10_beginAnew   (hI := hIw_8v505)   (hp := fun  w_9v506 g1037  hIw_9v506  => ?_)
    obtain ⟨z1038, t1039⟩ := t_any (w_9v506.1 (rl (w_9v506.2.2.2.2 0)) 2)
    have f1040 := ixg_r2 hIw_9v506 t1039
    exact hp _ _ _ _ t1039 hIw_9v506 
  · replace c1036 := c_neq t1034 lit_0 c1036
    exact hp _ _ _ _ lit_m1 hIw_5v503 
set_option maxHeartbeats 4000000 in
set_option maxRecDepth 100000 in
theorem sX10_fault {T D : Int} {k : Nat} {post : Int32 → Wd → Prop} {x1 : Int32} {zx1 : Int} {w : Wd}  (tx1 : Ti x1 zx1) (hI : IX k T D w)  (hp : ∀ (r : Int32) (zr : Int), Ti r zr → post r w) : pX10_fault   post  x1 w := by
  unfold pX10_fault
  have hk := ix_k hI
  refine ⟨fun c1041 => ?_, fun c1041 => ?_⟩
  · replace c1041 := c_neq tx1 lit_0 c1041
    refine ⟨fun c1042 => ?_, fun c1042 => ?_⟩
    · replace c1042 := c_neq tx1 lit_1 c1042
      exact hp _ _ lit_m1 
    · replace c1042 := c_eq tx1 lit_1 c1042
      obtain ⟨z1043, t1044⟩ := t_any (w.1 0 15)
      exact hp _ _ t1044 
  · replace c1041 := c_eq tx1 lit_0 c1041
    obtain ⟨z1045, t1046⟩ := t_any (w.1 0 14)
    exact hp _ _ t1046 
set_option maxHeartbeats 4000000 in
set_option maxRecDepth 100000 in
theorem sX10_isSeal {T D : Int} {k : Nat} {post : Int32 → Wd → Prop} {x1 : Int32} {zx1 : Int} {w : Wd}  (tx1 : Ti x1 zx1) (hI : IX k T D w)  (hp : ∀ (r : Int32) (zr : Int), Ti r zr → ((zr = 0 ∨ (0 ≤ zx1 ∧ zx1 ≤ 23))) → post r w) : pX10_isSeal   post  x1 w := by
  unfold pX10_isSeal
  have hk := ix_k hI
  refine ⟨fun c1047 => ?_, fun c1047 => ?_⟩
  · replace c1047 := c_lt tx1 lit_0 c1047
    exact hp _ _ lit_0 (by omega)
  · replace c1047 := c_nlt tx1 lit_0 c1047
    obtain ⟨z1048, t1049⟩ := t_any (w.1 160 0)
    have f1050 := ixg_c0 hI t1049
    refine ⟨fun c1051 => ?_, fun c1051 => ?_⟩
    · replace c1051 := c_le t1049 tx1 c1051
      exact hp _ _ lit_0 (by omega)
    · replace c1051 := c_nle t1049 tx1 c1051
      exact hp _ _ lit_1 (by omega)
set_option maxHeartbeats 4000000 in
set_option maxRecDepth 100000 in
theorem sX10_seal {T D : Int} {k : Nat} {post : Int32 → Wd → Prop} {x1 : Int32} {zx1 : Int} {x2 : Int32} {zx2 : Int} {w : Wd}  (tx1 : Ti x1 zx1) (tx2 : Ti x2 zx2) (hI : IX k T D w)  (hp : ∀ (r : Int32) (zr : Int), Ti r zr → post r w) : pX10_seal   post  x1 x2 w := by
  unfold pX10_seal
  have hk := ix_k hI
  refine sX10_isSeal   (hI := hI) (tx1 := tx1)  (hp := fun r_1v507 zr_1v507 tr_1v507 p1052 => ?_)
  refine ⟨fun c1053 => ?_, fun c1053 => ?_⟩
  · replace c1053 := c_neq tr_1v507 lit_0 c1053
    refine ⟨fun c1054 => ?_, fun c1054 => ?_, fun c1054 => ?_, fun c1054 => ?_, fun c1054 => ?_, fun c1054 => ?_⟩
    · rw [show x2.toInt = zx2 from tx2] at c1054
      exact hp _ _ lit_m1 
    · rw [show x2.toInt = zx2 from tx2] at c1054
      refine ⟨vp_of tx1 (by omega) (by omega), ?_⟩
      obtain ⟨z1055, t1056⟩ := t_any (w.2.1 162 x1.toNatClampNeg)
      exact hp _ _ t1056 
    · rw [show x2.toInt = zx2 from tx2] at c1054
      refine ⟨vp_of tx1 (by omega) (by omega), ?_⟩
      obtain ⟨z1057, t1058⟩ := t_any (w.2.1 163 x1.toNatClampNeg)
      exact hp _ _ t1058 
    · rw [show x2.toInt = zx2 from tx2] at c1054
      refine ⟨vp_of tx1 (by omega) (by omega), ?_⟩
      obtain ⟨z1059, t1060⟩ := t_any (w.2.1 164 x1.toNatClampNeg)
      exact hp _ _ t1060 
    · rw [show x2.toInt = zx2 from tx2] at c1054
      refine ⟨vp_of tx1 (by omega) (by omega), ?_⟩
      obtain ⟨z1061, t1062⟩ := t_any (w.2.1 165 x1.toNatClampNeg)
      exact hp _ _ t1062 
    · rw [show x2.toInt = zx2 from tx2] at c1054
      refine ⟨vp_of tx1 (by omega) (by omega), ?_⟩
      obtain ⟨z1063, t1064⟩ := t_any (w.2.1 166 x1.toNatClampNeg)
      exact hp _ _ t1064 
  · replace c1053 := c_eq tr_1v507 lit_0 c1053
    exact hp _ _ lit_m1 
set_option maxHeartbeats 4000000 in
set_option maxRecDepth 100000 in
theorem sX10_shown {T D : Int} {k : Nat} {post : Int32 → Wd → Prop} {x1 : Int32} {zx1 : Int} {x2 : Int32} {zx2 : Int} {w : Wd}  (tx1 : Ti x1 zx1) (tx2 : Ti x2 zx2) (hI : IX k T D w)  (hp : ∀ (r : Int32) (zr : Int), Ti r zr → post r w) : pX10_shown   post  x1 x2 w := by
  unfold pX10_shown
  have hk := ix_k hI
  refine ⟨fun c1065 => ?_, fun c1065 => ?_⟩
  · replace c1065 := c_lt tx1 lit_0 c1065
    exact hp _ _ lit_m1 
  · replace c1065 := c_nlt tx1 lit_0 c1065
    obtain ⟨z1066, t1067⟩ := t_any (w.1 160 6)
    have f1068 := ixg_c6 hI t1067
    refine ⟨fun c1069 => ?_, fun c1069 => ?_⟩
    · replace c1069 := c_lt tx1 t1067 c1069
      refine ⟨fun c1070 => ?_, fun c1070 => ?_, fun c1070 => ?_, fun c1070 => ?_⟩
      · rw [show x2.toInt = zx2 from tx2] at c1070
        exact hp _ _ lit_m1 
      · rw [show x2.toInt = zx2 from tx2] at c1070
        refine ⟨vp_of tx1 (by omega) (by omega), ?_⟩
        obtain ⟨z1071, t1072⟩ := t_any (w.2.1 168 x1.toNatClampNeg)
        exact hp _ _ t1072 
      · rw [show x2.toInt = zx2 from tx2] at c1070
        refine ⟨vp_of tx1 (by omega) (by omega), ?_⟩
        obtain ⟨z1073, t1074⟩ := t_any (w.2.1 169 x1.toNatClampNeg)
        exact hp _ _ t1074 
      · rw [show x2.toInt = zx2 from tx2] at c1070
        refine ⟨vp_of tx1 (by omega) (by omega), ?_⟩
        obtain ⟨z1075, t1076⟩ := t_any (w.2.1 170 x1.toNatClampNeg)
        exact hp _ _ t1076 
    · replace c1069 := c_nlt tx1 t1067 c1069
      exact hp _ _ lit_m1 
set_option maxHeartbeats 4000000 in
set_option maxRecDepth 100000 in
theorem sX7_rows {T D : Int} {k : Nat} {post : Int32 → Wd → Prop} {b : Bool}  {w : Wd}   (hI : IX k T D w)  (hp : ∀ (r : Int32) (zr : Int), Ti r zr → (1 ≤ zr ∧ zr ≤ 4096) → post r w) : pX7_rows   post b  w := by
  unfold pX7_rows
  have hk := ix_k hI
  obtain ⟨z1077, t1078⟩ := t_any (w.1 (rl b) 0)
  have f1079 := ixg_r0 hI t1078
  obtain ⟨z1080, t1081, f1082⟩ := t_shl t1078
  first | replace f1082 := f1082 (by omega) | clear f1082
  exact hp _ _ t1081 (by omega)
set_option maxHeartbeats 4000000 in
set_option maxRecDepth 100000 in
theorem sX10_isRow {T D : Int} {k : Nat} {post : Int32 → Wd → Prop} {x1 : Int32} {zx1 : Int} {w : Wd}  (tx1 : Ti x1 zx1) (hI : IX k T D w)  (hp : ∀ (r : Int32) (zr : Int), Ti r zr → ((zr = 0 ∨ (0 ≤ zx1 ∧ zx1 ≤ 4095))) → post r w) : pX10_isRow   post  x1 w := by
  unfold pX10_isRow
  have hk := ix_k hI
  refine ⟨fun c1083 => ?_, fun c1083 => ?_⟩
  · replace c1083 := c_lt tx1 lit_0 c1083
    exact hp _ _ lit_0 (by omega)
  · replace c1083 := c_nlt tx1 lit_0 c1083
    refine sX7_rows   (hI := hI)   (hp := fun r_2v509 zr_2v509 tr_2v509 p1084 => ?_)
    refine ⟨fun c1085 => ?_, fun c1085 => ?_⟩
    · replace c1085 := c_le tr_2v509 tx1 c1085
      exact hp _ _ lit_0 (by omega)
    · replace c1085 := c_nle tr_2v509 tx1 c1085
      exact hp _ _ lit_1 (by omega)
set_option maxHeartbeats 4000000 in
set_option maxRecDepth 100000 in
theorem sX10_prints_30 {T D : Int} {k : Nat} {post : Int32 → Wd → Prop} {w : Wd}  (hp : ∀ (r : Int32) (zr : Int), Ti r zr → post r w) : ∀ (n : Nat) (x1 : Int32) (x2 : Int32) (x3 : Int32) (x4 : Int32) (x5 : Int32) (x6 : Int32) (zx1 : Int) (zx2 : Int) (zx3 : Int) (zx4 : Int) (zx5 : Int) (zx6 : Int), Ti x1 zx1 → Ti x2 zx2 → Ti x3 zx3 → Ti x4 zx4 → Ti x5 zx5 → Ti x6 zx6 → IX k T D w → (0 ≤ zx6 ∧ zx6 ≤ 40) → (41 - zx6) < (n : Int) → pX10_prints_30   post  n x1 x2 x3 x4 x5 x6 w := by
  intro n
  induction n with
  | zero =>
    intro x1 x2 x3 x4 x5 x6 zx1 zx2 zx3 zx4 zx5 zx6  tx1 tx2 tx3 tx4 tx5 tx6 hI h0 hm
    exact absurd hm (by omega)
  | succ n ih =>
    intro x1 x2 x3 x4 x5 x6 zx1 zx2 zx3 zx4 zx5 zx6  tx1 tx2 tx3 tx4 tx5 tx6 hI h0 hm
    unfold pX10_prints_30
    have hk := ix_k hI
    obtain ⟨z1086, t1087⟩ := t_any (w.1 160 6)
    have f1088 := ixg_c6 hI t1087
    refine ⟨fun c1089 => ?_, fun c1089 => ?_⟩
    · replace c1089 := c_le t1087 tx6 c1089
      refine ⟨fun c1090 => ?_, fun c1090 => ?_⟩
      · replace c1090 := c_neq tx2 lit_0 c1090
        refine ⟨fun c1091 => ?_, fun c1091 => ?_⟩
        · replace c1091 := c_neq tx2 lit_1 c1091
          exact hp _ _ tx5 
        · replace c1091 := c_eq tx2 lit_1 c1091
          exact hp _ _ tx4 
      · replace c1090 := c_eq tx2 lit_0 c1090
        exact hp _ _ tx3 
    · replace c1089 := c_nle t1087 tx6 c1089
      refine ⟨vp_of tx6 (by omega) (by omega), ?_⟩
      obtain ⟨z1092, t1093⟩ := t_any (w.2.1 168 x6.toNatClampNeg)
      refine ⟨fun c1094 => ?_, fun c1094 => ?_⟩
      · replace c1094 := c_neq t1093 tx1 c1094
        unfold pX10_prints_92
        obtain ⟨z1095, t1096, f1097⟩ := t_add tx6 lit_1
        first | replace f1097 := f1097 (by omega) | clear f1097
        intro x6_1v511 ex6_1v511
        have tx6_1v511 : Ti x6_1v511 z1095 := by rw [ex6_1v511]; exact t1096
        exact ih _ _ _ _ _ _ _ _ _ _ _ _  tx1 tx2 tx3 tx4 tx5 tx6_1v511 hI (by omega) (by omega)
      · replace c1094 := c_eq t1093 tx1 c1094
        refine ⟨fun c1098 => ?_, fun c1098 => ?_⟩
        · replace c1098 := c_neq tx3 lit_0 c1098
          unfold pX10_prints_75
          refine ⟨vp_of tx6 (by omega) (by omega), ?_⟩
          obtain ⟨z1099, t1100⟩ := t_any (w.2.1 170 x6.toNatClampNeg)
          intro x5_1v512 ex5_1v512
          have tx5_1v512 : Ti x5_1v512 z1099 := by rw [ex5_1v512]; exact t1100
          obtain ⟨z1101, t1102, f1103⟩ := t_add tx3 lit_1
          first | replace f1103 := f1103 (by omega) | clear f1103
          intro x3_2v513 ex3_2v513
          have tx3_2v513 : Ti x3_2v513 z1101 := by rw [ex3_2v513]; exact t1102
          unfold pX10_prints_92
          obtain ⟨z1104, t1105, f1106⟩ := t_add tx6 lit_1
          first | replace f1106 := f1106 (by omega) | clear f1106
          intro x6_1v514 ex6_1v514
          have tx6_1v514 : Ti x6_1v514 z1104 := by rw [ex6_1v514]; exact t1105
          exact ih _ _ _ _ _ _ _ _ _ _ _ _  tx1 tx2 tx3_2v513 tx4 tx5_1v512 tx6_1v514 hI (by omega) (by omega)
        · replace c1098 := c_eq tx3 lit_0 c1098
          refine ⟨vp_of tx6 (by omega) (by omega), ?_⟩
          unfold pX10_prints_75
          refine ⟨vp_of tx6 (by omega) (by omega), ?_⟩
          obtain ⟨z1107, t1108⟩ := t_any (w.2.1 170 x6.toNatClampNeg)
          intro x5_1v515 ex5_1v515
          have tx5_1v515 : Ti x5_1v515 z1107 := by rw [ex5_1v515]; exact t1108
          obtain ⟨z1109, t1110, f1111⟩ := t_add tx3 lit_1
          first | replace f1111 := f1111 (by omega) | clear f1111
          intro x3_2v516 ex3_2v516
          have tx3_2v516 : Ti x3_2v516 z1109 := by rw [ex3_2v516]; exact t1110
          unfold pX10_prints_92
          obtain ⟨z1112, t1113, f1114⟩ := t_add tx6 lit_1
          first | replace f1114 := f1114 (by omega) | clear f1114
          intro x6_1v517 ex6_1v517
          have tx6_1v517 : Ti x6_1v517 z1112 := by rw [ex6_1v517]; exact t1113
          exact ih _ _ _ _ _ _ _ _ _ _ _ _  tx1 tx2 tx3_2v516 t1108 tx5_1v515 tx6_1v517 hI (by omega) (by omega)
set_option maxHeartbeats 4000000 in
set_option maxRecDepth 100000 in
theorem sX10_prints {T D : Int} {k : Nat} {post : Int32 → Wd → Prop} {x1 : Int32} {zx1 : Int} {x2 : Int32} {zx2 : Int} {w : Wd}  (tx1 : Ti x1 zx1) (tx2 : Ti x2 zx2) (hI : IX k T D w)  (hp : ∀ (r : Int32) (zr : Int), Ti r zr → post r w) : pX10_prints   post  x1 x2 w := by
  unfold pX10_prints
  have hk := ix_k hI
  refine sX10_isRow   (hI := hI) (tx1 := tx1)  (hp := fun r_1v518 zr_1v518 tr_1v518 p1115 => ?_)
  refine ⟨fun c1116 => ?_, fun c1116 => ?_⟩
  · replace c1116 := c_eq tr_1v518 lit_0 c1116
    exact hp _ _ lit_m1 
  · replace c1116 := c_neq tr_1v518 lit_0 c1116
    refine ⟨fun c1117 => ?_, fun c1117 => ?_⟩
    · replace c1117 := c_lt tx2 lit_0 c1117
      exact hp _ _ lit_m1 
    · replace c1117 := c_nlt tx2 lit_0 c1117
      refine ⟨fun c1118 => ?_, fun c1118 => ?_⟩
      · replace c1118 := c_le tx2 lit_2 c1118
        exact ⟨70000, sX10_prints_30    (hp := hp) 70000 _ _ _ _ _ _ _ _ _ _ _ _  tx1 tx2 lit_0 lit_m1 lit_m1 lit_0 hI (by omega) (by omega)⟩
      · replace c1118 := c_nle tx2 lit_2 c1118
        exact hp _ _ lit_m1 
set_option maxHeartbeats 4000000 in
set_option maxRecDepth 100000 in
theorem sX10_turn {T D : Int} {k : Nat} {post : Int32 → Wd → Prop} {x0 : Int32} {zx0 : Int} {x1 : Int32} {zx1 : Int} {w : Wd}  (tx0 : Ti x0 zx0) (tx1 : Ti x1 zx1) (hI : IX k T D w)  (hp : ∀ (r : Int32) (zr : Int), Ti r zr → post r w) : pX10_turn   post  x0 x1 w := by
  unfold pX10_turn
  have hk := ix_k hI
  obtain ⟨z1119, t1120⟩ := t_any (((x0 &&& (21845 : Int32)) <<< ((1 : Int32) &&& 31)) ||| ((x0.toUInt32 >>> ((1 : Int32).toUInt32 &&& Int32.toUInt32 31)).toInt32 &&& (21845 : Int32)))
  intro x2_1v520 ex2_1v520
  have tx2_1v520 : Ti x2_1v520 z1119 := by rw [ex2_1v520]; exact t1120
  obtain ⟨z1121, t1122⟩ := t_any (((x2_1v520 &&& (13107 : Int32)) <<< ((2 : Int32) &&& 31)) ||| ((x2_1v520.toUInt32 >>> ((2 : Int32).toUInt32 &&& Int32.toUInt32 31)).toInt32 &&& (13107 : Int32)))
  intro x2_2v521 ex2_2v521
  have tx2_2v521 : Ti x2_2v521 z1121 := by rw [ex2_2v521]; exact t1122
  obtain ⟨z1123, t1124⟩ := t_any (((x2_2v521 &&& (3855 : Int32)) <<< ((4 : Int32) &&& 31)) ||| ((x2_2v521.toUInt32 >>> ((4 : Int32).toUInt32 &&& Int32.toUInt32 31)).toInt32 &&& (3855 : Int32)))
  intro x2_3v522 ex2_3v522
  have tx2_3v522 : Ti x2_3v522 z1123 := by rw [ex2_3v522]; exact t1124
  obtain ⟨z1125, t1126⟩ := t_any (((x2_3v522 &&& (255 : Int32)) <<< ((8 : Int32) &&& 31)) ||| ((x2_3v522.toUInt32 >>> ((8 : Int32).toUInt32 &&& Int32.toUInt32 31)).toInt32 &&& (255 : Int32)))
  intro x2_4v523 ex2_4v523
  have tx2_4v523 : Ti x2_4v523 z1125 := by rw [ex2_4v523]; exact t1126
  obtain ⟨z1127, t1128⟩ := t_any ((x2_4v523.toUInt32 >>> (((16 : Int32) - x1).toUInt32 &&& Int32.toUInt32 31)).toInt32)
  exact hp _ _ t1128 
set_option maxHeartbeats 4000000 in
set_option maxRecDepth 100000 in
theorem sX10_turned {T D : Int} {k : Nat} {post : Int32 → Wd → Prop} {x1 : Int32} {zx1 : Int} {w : Wd}  (tx1 : Ti x1 zx1) (hI : IX k T D w)  (hp : ∀ (r : Int32) (zr : Int), Ti r zr → post r w) : pX10_turned   post  x1 w := by
  unfold pX10_turned
  have hk := ix_k hI
  refine sX10_isRow   (hI := hI) (tx1 := tx1)  (hp := fun r_1v524 zr_1v524 tr_1v524 p1129 => ?_)
  refine ⟨fun c1130 => ?_, fun c1130 => ?_⟩
  · replace c1130 := c_eq tr_1v524 lit_0 c1130
    exact hp _ _ lit_m1 
  · replace c1130 := c_neq tr_1v524 lit_0 c1130
    obtain ⟨z1131, t1132⟩ := t_any (w.1 (rl (w.2.2.2.2 0)) 0)
    have f1133 := ixg_r0 hI t1132
    refine sX10_turn   (hI := hI) (tx0 := tx1) (tx1 := t1132)  (hp := fun r_4v528 zr_4v528 tr_4v528 => ?_)
    exact hp _ _ tr_4v528 
set_option maxHeartbeats 4000000 in
set_option maxRecDepth 100000 in
theorem sX10_isHand {T D : Int} {k : Nat} {post : Int32 → Wd → Prop} {x1 : Int32} {zx1 : Int} {w : Wd}  (tx1 : Ti x1 zx1) (hI : IX k T D w)  (hp : ∀ (r : Int32) (zr : Int), Ti r zr → ((zr = 0 ∨ (0 ≤ zx1 ∧ zx1 ≤ 3))) → post r w) : pX10_isHand   post  x1 w := by
  unfold pX10_isHand
  have hk := ix_k hI
  refine ⟨fun c1134 => ?_, fun c1134 => ?_⟩
  · replace c1134 := c_lt tx1 lit_0 c1134
    exact hp _ _ lit_0 (by omega)
  · replace c1134 := c_nlt tx1 lit_0 c1134
    obtain ⟨z1135, t1136⟩ := t_any (w.1 (rl (w.2.2.2.2 0)) 2)
    have f1137 := ixg_r2 hI t1136
    refine ⟨fun c1138 => ?_, fun c1138 => ?_⟩
    · replace c1138 := c_le t1136 tx1 c1138
      exact hp _ _ lit_0 (by omega)
    · replace c1138 := c_nle t1136 tx1 c1138
      exact hp _ _ lit_1 (by omega)
set_option maxHeartbeats 4000000 in
set_option maxRecDepth 100000 in
theorem sX10_isHeat {T D : Int} {k : Nat} {post : Int32 → Wd → Prop} {x0 : Int32} {zx0 : Int} {w : Wd}  (tx0 : Ti x0 zx0) (hI : IX k T D w)  (hp : ∀ (r : Int32) (zr : Int), Ti r zr → ((zr = 0 ∨ (0 ≤ zx0 ∧ zx0 ≤ 9))) → post r w) : pX10_isHeat   post  x0 w := by
  unfold pX10_isHeat
  have hk := ix_k hI
  refine ⟨fun c1139 => ?_, fun c1139 => ?_⟩
  · replace c1139 := c_lt tx0 lit_0 c1139
    exact hp _ _ lit_0 (by omega)
  · replace c1139 := c_nlt tx0 lit_0 c1139
    refine ⟨fun c1140 => ?_, fun c1140 => ?_⟩
    · replace c1140 := c_le lit_10 tx0 c1140
      exact hp _ _ lit_0 (by omega)
    · replace c1140 := c_nle lit_10 tx0 c1140
      exact hp _ _ lit_1 (by omega)
set_option maxHeartbeats 4000000 in
set_option maxRecDepth 100000 in
theorem sJ6_bitCount_0f7a4 {T D : Int} {k : Nat} {post : Int32 → Wd → Prop} {x0 : Int32} {zx0 : Int} {w : Wd}  (tx0 : Ti x0 zx0) (hI : IX k T D w)  (hp : ∀ (r : Int32) (zr : Int), Ti r zr → (0 ≤ zr ∧ zr ≤ 63) → post r w) : pJ6_bitCount_0f7a4   post  x0 w := by
  unfold pJ6_bitCount_0f7a4
  have hk := ix_k hI
  obtain ⟨z1141, t1142, f1143⟩ := t_and (x := ((x0.toUInt32 >>> ((1 : Int32).toUInt32 &&& Int32.toUInt32 31)).toInt32)) lit_1431655765 (by decide)
  obtain ⟨z1144, t1145, f1146⟩ := t_sub tx0 t1142
  first | replace f1146 := f1146 (by omega) | clear f1146
  intro x0_1v530 ex0_1v530
  have tx0_1v530 : Ti x0_1v530 z1144 := by rw [ex0_1v530]; exact t1145
  obtain ⟨z1147, t1148, f1149⟩ := t_and (x := x0_1v530) lit_858993459 (by decide)
  obtain ⟨z1150, t1151, f1152⟩ := t_and (x := ((x0_1v530.toUInt32 >>> ((2 : Int32).toUInt32 &&& Int32.toUInt32 31)).toInt32)) lit_858993459 (by decide)
  obtain ⟨z1153, t1154, f1155⟩ := t_add t1148 t1151
  first | replace f1155 := f1155 (by omega) | clear f1155
  intro x0_2v531 ex0_2v531
  have tx0_2v531 : Ti x0_2v531 z1153 := by rw [ex0_2v531]; exact t1154
  obtain ⟨z1156, t1157, f1158⟩ := t_and (x := (x0_2v531 + (x0_2v531.toUInt32 >>> ((4 : Int32).toUInt32 &&& Int32.toUInt32 31)).toInt32)) lit_252645135 (by decide)
  intro x0_3v532 ex0_3v532
  have tx0_3v532 : Ti x0_3v532 z1156 := by rw [ex0_3v532]; exact t1157
  obtain ⟨z1159, t1160⟩ := t_any ((x0_3v532.toUInt32 >>> ((8 : Int32).toUInt32 &&& Int32.toUInt32 31)).toInt32)
  obtain ⟨z1161, t1162, f1163⟩ := t_add tx0_3v532 t1160
  first | replace f1163 := f1163 (by omega) | clear f1163
  intro x0_4v533 ex0_4v533
  have tx0_4v533 : Ti x0_4v533 z1161 := by rw [ex0_4v533]; exact t1162
  obtain ⟨z1164, t1165⟩ := t_any ((x0_4v533.toUInt32 >>> ((16 : Int32).toUInt32 &&& Int32.toUInt32 31)).toInt32)
  obtain ⟨z1166, t1167, f1168⟩ := t_add tx0_4v533 t1165
  first | replace f1168 := f1168 (by omega) | clear f1168
  intro x0_5v534 ex0_5v534
  have tx0_5v534 : Ti x0_5v534 z1166 := by rw [ex0_5v534]; exact t1167
  obtain ⟨z1169, t1170, f1171⟩ := t_and (x := x0_5v534) lit_63 (by decide)
  exact hp _ _ t1170 (by omega)
set_option maxHeartbeats 4000000 in
set_option maxRecDepth 100000 in
theorem sX7_join {T D : Int} {k : Nat} {post : Int32 → Wd → Prop} {x0 : Int32} {zx0 : Int} {x1 : Int32} {zx1 : Int} {x2 : Int32} {zx2 : Int} {w : Wd}  (tx0 : Ti x0 zx0) (tx1 : Ti x1 zx1) (tx2 : Ti x2 zx2) (hI : IX k T D w)  (hp : ∀ (r : Int32) (zr : Int), Ti r zr → post r w) : pX7_join   post  x0 x1 x2 w := by
  unfold pX7_join
  have hk := ix_k hI
  refine ⟨fun c1172 => ?_, fun c1172 => ?_⟩
  · rw [show x0.toInt = zx0 from tx0] at c1172
    refine ⟨fun c1173 => ?_, fun c1173 => ?_⟩
    · replace c1173 := c_neq tx1 lit_0 c1173
      exact hp _ _ lit_1 
    · replace c1173 := c_eq tx1 lit_0 c1173
      refine ⟨fun c1174 => ?_, fun c1174 => ?_⟩
      · replace c1174 := c_eq tx2 lit_0 c1174
        exact hp _ _ lit_0 
      · replace c1174 := c_neq tx2 lit_0 c1174
        exact hp _ _ lit_1 
  · rw [show x0.toInt = zx0 from tx0] at c1172
    refine ⟨fun c1175 => ?_, fun c1175 => ?_⟩
    · rw [show x0.toInt = zx0 from tx0] at c1175
      refine ⟨fun c1176 => ?_, fun c1176 => ?_⟩
      · replace c1176 := c_eq tx1 lit_0 c1176
        exact hp _ _ lit_0 
      · replace c1176 := c_neq tx1 lit_0 c1176
        refine ⟨fun c1177 => ?_, fun c1177 => ?_⟩
        · replace c1177 := c_eq tx2 lit_0 c1177
          exact hp _ _ lit_0 
        · replace c1177 := c_neq tx2 lit_0 c1177
          exact hp _ _ lit_1 
    · rw [show x0.toInt = zx0 from tx0] at c1175
      refine ⟨fun c1178 => ?_, fun c1178 => ?_⟩
      · rw [show x0.toInt = zx0 from tx0] at c1178
        refine ⟨fun c1179 => ?_, fun c1179 => ?_⟩
        · replace c1179 := c_neq tx2 lit_0 c1179
          refine ⟨nz_of tx2 (by omega), ?_⟩
          obtain ⟨z1180, t1181, f1182⟩ := t_remv tx1 tx2
          first | replace f1182 := f1182 (by omega) | clear f1182
          exact hp _ _ t1181 
        · replace c1179 := c_eq tx2 lit_0 c1179
          exact hp _ _ lit_0 
      · rw [show x0.toInt = zx0 from tx0] at c1178
        refine ⟨fun c1183 => ?_, fun c1183 => ?_⟩
        · rw [show x0.toInt = zx0 from tx0] at c1183
          obtain ⟨z1184, t1185, f1186⟩ := t_mulv tx1 tx2
          first | replace f1186 := f1186 (by omega) | clear f1186
          exact hp _ _ t1185 
        · rw [show x0.toInt = zx0 from tx0] at c1183
          refine ⟨fun c1187 => ?_, fun c1187 => ?_⟩
          · rw [show x0.toInt = zx0 from tx0] at c1187
            obtain ⟨z1188, t1189, f1190⟩ := t_add tx1 tx2
            first | replace f1190 := f1190 (by omega) | clear f1190
            exact hp _ _ t1189 
          · rw [show x0.toInt = zx0 from tx0] at c1187
            refine ⟨fun c1191 => ?_, fun c1191 => ?_⟩
            · rw [show x0.toInt = zx0 from tx0] at c1191
              obtain ⟨z1192, t1193, f1194⟩ := t_sub tx1 tx2
              first | replace f1194 := f1194 (by omega) | clear f1194
              exact hp _ _ t1193 
            · rw [show x0.toInt = zx0 from tx0] at c1191
              refine ⟨fun c1195 => ?_, fun c1195 => ?_⟩
              · rw [show x0.toInt = zx0 from tx0] at c1195
                refine ⟨fun c1196 => ?_, fun c1196 => ?_⟩
                · replace c1196 := c_neq tx2 lit_0 c1196
                  refine ⟨nz_of tx2 (by omega), ?_⟩
                  obtain ⟨z1197, t1198, f1199⟩ := t_divv tx1 tx2
                  first | replace f1199 := f1199 (by omega) | clear f1199
                  exact hp _ _ t1198 
                · replace c1196 := c_eq tx2 lit_0 c1196
                  exact hp _ _ lit_0 
              · rw [show x0.toInt = zx0 from tx0] at c1195
                refine ⟨fun c1200 => ?_, fun c1200 => ?_⟩
                · rw [show x0.toInt = zx0 from tx0] at c1200
                  refine ⟨fun c1201 => ?_, fun c1201 => ?_⟩
                  · replace c1201 := c_le tx2 tx1 c1201
                    exact hp _ _ lit_0 
                  · replace c1201 := c_nle tx2 tx1 c1201
                    exact hp _ _ lit_1 
                · rw [show x0.toInt = zx0 from tx0] at c1200
                  refine ⟨fun c1202 => ?_, fun c1202 => ?_⟩
                  · rw [show x0.toInt = zx0 from tx0] at c1202
                    refine ⟨fun c1203 => ?_, fun c1203 => ?_⟩
                    · replace c1203 := c_neq tx1 tx2 c1203
                      exact hp _ _ lit_0 
                    · replace c1203 := c_eq tx1 tx2 c1203
                      exact hp _ _ lit_1 
                  · rw [show x0.toInt = zx0 from tx0] at c1202
                    refine ⟨fun c1204 => ?_, fun c1204 => ?_⟩
                    · rw [show x0.toInt = zx0 from tx0] at c1204
                      refine ⟨fun c1205 => ?_, fun c1205 => ?_⟩
                      · replace c1205 := c_le tx1 tx2 c1205
                        exact hp _ _ lit_0 
                      · replace c1205 := c_nle tx1 tx2 c1205
                        exact hp _ _ lit_1 
                    · rw [show x0.toInt = zx0 from tx0] at c1204
                      exact hp _ _ lit_0 
set_option maxHeartbeats 4000000 in
set_option maxRecDepth 100000 in
theorem sX7_valueOf_56 {T D : Int} {k : Nat} {post : Int32 → Wd → Prop} {b : Bool}   (hp : ∀ (r : Int32) (zr : Int) (w9 : Wd), Ti r zr → IX k T D w9 → post r w9) : ∀ (n : Nat) (x3 : Int32) (x4 : Int32) (x5 : Int32) (zx3 : Int) (zx4 : Int) (zx5 : Int) (w : Wd), Ti x3 zx3 → Ti x4 zx4 → Ti x5 zx5 → IX k T D w → (0 ≤ zx5 ∧ zx5 ≤ 2147483647) → (zx3 ≤ 1600) → (-1 ≤ zx4 ∧ zx4 ≤ 31) → (2147483648 - zx5) < (n : Int) → pX7_valueOf_56   post b n x3 x4 x5 w := by
  intro n
  induction n with
  | zero =>
    intro x3 x4 x5 zx3 zx4 zx5 w tx3 tx4 tx5 hI h0 h1 h2 hm
    exact absurd hm (by omega)
  | succ n ih =>
    intro x3 x4 x5 zx3 zx4 zx5 w tx3 tx4 tx5 hI h0 h1 h2 hm
    unfold pX7_valueOf_56
    have hk := ix_k hI
    refine ⟨fun c1206 => ?_, fun c1206 => ?_⟩
    · replace c1206 := c_le tx3 tx5 c1206
      refine ⟨fun c1207 => ?_, fun c1207 => ?_⟩
      · replace c1207 := c_lt tx4 lit_0 c1207
        exact hp _ _ _  lit_0 hI 
      · replace c1207 := c_nlt tx4 lit_0 c1207
        obtain ⟨z1208, t1209⟩ := t_any (w.2.1 ((rl b) + 13) (0 : Int32).toNatClampNeg)
        exact hp _ _ _  t1209 hI 
    · replace c1206 := c_nle tx3 tx5 c1206
      refine ⟨vp_of tx5 (by omega) (by omega), ?_⟩
      obtain ⟨z1210, t1211⟩ := t_any (w.2.1 ((rl b) + 9) x5.toNatClampNeg)
      intro x6_3v535 ex6_3v535
      have tx6_3v535 : Ti x6_3v535 z1210 := by rw [ex6_3v535]; exact t1211
      refine ⟨fun c1212 => ?_, fun c1212 => ?_⟩
      · replace c1212 := c_lt tx6_3v535 lit_128 c1212
        unfold pX7_valueOf_110
        refine ⟨fun c1213 => ?_, fun c1213 => ?_⟩
        · replace c1213 := c_lt tx6_3v535 lit_0 c1213
          unfold pX7_valueOf_151
          refine ⟨fun c1214 => ?_, fun c1214 => ?_⟩
          · replace c1214 := c_neq tx6_3v535 lit_16 c1214
            unfold pX7_valueOf_188
            refine ⟨fun c1215 => ?_, fun c1215 => ?_⟩
            · replace c1215 := c_lt tx4 lit_1 c1215
              unfold pX7_valueOf_225
              obtain ⟨z1216, t1217, f1218⟩ := t_add tx5 lit_1
              first | replace f1218 := f1218 (by omega) | clear f1218
              intro x5_1v544 ex5_1v544
              have tx5_1v544 : Ti x5_1v544 z1216 := by rw [ex5_1v544]; exact t1217
              have f1219 := t_rng tx5_1v544
              exact ih _ _ _ _ _ _ _ tx3 tx4 tx5_1v544 hI (by omega) (by omega) (by omega) (by omega)
            · replace c1215 := c_nlt tx4 lit_1 c1215
              obtain ⟨z1220, t1221, f1222⟩ := t_add tx4 lit_m1
              first | replace f1222 := f1222 (by omega) | clear f1222
              intro x4_2v540 ex4_2v540
              have tx4_2v540 : Ti x4_2v540 z1220 := by rw [ex4_2v540]; exact t1221
              refine ⟨vp_of tx4_2v540 (by omega) (by omega), ?_⟩
              obtain ⟨z1223, t1224, f1225⟩ := t_add tx4_2v540 lit_1
              first | replace f1225 := f1225 (by omega) | clear f1225
              refine ⟨vp_of t1224 (by omega) (by omega), ?_⟩
              obtain ⟨z1226, t1227⟩ := t_any (w.2.1 ((rl b) + 13) x4_2v540.toNatClampNeg)
              obtain ⟨z1228, t1229⟩ := t_any (w.2.1 ((rl b) + 13) (x4_2v540 + (1 : Int32)).toNatClampNeg)
              refine sX7_join   (hI := hI) (tx0 := tx6_3v535) (tx1 := t1227) (tx2 := t1229)  (hp := fun r_3v541 zr_3v541 tr_3v541 => ?_)
              refine ⟨vp_of tx4_2v540 (by omega) (by omega), ?_⟩
              intro w_5v545 ew_5v545
              have hIw_5v545 := ixs_A hI ew_5v545 (by have q := rl_or b; omega)
              unfold pX7_valueOf_225
              obtain ⟨z1230, t1231, f1232⟩ := t_add tx5 lit_1
              first | replace f1232 := f1232 (by omega) | clear f1232
              intro x5_1v546 ex5_1v546
              have tx5_1v546 : Ti x5_1v546 z1230 := by rw [ex5_1v546]; exact t1231
              have f1233 := t_rng tx5_1v546
              exact ih _ _ _ _ _ _ _ tx3 tx4_2v540 tx5_1v546 hIw_5v545 (by omega) (by omega) (by omega) (by omega)
          · replace c1214 := c_eq tx6_3v535 lit_16 c1214
            refine ⟨fun c1234 => ?_, fun c1234 => ?_⟩
            · replace c1234 := c_lt tx4 lit_0 c1234
              unfold pX7_valueOf_188
              refine ⟨fun c1235 => ?_, fun c1235 => ?_⟩
              · replace c1235 := c_lt tx4 lit_1 c1235
                unfold pX7_valueOf_225
                obtain ⟨z1236, t1237, f1238⟩ := t_add tx5 lit_1
                first | replace f1238 := f1238 (by omega) | clear f1238
                intro x5_1v551 ex5_1v551
                have tx5_1v551 : Ti x5_1v551 z1236 := by rw [ex5_1v551]; exact t1237
                have f1239 := t_rng tx5_1v551
                exact ih _ _ _ _ _ _ _ tx3 tx4 tx5_1v551 hI (by omega) (by omega) (by omega) (by omega)
              · replace c1235 := c_nlt tx4 lit_1 c1235
                obtain ⟨z1240, t1241, f1242⟩ := t_add tx4 lit_m1
                first | replace f1242 := f1242 (by omega) | clear f1242
                intro x4_2v547 ex4_2v547
                have tx4_2v547 : Ti x4_2v547 z1240 := by rw [ex4_2v547]; exact t1241
                refine ⟨vp_of tx4_2v547 (by omega) (by omega), ?_⟩
                obtain ⟨z1243, t1244, f1245⟩ := t_add tx4_2v547 lit_1
                first | replace f1245 := f1245 (by omega) | clear f1245
                refine ⟨vp_of t1244 (by omega) (by omega), ?_⟩
                obtain ⟨z1246, t1247⟩ := t_any (w.2.1 ((rl b) + 13) x4_2v547.toNatClampNeg)
                obtain ⟨z1248, t1249⟩ := t_any (w.2.1 ((rl b) + 13) (x4_2v547 + (1 : Int32)).toNatClampNeg)
                refine sX7_join   (hI := hI) (tx0 := tx6_3v535) (tx1 := t1247) (tx2 := t1249)  (hp := fun r_3v548 zr_3v548 tr_3v548 => ?_)
                refine ⟨vp_of tx4_2v547 (by omega) (by omega), ?_⟩
                intro w_5v552 ew_5v552
                have hIw_5v552 := ixs_A hI ew_5v552 (by have q := rl_or b; omega)
                unfold pX7_valueOf_225
                obtain ⟨z1250, t1251, f1252⟩ := t_add tx5 lit_1
                first | replace f1252 := f1252 (by omega) | clear f1252
                intro x5_1v553 ex5_1v553
                have tx5_1v553 : Ti x5_1v553 z1250 := by rw [ex5_1v553]; exact t1251
                have f1253 := t_rng tx5_1v553
                exact ih _ _ _ _ _ _ _ tx3 tx4_2v547 tx5_1v553 hIw_5v552 (by omega) (by omega) (by omega) (by omega)
            · replace c1234 := c_nlt tx4 lit_0 c1234
              refine ⟨vp_of tx4 (by omega) (by omega), ?_⟩
              obtain ⟨z1254, t1255⟩ := t_any (w.2.1 ((rl b) + 13) x4.toNatClampNeg)
              refine ⟨fun c1256 => ?_, fun c1256 => ?_⟩
              · replace c1256 := c_neq t1255 lit_0 c1256
                unfold pX7_valueOf_184
                refine ⟨vp_of tx4 (by omega) (by omega), ?_⟩
                intro w_1v554 ew_1v554
                have hIw_1v554 := ixs_A hI ew_1v554 (by have q := rl_or b; omega)
                unfold pX7_valueOf_225
                obtain ⟨z1257, t1258, f1259⟩ := t_add tx5 lit_1
                first | replace f1259 := f1259 (by omega) | clear f1259
                intro x5_1v555 ex5_1v555
                have tx5_1v555 : Ti x5_1v555 z1257 := by rw [ex5_1v555]; exact t1258
                have f1260 := t_rng tx5_1v555
                exact ih _ _ _ _ _ _ _ tx3 tx4 tx5_1v555 hIw_1v554 (by omega) (by omega) (by omega) (by omega)
              · replace c1256 := c_eq t1255 lit_0 c1256
                unfold pX7_valueOf_184
                refine ⟨vp_of tx4 (by omega) (by omega), ?_⟩
                intro w_1v556 ew_1v556
                have hIw_1v556 := ixs_A hI ew_1v556 (by have q := rl_or b; omega)
                unfold pX7_valueOf_225
                obtain ⟨z1261, t1262, f1263⟩ := t_add tx5 lit_1
                first | replace f1263 := f1263 (by omega) | clear f1263
                intro x5_1v557 ex5_1v557
                have tx5_1v557 : Ti x5_1v557 z1261 := by rw [ex5_1v557]; exact t1262
                have f1264 := t_rng tx5_1v557
                exact ih _ _ _ _ _ _ _ tx3 tx4 tx5_1v557 hIw_1v556 (by omega) (by omega) (by omega) (by omega)
        · replace c1213 := c_nlt tx6_3v535 lit_0 c1213
          refine ⟨fun c1265 => ?_, fun c1265 => ?_⟩
          · replace c1265 := c_le lit_8 tx6_3v535 c1265
            unfold pX7_valueOf_151
            refine ⟨fun c1266 => ?_, fun c1266 => ?_⟩
            · replace c1266 := c_neq tx6_3v535 lit_16 c1266
              unfold pX7_valueOf_188
              refine ⟨fun c1267 => ?_, fun c1267 => ?_⟩
              · replace c1267 := c_lt tx4 lit_1 c1267
                unfold pX7_valueOf_225
                obtain ⟨z1268, t1269, f1270⟩ := t_add tx5 lit_1
                first | replace f1270 := f1270 (by omega) | clear f1270
                intro x5_1v562 ex5_1v562
                have tx5_1v562 : Ti x5_1v562 z1268 := by rw [ex5_1v562]; exact t1269
                have f1271 := t_rng tx5_1v562
                exact ih _ _ _ _ _ _ _ tx3 tx4 tx5_1v562 hI (by omega) (by omega) (by omega) (by omega)
              · replace c1267 := c_nlt tx4 lit_1 c1267
                obtain ⟨z1272, t1273, f1274⟩ := t_add tx4 lit_m1
                first | replace f1274 := f1274 (by omega) | clear f1274
                intro x4_2v558 ex4_2v558
                have tx4_2v558 : Ti x4_2v558 z1272 := by rw [ex4_2v558]; exact t1273
                refine ⟨vp_of tx4_2v558 (by omega) (by omega), ?_⟩
                obtain ⟨z1275, t1276, f1277⟩ := t_add tx4_2v558 lit_1
                first | replace f1277 := f1277 (by omega) | clear f1277
                refine ⟨vp_of t1276 (by omega) (by omega), ?_⟩
                obtain ⟨z1278, t1279⟩ := t_any (w.2.1 ((rl b) + 13) x4_2v558.toNatClampNeg)
                obtain ⟨z1280, t1281⟩ := t_any (w.2.1 ((rl b) + 13) (x4_2v558 + (1 : Int32)).toNatClampNeg)
                refine sX7_join   (hI := hI) (tx0 := tx6_3v535) (tx1 := t1279) (tx2 := t1281)  (hp := fun r_3v559 zr_3v559 tr_3v559 => ?_)
                refine ⟨vp_of tx4_2v558 (by omega) (by omega), ?_⟩
                intro w_5v563 ew_5v563
                have hIw_5v563 := ixs_A hI ew_5v563 (by have q := rl_or b; omega)
                unfold pX7_valueOf_225
                obtain ⟨z1282, t1283, f1284⟩ := t_add tx5 lit_1
                first | replace f1284 := f1284 (by omega) | clear f1284
                intro x5_1v564 ex5_1v564
                have tx5_1v564 : Ti x5_1v564 z1282 := by rw [ex5_1v564]; exact t1283
                have f1285 := t_rng tx5_1v564
                exact ih _ _ _ _ _ _ _ tx3 tx4_2v558 tx5_1v564 hIw_5v563 (by omega) (by omega) (by omega) (by omega)
            · replace c1266 := c_eq tx6_3v535 lit_16 c1266
              refine ⟨fun c1286 => ?_, fun c1286 => ?_⟩
              · replace c1286 := c_lt tx4 lit_0 c1286
                unfold pX7_valueOf_188
                refine ⟨fun c1287 => ?_, fun c1287 => ?_⟩
                · replace c1287 := c_lt tx4 lit_1 c1287
                  unfold pX7_valueOf_225
                  obtain ⟨z1288, t1289, f1290⟩ := t_add tx5 lit_1
                  first | replace f1290 := f1290 (by omega) | clear f1290
                  intro x5_1v569 ex5_1v569
                  have tx5_1v569 : Ti x5_1v569 z1288 := by rw [ex5_1v569]; exact t1289
                  have f1291 := t_rng tx5_1v569
                  exact ih _ _ _ _ _ _ _ tx3 tx4 tx5_1v569 hI (by omega) (by omega) (by omega) (by omega)
                · replace c1287 := c_nlt tx4 lit_1 c1287
                  obtain ⟨z1292, t1293, f1294⟩ := t_add tx4 lit_m1
                  first | replace f1294 := f1294 (by omega) | clear f1294
                  intro x4_2v565 ex4_2v565
                  have tx4_2v565 : Ti x4_2v565 z1292 := by rw [ex4_2v565]; exact t1293
                  refine ⟨vp_of tx4_2v565 (by omega) (by omega), ?_⟩
                  obtain ⟨z1295, t1296, f1297⟩ := t_add tx4_2v565 lit_1
                  first | replace f1297 := f1297 (by omega) | clear f1297
                  refine ⟨vp_of t1296 (by omega) (by omega), ?_⟩
                  obtain ⟨z1298, t1299⟩ := t_any (w.2.1 ((rl b) + 13) x4_2v565.toNatClampNeg)
                  obtain ⟨z1300, t1301⟩ := t_any (w.2.1 ((rl b) + 13) (x4_2v565 + (1 : Int32)).toNatClampNeg)
                  refine sX7_join   (hI := hI) (tx0 := tx6_3v535) (tx1 := t1299) (tx2 := t1301)  (hp := fun r_3v566 zr_3v566 tr_3v566 => ?_)
                  refine ⟨vp_of tx4_2v565 (by omega) (by omega), ?_⟩
                  intro w_5v570 ew_5v570
                  have hIw_5v570 := ixs_A hI ew_5v570 (by have q := rl_or b; omega)
                  unfold pX7_valueOf_225
                  obtain ⟨z1302, t1303, f1304⟩ := t_add tx5 lit_1
                  first | replace f1304 := f1304 (by omega) | clear f1304
                  intro x5_1v571 ex5_1v571
                  have tx5_1v571 : Ti x5_1v571 z1302 := by rw [ex5_1v571]; exact t1303
                  have f1305 := t_rng tx5_1v571
                  exact ih _ _ _ _ _ _ _ tx3 tx4_2v565 tx5_1v571 hIw_5v570 (by omega) (by omega) (by omega) (by omega)
              · replace c1286 := c_nlt tx4 lit_0 c1286
                refine ⟨vp_of tx4 (by omega) (by omega), ?_⟩
                obtain ⟨z1306, t1307⟩ := t_any (w.2.1 ((rl b) + 13) x4.toNatClampNeg)
                refine ⟨fun c1308 => ?_, fun c1308 => ?_⟩
                · replace c1308 := c_neq t1307 lit_0 c1308
                  unfold pX7_valueOf_184
                  refine ⟨vp_of tx4 (by omega) (by omega), ?_⟩
                  intro w_1v572 ew_1v572
                  have hIw_1v572 := ixs_A hI ew_1v572 (by have q := rl_or b; omega)
                  unfold pX7_valueOf_225
                  obtain ⟨z1309, t1310, f1311⟩ := t_add tx5 lit_1
                  first | replace f1311 := f1311 (by omega) | clear f1311
                  intro x5_1v573 ex5_1v573
                  have tx5_1v573 : Ti x5_1v573 z1309 := by rw [ex5_1v573]; exact t1310
                  have f1312 := t_rng tx5_1v573
                  exact ih _ _ _ _ _ _ _ tx3 tx4 tx5_1v573 hIw_1v572 (by omega) (by omega) (by omega) (by omega)
                · replace c1308 := c_eq t1307 lit_0 c1308
                  unfold pX7_valueOf_184
                  refine ⟨vp_of tx4 (by omega) (by omega), ?_⟩
                  intro w_1v574 ew_1v574
                  have hIw_1v574 := ixs_A hI ew_1v574 (by have q := rl_or b; omega)
                  unfold pX7_valueOf_225
                  obtain ⟨z1313, t1314, f1315⟩ := t_add tx5 lit_1
                  first | replace f1315 := f1315 (by omega) | clear f1315
                  intro x5_1v575 ex5_1v575
                  have tx5_1v575 : Ti x5_1v575 z1313 := by rw [ex5_1v575]; exact t1314
                  have f1316 := t_rng tx5_1v575
                  exact ih _ _ _ _ _ _ _ tx3 tx4 tx5_1v575 hIw_1v574 (by omega) (by omega) (by omega) (by omega)
          · replace c1265 := c_nle lit_8 tx6_3v535 c1265
            obtain ⟨z1317, t1318, f1319⟩ := t_sub lit_32 lit_1
            first | replace f1319 := f1319 (by omega) | clear f1319
            refine ⟨fun c1320 => ?_, fun c1320 => ?_⟩
            · replace c1320 := c_le t1318 tx4 c1320
              unfold pX7_valueOf_151
              refine ⟨fun c1321 => ?_, fun c1321 => ?_⟩
              · replace c1321 := c_neq tx6_3v535 lit_16 c1321
                unfold pX7_valueOf_188
                refine ⟨fun c1322 => ?_, fun c1322 => ?_⟩
                · replace c1322 := c_lt tx4 lit_1 c1322
                  unfold pX7_valueOf_225
                  obtain ⟨z1323, t1324, f1325⟩ := t_add tx5 lit_1
                  first | replace f1325 := f1325 (by omega) | clear f1325
                  intro x5_1v580 ex5_1v580
                  have tx5_1v580 : Ti x5_1v580 z1323 := by rw [ex5_1v580]; exact t1324
                  have f1326 := t_rng tx5_1v580
                  exact ih _ _ _ _ _ _ _ tx3 tx4 tx5_1v580 hI (by omega) (by omega) (by omega) (by omega)
                · replace c1322 := c_nlt tx4 lit_1 c1322
                  obtain ⟨z1327, t1328, f1329⟩ := t_add tx4 lit_m1
                  first | replace f1329 := f1329 (by omega) | clear f1329
                  intro x4_2v576 ex4_2v576
                  have tx4_2v576 : Ti x4_2v576 z1327 := by rw [ex4_2v576]; exact t1328
                  refine ⟨vp_of tx4_2v576 (by omega) (by omega), ?_⟩
                  obtain ⟨z1330, t1331, f1332⟩ := t_add tx4_2v576 lit_1
                  first | replace f1332 := f1332 (by omega) | clear f1332
                  refine ⟨vp_of t1331 (by omega) (by omega), ?_⟩
                  obtain ⟨z1333, t1334⟩ := t_any (w.2.1 ((rl b) + 13) x4_2v576.toNatClampNeg)
                  obtain ⟨z1335, t1336⟩ := t_any (w.2.1 ((rl b) + 13) (x4_2v576 + (1 : Int32)).toNatClampNeg)
                  refine sX7_join   (hI := hI) (tx0 := tx6_3v535) (tx1 := t1334) (tx2 := t1336)  (hp := fun r_3v577 zr_3v577 tr_3v577 => ?_)
                  refine ⟨vp_of tx4_2v576 (by omega) (by omega), ?_⟩
                  intro w_5v581 ew_5v581
                  have hIw_5v581 := ixs_A hI ew_5v581 (by have q := rl_or b; omega)
                  unfold pX7_valueOf_225
                  obtain ⟨z1337, t1338, f1339⟩ := t_add tx5 lit_1
                  first | replace f1339 := f1339 (by omega) | clear f1339
                  intro x5_1v582 ex5_1v582
                  have tx5_1v582 : Ti x5_1v582 z1337 := by rw [ex5_1v582]; exact t1338
                  have f1340 := t_rng tx5_1v582
                  exact ih _ _ _ _ _ _ _ tx3 tx4_2v576 tx5_1v582 hIw_5v581 (by omega) (by omega) (by omega) (by omega)
              · replace c1321 := c_eq tx6_3v535 lit_16 c1321
                refine ⟨fun c1341 => ?_, fun c1341 => ?_⟩
                · replace c1341 := c_lt tx4 lit_0 c1341
                  unfold pX7_valueOf_188
                  refine ⟨fun c1342 => ?_, fun c1342 => ?_⟩
                  · replace c1342 := c_lt tx4 lit_1 c1342
                    unfold pX7_valueOf_225
                    obtain ⟨z1343, t1344, f1345⟩ := t_add tx5 lit_1
                    first | replace f1345 := f1345 (by omega) | clear f1345
                    intro x5_1v587 ex5_1v587
                    have tx5_1v587 : Ti x5_1v587 z1343 := by rw [ex5_1v587]; exact t1344
                    have f1346 := t_rng tx5_1v587
                    exact ih _ _ _ _ _ _ _ tx3 tx4 tx5_1v587 hI (by omega) (by omega) (by omega) (by omega)
                  · replace c1342 := c_nlt tx4 lit_1 c1342
                    obtain ⟨z1347, t1348, f1349⟩ := t_add tx4 lit_m1
                    first | replace f1349 := f1349 (by omega) | clear f1349
                    intro x4_2v583 ex4_2v583
                    have tx4_2v583 : Ti x4_2v583 z1347 := by rw [ex4_2v583]; exact t1348
                    refine ⟨vp_of tx4_2v583 (by omega) (by omega), ?_⟩
                    obtain ⟨z1350, t1351, f1352⟩ := t_add tx4_2v583 lit_1
                    first | replace f1352 := f1352 (by omega) | clear f1352
                    refine ⟨vp_of t1351 (by omega) (by omega), ?_⟩
                    obtain ⟨z1353, t1354⟩ := t_any (w.2.1 ((rl b) + 13) x4_2v583.toNatClampNeg)
                    obtain ⟨z1355, t1356⟩ := t_any (w.2.1 ((rl b) + 13) (x4_2v583 + (1 : Int32)).toNatClampNeg)
                    refine sX7_join   (hI := hI) (tx0 := tx6_3v535) (tx1 := t1354) (tx2 := t1356)  (hp := fun r_3v584 zr_3v584 tr_3v584 => ?_)
                    refine ⟨vp_of tx4_2v583 (by omega) (by omega), ?_⟩
                    intro w_5v588 ew_5v588
                    have hIw_5v588 := ixs_A hI ew_5v588 (by have q := rl_or b; omega)
                    unfold pX7_valueOf_225
                    obtain ⟨z1357, t1358, f1359⟩ := t_add tx5 lit_1
                    first | replace f1359 := f1359 (by omega) | clear f1359
                    intro x5_1v589 ex5_1v589
                    have tx5_1v589 : Ti x5_1v589 z1357 := by rw [ex5_1v589]; exact t1358
                    have f1360 := t_rng tx5_1v589
                    exact ih _ _ _ _ _ _ _ tx3 tx4_2v583 tx5_1v589 hIw_5v588 (by omega) (by omega) (by omega) (by omega)
                · replace c1341 := c_nlt tx4 lit_0 c1341
                  refine ⟨vp_of tx4 (by omega) (by omega), ?_⟩
                  obtain ⟨z1361, t1362⟩ := t_any (w.2.1 ((rl b) + 13) x4.toNatClampNeg)
                  refine ⟨fun c1363 => ?_, fun c1363 => ?_⟩
                  · replace c1363 := c_neq t1362 lit_0 c1363
                    unfold pX7_valueOf_184
                    refine ⟨vp_of tx4 (by omega) (by omega), ?_⟩
                    intro w_1v590 ew_1v590
                    have hIw_1v590 := ixs_A hI ew_1v590 (by have q := rl_or b; omega)
                    unfold pX7_valueOf_225
                    obtain ⟨z1364, t1365, f1366⟩ := t_add tx5 lit_1
                    first | replace f1366 := f1366 (by omega) | clear f1366
                    intro x5_1v591 ex5_1v591
                    have tx5_1v591 : Ti x5_1v591 z1364 := by rw [ex5_1v591]; exact t1365
                    have f1367 := t_rng tx5_1v591
                    exact ih _ _ _ _ _ _ _ tx3 tx4 tx5_1v591 hIw_1v590 (by omega) (by omega) (by omega) (by omega)
                  · replace c1363 := c_eq t1362 lit_0 c1363
                    unfold pX7_valueOf_184
                    refine ⟨vp_of tx4 (by omega) (by omega), ?_⟩
                    intro w_1v592 ew_1v592
                    have hIw_1v592 := ixs_A hI ew_1v592 (by have q := rl_or b; omega)
                    unfold pX7_valueOf_225
                    obtain ⟨z1368, t1369, f1370⟩ := t_add tx5 lit_1
                    first | replace f1370 := f1370 (by omega) | clear f1370
                    intro x5_1v593 ex5_1v593
                    have tx5_1v593 : Ti x5_1v593 z1368 := by rw [ex5_1v593]; exact t1369
                    have f1371 := t_rng tx5_1v593
                    exact ih _ _ _ _ _ _ _ tx3 tx4 tx5_1v593 hIw_1v592 (by omega) (by omega) (by omega) (by omega)
            · replace c1320 := c_nle t1318 tx4 c1320
              obtain ⟨z1372, t1373, f1374⟩ := t_add tx4 lit_1
              first | replace f1374 := f1374 (by omega) | clear f1374
              intro x4_4v538 ex4_4v538
              have tx4_4v538 : Ti x4_4v538 z1372 := by rw [ex4_4v538]; exact t1373
              refine ⟨vp_of tx6_3v535 (by omega) (by omega), ?_⟩
              refine ⟨vp_of tx4_4v538 (by omega) (by omega), ?_⟩
              intro w_5v539 ew_5v539
              have hIw_5v539 := ixs_A hI ew_5v539 (by have q := rl_or b; omega)
              unfold pX7_valueOf_225
              obtain ⟨z1375, t1376, f1377⟩ := t_add tx5 lit_1
              first | replace f1377 := f1377 (by omega) | clear f1377
              intro x5_1v594 ex5_1v594
              have tx5_1v594 : Ti x5_1v594 z1375 := by rw [ex5_1v594]; exact t1376
              have f1378 := t_rng tx5_1v594
              exact ih _ _ _ _ _ _ _ tx3 tx4_4v538 tx5_1v594 hIw_5v539 (by omega) (by omega) (by omega) (by omega)
      · replace c1212 := c_nlt tx6_3v535 lit_128 c1212
        obtain ⟨z1379, t1380, f1381⟩ := t_sub lit_32 lit_1
        first | replace f1381 := f1381 (by omega) | clear f1381
        refine ⟨fun c1382 => ?_, fun c1382 => ?_⟩
        · replace c1382 := c_le t1380 tx4 c1382
          unfold pX7_valueOf_110
          refine ⟨fun c1383 => ?_, fun c1383 => ?_⟩
          · replace c1383 := c_lt tx6_3v535 lit_0 c1383
            unfold pX7_valueOf_151
            refine ⟨fun c1384 => ?_, fun c1384 => ?_⟩
            · replace c1384 := c_neq tx6_3v535 lit_16 c1384
              unfold pX7_valueOf_188
              refine ⟨fun c1385 => ?_, fun c1385 => ?_⟩
              · replace c1385 := c_lt tx4 lit_1 c1385
                unfold pX7_valueOf_225
                obtain ⟨z1386, t1387, f1388⟩ := t_add tx5 lit_1
                first | replace f1388 := f1388 (by omega) | clear f1388
                intro x5_1v601 ex5_1v601
                have tx5_1v601 : Ti x5_1v601 z1386 := by rw [ex5_1v601]; exact t1387
                have f1389 := t_rng tx5_1v601
                exact ih _ _ _ _ _ _ _ tx3 tx4 tx5_1v601 hI (by omega) (by omega) (by omega) (by omega)
              · replace c1385 := c_nlt tx4 lit_1 c1385
                obtain ⟨z1390, t1391, f1392⟩ := t_add tx4 lit_m1
                first | replace f1392 := f1392 (by omega) | clear f1392
                intro x4_2v597 ex4_2v597
                have tx4_2v597 : Ti x4_2v597 z1390 := by rw [ex4_2v597]; exact t1391
                refine ⟨vp_of tx4_2v597 (by omega) (by omega), ?_⟩
                obtain ⟨z1393, t1394, f1395⟩ := t_add tx4_2v597 lit_1
                first | replace f1395 := f1395 (by omega) | clear f1395
                refine ⟨vp_of t1394 (by omega) (by omega), ?_⟩
                obtain ⟨z1396, t1397⟩ := t_any (w.2.1 ((rl b) + 13) x4_2v597.toNatClampNeg)
                obtain ⟨z1398, t1399⟩ := t_any (w.2.1 ((rl b) + 13) (x4_2v597 + (1 : Int32)).toNatClampNeg)
                refine sX7_join   (hI := hI) (tx0 := tx6_3v535) (tx1 := t1397) (tx2 := t1399)  (hp := fun r_3v598 zr_3v598 tr_3v598 => ?_)
                refine ⟨vp_of tx4_2v597 (by omega) (by omega), ?_⟩
                intro w_5v602 ew_5v602
                have hIw_5v602 := ixs_A hI ew_5v602 (by have q := rl_or b; omega)
                unfold pX7_valueOf_225
                obtain ⟨z1400, t1401, f1402⟩ := t_add tx5 lit_1
                first | replace f1402 := f1402 (by omega) | clear f1402
                intro x5_1v603 ex5_1v603
                have tx5_1v603 : Ti x5_1v603 z1400 := by rw [ex5_1v603]; exact t1401
                have f1403 := t_rng tx5_1v603
                exact ih _ _ _ _ _ _ _ tx3 tx4_2v597 tx5_1v603 hIw_5v602 (by omega) (by omega) (by omega) (by omega)
            · replace c1384 := c_eq tx6_3v535 lit_16 c1384
              refine ⟨fun c1404 => ?_, fun c1404 => ?_⟩
              · replace c1404 := c_lt tx4 lit_0 c1404
                unfold pX7_valueOf_188
                refine ⟨fun c1405 => ?_, fun c1405 => ?_⟩
                · replace c1405 := c_lt tx4 lit_1 c1405
                  unfold pX7_valueOf_225
                  obtain ⟨z1406, t1407, f1408⟩ := t_add tx5 lit_1
                  first | replace f1408 := f1408 (by omega) | clear f1408
                  intro x5_1v608 ex5_1v608
                  have tx5_1v608 : Ti x5_1v608 z1406 := by rw [ex5_1v608]; exact t1407
                  have f1409 := t_rng tx5_1v608
                  exact ih _ _ _ _ _ _ _ tx3 tx4 tx5_1v608 hI (by omega) (by omega) (by omega) (by omega)
                · replace c1405 := c_nlt tx4 lit_1 c1405
                  obtain ⟨z1410, t1411, f1412⟩ := t_add tx4 lit_m1
                  first | replace f1412 := f1412 (by omega) | clear f1412
                  intro x4_2v604 ex4_2v604
                  have tx4_2v604 : Ti x4_2v604 z1410 := by rw [ex4_2v604]; exact t1411
                  refine ⟨vp_of tx4_2v604 (by omega) (by omega), ?_⟩
                  obtain ⟨z1413, t1414, f1415⟩ := t_add tx4_2v604 lit_1
                  first | replace f1415 := f1415 (by omega) | clear f1415
                  refine ⟨vp_of t1414 (by omega) (by omega), ?_⟩
                  obtain ⟨z1416, t1417⟩ := t_any (w.2.1 ((rl b) + 13) x4_2v604.toNatClampNeg)
                  obtain ⟨z1418, t1419⟩ := t_any (w.2.1 ((rl b) + 13) (x4_2v604 + (1 : Int32)).toNatClampNeg)
                  refine sX7_join   (hI := hI) (tx0 := tx6_3v535) (tx1 := t1417) (tx2 := t1419)  (hp := fun r_3v605 zr_3v605 tr_3v605 => ?_)
                  refine ⟨vp_of tx4_2v604 (by omega) (by omega), ?_⟩
                  intro w_5v609 ew_5v609
                  have hIw_5v609 := ixs_A hI ew_5v609 (by have q := rl_or b; omega)
                  unfold pX7_valueOf_225
                  obtain ⟨z1420, t1421, f1422⟩ := t_add tx5 lit_1
                  first | replace f1422 := f1422 (by omega) | clear f1422
                  intro x5_1v610 ex5_1v610
                  have tx5_1v610 : Ti x5_1v610 z1420 := by rw [ex5_1v610]; exact t1421
                  have f1423 := t_rng tx5_1v610
                  exact ih _ _ _ _ _ _ _ tx3 tx4_2v604 tx5_1v610 hIw_5v609 (by omega) (by omega) (by omega) (by omega)
              · replace c1404 := c_nlt tx4 lit_0 c1404
                refine ⟨vp_of tx4 (by omega) (by omega), ?_⟩
                obtain ⟨z1424, t1425⟩ := t_any (w.2.1 ((rl b) + 13) x4.toNatClampNeg)
                refine ⟨fun c1426 => ?_, fun c1426 => ?_⟩
                · replace c1426 := c_neq t1425 lit_0 c1426
                  unfold pX7_valueOf_184
                  refine ⟨vp_of tx4 (by omega) (by omega), ?_⟩
                  intro w_1v611 ew_1v611
                  have hIw_1v611 := ixs_A hI ew_1v611 (by have q := rl_or b; omega)
                  unfold pX7_valueOf_225
                  obtain ⟨z1427, t1428, f1429⟩ := t_add tx5 lit_1
                  first | replace f1429 := f1429 (by omega) | clear f1429
                  intro x5_1v612 ex5_1v612
                  have tx5_1v612 : Ti x5_1v612 z1427 := by rw [ex5_1v612]; exact t1428
                  have f1430 := t_rng tx5_1v612
                  exact ih _ _ _ _ _ _ _ tx3 tx4 tx5_1v612 hIw_1v611 (by omega) (by omega) (by omega) (by omega)
                · replace c1426 := c_eq t1425 lit_0 c1426
                  unfold pX7_valueOf_184
                  refine ⟨vp_of tx4 (by omega) (by omega), ?_⟩
                  intro w_1v613 ew_1v613
                  have hIw_1v613 := ixs_A hI ew_1v613 (by have q := rl_or b; omega)
                  unfold pX7_valueOf_225
                  obtain ⟨z1431, t1432, f1433⟩ := t_add tx5 lit_1
                  first | replace f1433 := f1433 (by omega) | clear f1433
                  intro x5_1v614 ex5_1v614
                  have tx5_1v614 : Ti x5_1v614 z1431 := by rw [ex5_1v614]; exact t1432
                  have f1434 := t_rng tx5_1v614
                  exact ih _ _ _ _ _ _ _ tx3 tx4 tx5_1v614 hIw_1v613 (by omega) (by omega) (by omega) (by omega)
          · replace c1383 := c_nlt tx6_3v535 lit_0 c1383
            refine ⟨fun c1435 => ?_, fun c1435 => ?_⟩
            · replace c1435 := c_le lit_8 tx6_3v535 c1435
              unfold pX7_valueOf_151
              refine ⟨fun c1436 => ?_, fun c1436 => ?_⟩
              · replace c1436 := c_neq tx6_3v535 lit_16 c1436
                unfold pX7_valueOf_188
                refine ⟨fun c1437 => ?_, fun c1437 => ?_⟩
                · replace c1437 := c_lt tx4 lit_1 c1437
                  unfold pX7_valueOf_225
                  obtain ⟨z1438, t1439, f1440⟩ := t_add tx5 lit_1
                  first | replace f1440 := f1440 (by omega) | clear f1440
                  intro x5_1v619 ex5_1v619
                  have tx5_1v619 : Ti x5_1v619 z1438 := by rw [ex5_1v619]; exact t1439
                  have f1441 := t_rng tx5_1v619
                  exact ih _ _ _ _ _ _ _ tx3 tx4 tx5_1v619 hI (by omega) (by omega) (by omega) (by omega)
                · replace c1437 := c_nlt tx4 lit_1 c1437
                  obtain ⟨z1442, t1443, f1444⟩ := t_add tx4 lit_m1
                  first | replace f1444 := f1444 (by omega) | clear f1444
                  intro x4_2v615 ex4_2v615
                  have tx4_2v615 : Ti x4_2v615 z1442 := by rw [ex4_2v615]; exact t1443
                  refine ⟨vp_of tx4_2v615 (by omega) (by omega), ?_⟩
                  obtain ⟨z1445, t1446, f1447⟩ := t_add tx4_2v615 lit_1
                  first | replace f1447 := f1447 (by omega) | clear f1447
                  refine ⟨vp_of t1446 (by omega) (by omega), ?_⟩
                  obtain ⟨z1448, t1449⟩ := t_any (w.2.1 ((rl b) + 13) x4_2v615.toNatClampNeg)
                  obtain ⟨z1450, t1451⟩ := t_any (w.2.1 ((rl b) + 13) (x4_2v615 + (1 : Int32)).toNatClampNeg)
                  refine sX7_join   (hI := hI) (tx0 := tx6_3v535) (tx1 := t1449) (tx2 := t1451)  (hp := fun r_3v616 zr_3v616 tr_3v616 => ?_)
                  refine ⟨vp_of tx4_2v615 (by omega) (by omega), ?_⟩
                  intro w_5v620 ew_5v620
                  have hIw_5v620 := ixs_A hI ew_5v620 (by have q := rl_or b; omega)
                  unfold pX7_valueOf_225
                  obtain ⟨z1452, t1453, f1454⟩ := t_add tx5 lit_1
                  first | replace f1454 := f1454 (by omega) | clear f1454
                  intro x5_1v621 ex5_1v621
                  have tx5_1v621 : Ti x5_1v621 z1452 := by rw [ex5_1v621]; exact t1453
                  have f1455 := t_rng tx5_1v621
                  exact ih _ _ _ _ _ _ _ tx3 tx4_2v615 tx5_1v621 hIw_5v620 (by omega) (by omega) (by omega) (by omega)
              · replace c1436 := c_eq tx6_3v535 lit_16 c1436
                refine ⟨fun c1456 => ?_, fun c1456 => ?_⟩
                · replace c1456 := c_lt tx4 lit_0 c1456
                  unfold pX7_valueOf_188
                  refine ⟨fun c1457 => ?_, fun c1457 => ?_⟩
                  · replace c1457 := c_lt tx4 lit_1 c1457
                    unfold pX7_valueOf_225
                    obtain ⟨z1458, t1459, f1460⟩ := t_add tx5 lit_1
                    first | replace f1460 := f1460 (by omega) | clear f1460
                    intro x5_1v626 ex5_1v626
                    have tx5_1v626 : Ti x5_1v626 z1458 := by rw [ex5_1v626]; exact t1459
                    have f1461 := t_rng tx5_1v626
                    exact ih _ _ _ _ _ _ _ tx3 tx4 tx5_1v626 hI (by omega) (by omega) (by omega) (by omega)
                  · replace c1457 := c_nlt tx4 lit_1 c1457
                    obtain ⟨z1462, t1463, f1464⟩ := t_add tx4 lit_m1
                    first | replace f1464 := f1464 (by omega) | clear f1464
                    intro x4_2v622 ex4_2v622
                    have tx4_2v622 : Ti x4_2v622 z1462 := by rw [ex4_2v622]; exact t1463
                    refine ⟨vp_of tx4_2v622 (by omega) (by omega), ?_⟩
                    obtain ⟨z1465, t1466, f1467⟩ := t_add tx4_2v622 lit_1
                    first | replace f1467 := f1467 (by omega) | clear f1467
                    refine ⟨vp_of t1466 (by omega) (by omega), ?_⟩
                    obtain ⟨z1468, t1469⟩ := t_any (w.2.1 ((rl b) + 13) x4_2v622.toNatClampNeg)
                    obtain ⟨z1470, t1471⟩ := t_any (w.2.1 ((rl b) + 13) (x4_2v622 + (1 : Int32)).toNatClampNeg)
                    refine sX7_join   (hI := hI) (tx0 := tx6_3v535) (tx1 := t1469) (tx2 := t1471)  (hp := fun r_3v623 zr_3v623 tr_3v623 => ?_)
                    refine ⟨vp_of tx4_2v622 (by omega) (by omega), ?_⟩
                    intro w_5v627 ew_5v627
                    have hIw_5v627 := ixs_A hI ew_5v627 (by have q := rl_or b; omega)
                    unfold pX7_valueOf_225
                    obtain ⟨z1472, t1473, f1474⟩ := t_add tx5 lit_1
                    first | replace f1474 := f1474 (by omega) | clear f1474
                    intro x5_1v628 ex5_1v628
                    have tx5_1v628 : Ti x5_1v628 z1472 := by rw [ex5_1v628]; exact t1473
                    have f1475 := t_rng tx5_1v628
                    exact ih _ _ _ _ _ _ _ tx3 tx4_2v622 tx5_1v628 hIw_5v627 (by omega) (by omega) (by omega) (by omega)
                · replace c1456 := c_nlt tx4 lit_0 c1456
                  refine ⟨vp_of tx4 (by omega) (by omega), ?_⟩
                  obtain ⟨z1476, t1477⟩ := t_any (w.2.1 ((rl b) + 13) x4.toNatClampNeg)
                  refine ⟨fun c1478 => ?_, fun c1478 => ?_⟩
                  · replace c1478 := c_neq t1477 lit_0 c1478
                    unfold pX7_valueOf_184
                    refine ⟨vp_of tx4 (by omega) (by omega), ?_⟩
                    intro w_1v629 ew_1v629
                    have hIw_1v629 := ixs_A hI ew_1v629 (by have q := rl_or b; omega)
                    unfold pX7_valueOf_225
                    obtain ⟨z1479, t1480, f1481⟩ := t_add tx5 lit_1
                    first | replace f1481 := f1481 (by omega) | clear f1481
                    intro x5_1v630 ex5_1v630
                    have tx5_1v630 : Ti x5_1v630 z1479 := by rw [ex5_1v630]; exact t1480
                    have f1482 := t_rng tx5_1v630
                    exact ih _ _ _ _ _ _ _ tx3 tx4 tx5_1v630 hIw_1v629 (by omega) (by omega) (by omega) (by omega)
                  · replace c1478 := c_eq t1477 lit_0 c1478
                    unfold pX7_valueOf_184
                    refine ⟨vp_of tx4 (by omega) (by omega), ?_⟩
                    intro w_1v631 ew_1v631
                    have hIw_1v631 := ixs_A hI ew_1v631 (by have q := rl_or b; omega)
                    unfold pX7_valueOf_225
                    obtain ⟨z1483, t1484, f1485⟩ := t_add tx5 lit_1
                    first | replace f1485 := f1485 (by omega) | clear f1485
                    intro x5_1v632 ex5_1v632
                    have tx5_1v632 : Ti x5_1v632 z1483 := by rw [ex5_1v632]; exact t1484
                    have f1486 := t_rng tx5_1v632
                    exact ih _ _ _ _ _ _ _ tx3 tx4 tx5_1v632 hIw_1v631 (by omega) (by omega) (by omega) (by omega)
            · replace c1435 := c_nle lit_8 tx6_3v535 c1435
              refine ⟨fun c1487 => ?_, fun c1487 => ?_⟩
              · replace c1487 := c_le t1380 tx4 c1487
                unfold pX7_valueOf_151
                refine ⟨fun c1488 => ?_, fun c1488 => ?_⟩
                · replace c1488 := c_neq tx6_3v535 lit_16 c1488
                  unfold pX7_valueOf_188
                  refine ⟨fun c1489 => ?_, fun c1489 => ?_⟩
                  · replace c1489 := c_lt tx4 lit_1 c1489
                    unfold pX7_valueOf_225
                    obtain ⟨z1490, t1491, f1492⟩ := t_add tx5 lit_1
                    first | replace f1492 := f1492 (by omega) | clear f1492
                    intro x5_1v637 ex5_1v637
                    have tx5_1v637 : Ti x5_1v637 z1490 := by rw [ex5_1v637]; exact t1491
                    have f1493 := t_rng tx5_1v637
                    exact ih _ _ _ _ _ _ _ tx3 tx4 tx5_1v637 hI (by omega) (by omega) (by omega) (by omega)
                  · replace c1489 := c_nlt tx4 lit_1 c1489
                    obtain ⟨z1494, t1495, f1496⟩ := t_add tx4 lit_m1
                    first | replace f1496 := f1496 (by omega) | clear f1496
                    intro x4_2v633 ex4_2v633
                    have tx4_2v633 : Ti x4_2v633 z1494 := by rw [ex4_2v633]; exact t1495
                    refine ⟨vp_of tx4_2v633 (by omega) (by omega), ?_⟩
                    obtain ⟨z1497, t1498, f1499⟩ := t_add tx4_2v633 lit_1
                    first | replace f1499 := f1499 (by omega) | clear f1499
                    refine ⟨vp_of t1498 (by omega) (by omega), ?_⟩
                    obtain ⟨z1500, t1501⟩ := t_any (w.2.1 ((rl b) + 13) x4_2v633.toNatClampNeg)
                    obtain ⟨z1502, t1503⟩ := t_any (w.2.1 ((rl b) + 13) (x4_2v633 + (1 : Int32)).toNatClampNeg)
                    refine sX7_join   (hI := hI) (tx0 := tx6_3v535) (tx1 := t1501) (tx2 := t1503)  (hp := fun r_3v634 zr_3v634 tr_3v634 => ?_)
                    refine ⟨vp_of tx4_2v633 (by omega) (by omega), ?_⟩
                    intro w_5v638 ew_5v638
                    have hIw_5v638 := ixs_A hI ew_5v638 (by have q := rl_or b; omega)
                    unfold pX7_valueOf_225
                    obtain ⟨z1504, t1505, f1506⟩ := t_add tx5 lit_1
                    first | replace f1506 := f1506 (by omega) | clear f1506
                    intro x5_1v639 ex5_1v639
                    have tx5_1v639 : Ti x5_1v639 z1504 := by rw [ex5_1v639]; exact t1505
                    have f1507 := t_rng tx5_1v639
                    exact ih _ _ _ _ _ _ _ tx3 tx4_2v633 tx5_1v639 hIw_5v638 (by omega) (by omega) (by omega) (by omega)
                · replace c1488 := c_eq tx6_3v535 lit_16 c1488
                  refine ⟨fun c1508 => ?_, fun c1508 => ?_⟩
                  · replace c1508 := c_lt tx4 lit_0 c1508
                    unfold pX7_valueOf_188
                    refine ⟨fun c1509 => ?_, fun c1509 => ?_⟩
                    · replace c1509 := c_lt tx4 lit_1 c1509
                      unfold pX7_valueOf_225
                      obtain ⟨z1510, t1511, f1512⟩ := t_add tx5 lit_1
                      first | replace f1512 := f1512 (by omega) | clear f1512
                      intro x5_1v644 ex5_1v644
                      have tx5_1v644 : Ti x5_1v644 z1510 := by rw [ex5_1v644]; exact t1511
                      have f1513 := t_rng tx5_1v644
                      exact ih _ _ _ _ _ _ _ tx3 tx4 tx5_1v644 hI (by omega) (by omega) (by omega) (by omega)
                    · replace c1509 := c_nlt tx4 lit_1 c1509
                      obtain ⟨z1514, t1515, f1516⟩ := t_add tx4 lit_m1
                      first | replace f1516 := f1516 (by omega) | clear f1516
                      intro x4_2v640 ex4_2v640
                      have tx4_2v640 : Ti x4_2v640 z1514 := by rw [ex4_2v640]; exact t1515
                      refine ⟨vp_of tx4_2v640 (by omega) (by omega), ?_⟩
                      obtain ⟨z1517, t1518, f1519⟩ := t_add tx4_2v640 lit_1
                      first | replace f1519 := f1519 (by omega) | clear f1519
                      refine ⟨vp_of t1518 (by omega) (by omega), ?_⟩
                      obtain ⟨z1520, t1521⟩ := t_any (w.2.1 ((rl b) + 13) x4_2v640.toNatClampNeg)
                      obtain ⟨z1522, t1523⟩ := t_any (w.2.1 ((rl b) + 13) (x4_2v640 + (1 : Int32)).toNatClampNeg)
                      refine sX7_join   (hI := hI) (tx0 := tx6_3v535) (tx1 := t1521) (tx2 := t1523)  (hp := fun r_3v641 zr_3v641 tr_3v641 => ?_)
                      refine ⟨vp_of tx4_2v640 (by omega) (by omega), ?_⟩
                      intro w_5v645 ew_5v645
                      have hIw_5v645 := ixs_A hI ew_5v645 (by have q := rl_or b; omega)
                      unfold pX7_valueOf_225
                      obtain ⟨z1524, t1525, f1526⟩ := t_add tx5 lit_1
                      first | replace f1526 := f1526 (by omega) | clear f1526
                      intro x5_1v646 ex5_1v646
                      have tx5_1v646 : Ti x5_1v646 z1524 := by rw [ex5_1v646]; exact t1525
                      have f1527 := t_rng tx5_1v646
                      exact ih _ _ _ _ _ _ _ tx3 tx4_2v640 tx5_1v646 hIw_5v645 (by omega) (by omega) (by omega) (by omega)
                  · replace c1508 := c_nlt tx4 lit_0 c1508
                    refine ⟨vp_of tx4 (by omega) (by omega), ?_⟩
                    obtain ⟨z1528, t1529⟩ := t_any (w.2.1 ((rl b) + 13) x4.toNatClampNeg)
                    refine ⟨fun c1530 => ?_, fun c1530 => ?_⟩
                    · replace c1530 := c_neq t1529 lit_0 c1530
                      unfold pX7_valueOf_184
                      refine ⟨vp_of tx4 (by omega) (by omega), ?_⟩
                      intro w_1v647 ew_1v647
                      have hIw_1v647 := ixs_A hI ew_1v647 (by have q := rl_or b; omega)
                      unfold pX7_valueOf_225
                      obtain ⟨z1531, t1532, f1533⟩ := t_add tx5 lit_1
                      first | replace f1533 := f1533 (by omega) | clear f1533
                      intro x5_1v648 ex5_1v648
                      have tx5_1v648 : Ti x5_1v648 z1531 := by rw [ex5_1v648]; exact t1532
                      have f1534 := t_rng tx5_1v648
                      exact ih _ _ _ _ _ _ _ tx3 tx4 tx5_1v648 hIw_1v647 (by omega) (by omega) (by omega) (by omega)
                    · replace c1530 := c_eq t1529 lit_0 c1530
                      unfold pX7_valueOf_184
                      refine ⟨vp_of tx4 (by omega) (by omega), ?_⟩
                      intro w_1v649 ew_1v649
                      have hIw_1v649 := ixs_A hI ew_1v649 (by have q := rl_or b; omega)
                      unfold pX7_valueOf_225
                      obtain ⟨z1535, t1536, f1537⟩ := t_add tx5 lit_1
                      first | replace f1537 := f1537 (by omega) | clear f1537
                      intro x5_1v650 ex5_1v650
                      have tx5_1v650 : Ti x5_1v650 z1535 := by rw [ex5_1v650]; exact t1536
                      have f1538 := t_rng tx5_1v650
                      exact ih _ _ _ _ _ _ _ tx3 tx4 tx5_1v650 hIw_1v649 (by omega) (by omega) (by omega) (by omega)
              · replace c1487 := c_nle t1380 tx4 c1487
                obtain ⟨z1539, t1540, f1541⟩ := t_add tx4 lit_1
                first | replace f1541 := f1541 (by omega) | clear f1541
                intro x4_4v595 ex4_4v595
                have tx4_4v595 : Ti x4_4v595 z1539 := by rw [ex4_4v595]; exact t1540
                refine ⟨vp_of tx6_3v535 (by omega) (by omega), ?_⟩
                refine ⟨vp_of tx4_4v595 (by omega) (by omega), ?_⟩
                intro w_5v596 ew_5v596
                have hIw_5v596 := ixs_A hI ew_5v596 (by have q := rl_or b; omega)
                unfold pX7_valueOf_225
                obtain ⟨z1542, t1543, f1544⟩ := t_add tx5 lit_1
                first | replace f1544 := f1544 (by omega) | clear f1544
                intro x5_1v651 ex5_1v651
                have tx5_1v651 : Ti x5_1v651 z1542 := by rw [ex5_1v651]; exact t1543
                have f1545 := t_rng tx5_1v651
                exact ih _ _ _ _ _ _ _ tx3 tx4_4v595 tx5_1v651 hIw_5v596 (by omega) (by omega) (by omega) (by omega)
        · replace c1382 := c_nle t1380 tx4 c1382
          obtain ⟨z1546, t1547, f1548⟩ := t_add tx4 lit_1
          first | replace f1548 := f1548 (by omega) | clear f1548
          intro x4_6v536 ex4_6v536
          have tx4_6v536 : Ti x4_6v536 z1546 := by rw [ex4_6v536]; exact t1547
          refine ⟨vp_of tx4_6v536 (by omega) (by omega), ?_⟩
          intro w_7v537 ew_7v537
          have hIw_7v537 := ixs_A hI ew_7v537 (by have q := rl_or b; omega)
          unfold pX7_valueOf_225
          obtain ⟨z1549, t1550, f1551⟩ := t_add tx5 lit_1
          first | replace f1551 := f1551 (by omega) | clear f1551
          intro x5_1v652 ex5_1v652
          have tx5_1v652 : Ti x5_1v652 z1549 := by rw [ex5_1v652]; exact t1550
          have f1552 := t_rng tx5_1v652
          exact ih _ _ _ _ _ _ _ tx3 tx4_6v536 tx5_1v652 hIw_7v537 (by omega) (by omega) (by omega) (by omega)
set_option maxHeartbeats 4000000 in
set_option maxRecDepth 100000 in
theorem sX7_valueOf {T D : Int} {k : Nat} {post : Int32 → Wd → Prop} {b : Bool} {x1 : Int32} {zx1 : Int} {w : Wd}  (tx1 : Ti x1 zx1) (hI : IX k T D w)  (hp : ∀ (r : Int32) (zr : Int) (w9 : Wd), Ti r zr → IX k T D w9 → post r w9) : pX7_valueOf   post b x1 w := by
  unfold pX7_valueOf
  have hk := ix_k hI
  refine ⟨fun c1553 => ?_, fun c1553 => ?_⟩
  · replace c1553 := c_lt tx1 lit_0 c1553
    exact hp _ _ _  lit_0 hI 
  · replace c1553 := c_nlt tx1 lit_0 c1553
    obtain ⟨z1554, t1555⟩ := t_any (w.1 (rl b) 11)
    refine ⟨fun c1556 => ?_, fun c1556 => ?_⟩
    · replace c1556 := c_le t1555 tx1 c1556
      exact hp _ _ _  lit_0 hI 
    · replace c1556 := c_nle t1555 tx1 c1556
      obtain ⟨z1557, t1558, f1559⟩ := t_sub lit_9 lit_1
      first | replace f1559 := f1559 (by omega) | clear f1559
      refine ⟨fun c1560 => ?_, fun c1560 => ?_⟩
      · replace c1560 := c_lt tx1 t1558 c1560
        obtain ⟨z1561, t1562, f1563⟩ := t_add tx1 lit_1
        first | replace f1563 := f1563 (by omega) | clear f1563
        refine ⟨vp_of t1562 (by omega) (by omega), ?_⟩
        obtain ⟨z1564, t1565⟩ := t_any (w.1 (rl b) 9)
        have f1566 := ixg_r9 hI t1565
        obtain ⟨z1567, t1568⟩ := t_any (w.2.1 ((rl b) + 11) (x1 + (1 : Int32)).toNatClampNeg)
        obtain ⟨z1569, t1570, f1571⟩ := t_ite t1565 t1568 t1565 t1568
        intro x3_4v653 ex3_4v653
        have tx3_4v653 : Ti x3_4v653 z1569 := by rw [ex3_4v653]; exact t1570
        refine ⟨vp_of tx1 (by omega) (by omega), ?_⟩
        obtain ⟨z1572, t1573⟩ := t_any (w.2.1 ((rl b) + 11) x1.toNatClampNeg)
        obtain ⟨z1574, t1575, f1576⟩ := t_ite t1573 lit_0 lit_0 t1573
        intro x5_5v654 ex5_5v654
        have tx5_5v654 : Ti x5_5v654 z1574 := by rw [ex5_5v654]; exact t1575
        have f1577 := t_rng tx5_5v654
        exact ⟨2147483649, sX7_valueOf_56    (hp := hp) 2147483649 _ _ _ _ _ _ _ tx3_4v653 lit_m1 tx5_5v654 hI (by omega) (by omega) (by omega) (by omega)⟩
      · replace c1560 := c_nlt tx1 t1558 c1560
        exact hp _ _ _  lit_0 hI 
set_option maxHeartbeats 4000000 in
set_option maxRecDepth 100000 in
theorem sX1_learn {T D : Int} {k : Nat} {post : Wd → Prop} {x1 : Int32} {zx1 : Int} {x2 : Int32} {zx2 : Int} {x3 : Int32} {zx3 : Int} {x4 : Int32} {zx4 : Int} {w : Wd}  (tx1 : Ti x1 zx1) (tx2 : Ti x2 zx2) (tx3 : Ti x3 zx3) (tx4 : Ti x4 zx4) (hI : IX k T D w)  (hp : ∀ (w9 : Wd), IX k T D w9 → post w9) : pX1_learn   post  x1 x2 x3 x4 w := by
  unfold pX1_learn
  have hk := ix_k hI
  intro w_1v655 ew_1v655
  have hIw_1v655 := ixs_A hI ew_1v655 (by decide)
  intro w_2v656 ew_2v656
  have hIw_2v656 := ixs_A hIw_1v655 ew_2v656 (by decide)
  intro w_3v657 ew_3v657
  have hIw_3v657 := ixs_A hIw_2v656 ew_3v657 (by decide)
  intro w_4v658 ew_4v658
  have hIw_4v658 := ixs_A hIw_3v657 ew_4v658 (by decide)
  obtain ⟨z1578, t1579⟩ := t_any (w_4v658.2.1 46 (1 : Int32).toNatClampNeg)
  refine ⟨fun c1580 => ?_, fun c1580 => ?_⟩
  · replace c1580 := c_eq t1579 lit_0 c1580
    obtain ⟨z1581, t1582, f1583⟩ := t_mul lit_2 tx1
    first | replace f1583 := f1583 (by omega) | clear f1583
    obtain ⟨z1584, t1585, f1586⟩ := t_add t1582 lit_1
    first | replace f1586 := f1586 (by omega) | clear f1586
    refine sX7_valueOf   (hI := hIw_4v658) (tx1 := t1585)  (hp := fun r_6v659 zr_6v659 w_7v660  tr_6v659 hIw_7v660  => ?_)
    refine ⟨fun c1587 => ?_, fun c1587 => ?_⟩
    · replace c1587 := c_eq tr_6v659 lit_0 c1587
      unfold pX1_learn_97
      obtain ⟨z1588, t1589, f1590⟩ := t_add tx2 tx3
      first | replace f1590 := f1590 (by omega) | clear f1590
      intro x6_1v663 ex6_1v663
      have tx6_1v663 : Ti x6_1v663 z1588 := by rw [ex6_1v663]; exact t1589
      refine ⟨fun c1591 => ?_, fun c1591 => ?_⟩
      · replace c1591 := c_lt tx6_1v663 lit_0 c1591
        exact hp  _   hIw_7v660 
      · replace c1591 := c_nlt tx6_1v663 lit_0 c1591
        refine ⟨fun c1592 => ?_, fun c1592 => ?_⟩
        · replace c1592 := c_le lit_4160 tx6_1v663 c1592
          exact hp  _   hIw_7v660 
        · replace c1592 := c_nle lit_4160 tx6_1v663 c1592
          refine ⟨vp_of tx6_1v663 (by omega) (by omega), ?_⟩
          refine ⟨vp_of tx6_1v663 (by omega) (by omega), ?_⟩
          intro w_4v664 ew_4v664
          have hIw_4v664 := ixs_A hIw_7v660 ew_4v664 (by decide)
          refine ⟨vp_of tx6_1v663 (by omega) (by omega), ?_⟩
          refine ⟨fun c1593 => ?_, fun c1593 => ?_⟩
          · replace c1593 := c_eq lit_0 lit_0 c1593
            refine ⟨vp_of tx6_1v663 (by omega) (by omega), ?_⟩
            intro w_6v665 ew_6v665
            have hIw_6v665 := ixs_A hIw_4v664 ew_6v665 (by decide)
            exact hp  _   hIw_6v665 
          · replace c1593 := c_neq lit_0 lit_0 c1593
            refine ⟨vp_of tx6_1v663 (by omega) (by omega), ?_⟩
            intro w_7v666 ew_7v666
            have hIw_7v666 := ixs_A hIw_4v664 ew_7v666 (by decide)
            exact hp  _   hIw_7v666 
    · replace c1587 := c_neq tr_6v659 lit_0 c1587
      unfold pX1_learn_97
      obtain ⟨z1594, t1595, f1596⟩ := t_add tx2 tx3
      first | replace f1596 := f1596 (by omega) | clear f1596
      intro x6_1v667 ex6_1v667
      have tx6_1v667 : Ti x6_1v667 z1594 := by rw [ex6_1v667]; exact t1595
      refine ⟨fun c1597 => ?_, fun c1597 => ?_⟩
      · replace c1597 := c_lt tx6_1v667 lit_0 c1597
        exact hp  _   hIw_7v660 
      · replace c1597 := c_nlt tx6_1v667 lit_0 c1597
        refine ⟨fun c1598 => ?_, fun c1598 => ?_⟩
        · replace c1598 := c_le lit_4160 tx6_1v667 c1598
          exact hp  _   hIw_7v660 
        · replace c1598 := c_nle lit_4160 tx6_1v667 c1598
          refine ⟨vp_of tx6_1v667 (by omega) (by omega), ?_⟩
          refine ⟨vp_of tx6_1v667 (by omega) (by omega), ?_⟩
          intro w_4v668 ew_4v668
          have hIw_4v668 := ixs_A hIw_7v660 ew_4v668 (by decide)
          refine ⟨vp_of tx6_1v667 (by omega) (by omega), ?_⟩
          refine ⟨fun c1599 => ?_, fun c1599 => ?_⟩
          · replace c1599 := c_eq lit_1 lit_0 c1599
            refine ⟨vp_of tx6_1v667 (by omega) (by omega), ?_⟩
            intro w_6v669 ew_6v669
            have hIw_6v669 := ixs_A hIw_4v668 ew_6v669 (by decide)
            exact hp  _   hIw_6v669 
          · replace c1599 := c_neq lit_1 lit_0 c1599
            refine ⟨vp_of tx6_1v667 (by omega) (by omega), ?_⟩
            intro w_7v670 ew_7v670
            have hIw_7v670 := ixs_A hIw_4v668 ew_7v670 (by decide)
            exact hp  _   hIw_7v670 
  · replace c1580 := c_neq t1579 lit_0 c1580
    obtain ⟨z1600, t1601, f1602⟩ := t_mul lit_2 tx1
    first | replace f1602 := f1602 (by omega) | clear f1602
    refine sX7_valueOf   (hI := hIw_4v658) (tx1 := t1601)  (hp := fun r_9v661 zr_9v661 w_10v662  tr_9v661 hIw_10v662  => ?_)
    refine ⟨fun c1603 => ?_, fun c1603 => ?_⟩
    · replace c1603 := c_neq tr_9v661 lit_0 c1603
      unfold pX1_learn_97
      obtain ⟨z1604, t1605, f1606⟩ := t_add tx2 tx3
      first | replace f1606 := f1606 (by omega) | clear f1606
      intro x6_1v671 ex6_1v671
      have tx6_1v671 : Ti x6_1v671 z1604 := by rw [ex6_1v671]; exact t1605
      refine ⟨fun c1607 => ?_, fun c1607 => ?_⟩
      · replace c1607 := c_lt tx6_1v671 lit_0 c1607
        exact hp  _   hIw_10v662 
      · replace c1607 := c_nlt tx6_1v671 lit_0 c1607
        refine ⟨fun c1608 => ?_, fun c1608 => ?_⟩
        · replace c1608 := c_le lit_4160 tx6_1v671 c1608
          exact hp  _   hIw_10v662 
        · replace c1608 := c_nle lit_4160 tx6_1v671 c1608
          refine ⟨vp_of tx6_1v671 (by omega) (by omega), ?_⟩
          refine ⟨vp_of tx6_1v671 (by omega) (by omega), ?_⟩
          intro w_4v672 ew_4v672
          have hIw_4v672 := ixs_A hIw_10v662 ew_4v672 (by decide)
          refine ⟨vp_of tx6_1v671 (by omega) (by omega), ?_⟩
          refine ⟨fun c1609 => ?_, fun c1609 => ?_⟩
          · replace c1609 := c_eq lit_0 lit_0 c1609
            refine ⟨vp_of tx6_1v671 (by omega) (by omega), ?_⟩
            intro w_6v673 ew_6v673
            have hIw_6v673 := ixs_A hIw_4v672 ew_6v673 (by decide)
            exact hp  _   hIw_6v673 
          · replace c1609 := c_neq lit_0 lit_0 c1609
            refine ⟨vp_of tx6_1v671 (by omega) (by omega), ?_⟩
            intro w_7v674 ew_7v674
            have hIw_7v674 := ixs_A hIw_4v672 ew_7v674 (by decide)
            exact hp  _   hIw_7v674 
    · replace c1603 := c_eq tr_9v661 lit_0 c1603
      unfold pX1_learn_97
      obtain ⟨z1610, t1611, f1612⟩ := t_add tx2 tx3
      first | replace f1612 := f1612 (by omega) | clear f1612
      intro x6_1v675 ex6_1v675
      have tx6_1v675 : Ti x6_1v675 z1610 := by rw [ex6_1v675]; exact t1611
      refine ⟨fun c1613 => ?_, fun c1613 => ?_⟩
      · replace c1613 := c_lt tx6_1v675 lit_0 c1613
        exact hp  _   hIw_10v662 
      · replace c1613 := c_nlt tx6_1v675 lit_0 c1613
        refine ⟨fun c1614 => ?_, fun c1614 => ?_⟩
        · replace c1614 := c_le lit_4160 tx6_1v675 c1614
          exact hp  _   hIw_10v662 
        · replace c1614 := c_nle lit_4160 tx6_1v675 c1614
          refine ⟨vp_of tx6_1v675 (by omega) (by omega), ?_⟩
          refine ⟨vp_of tx6_1v675 (by omega) (by omega), ?_⟩
          intro w_4v676 ew_4v676
          have hIw_4v676 := ixs_A hIw_10v662 ew_4v676 (by decide)
          refine ⟨vp_of tx6_1v675 (by omega) (by omega), ?_⟩
          refine ⟨fun c1615 => ?_, fun c1615 => ?_⟩
          · replace c1615 := c_eq lit_1 lit_0 c1615
            refine ⟨vp_of tx6_1v675 (by omega) (by omega), ?_⟩
            intro w_6v677 ew_6v677
            have hIw_6v677 := ixs_A hIw_4v676 ew_6v677 (by decide)
            exact hp  _   hIw_6v677 
          · replace c1615 := c_neq lit_1 lit_0 c1615
            refine ⟨vp_of tx6_1v675 (by omega) (by omega), ?_⟩
            intro w_7v678 ew_7v678
            have hIw_7v678 := ixs_A hIw_4v676 ew_7v678 (by decide)
            exact hp  _   hIw_7v678 
set_option maxHeartbeats 4000000 in
set_option maxRecDepth 100000 in
theorem sX1_forget_6 {T D : Int} {k : Nat} {post : Wd → Prop}   (hp : ∀ (w9 : Wd), IX k T D w9 → post w9) : ∀ (n : Nat) (x1 : Int32) (x2 : Int32) (x3 : Int32) (zx1 : Int) (zx2 : Int) (zx3 : Int) (w : Wd), Ti x1 zx1 → Ti x2 zx2 → Ti x3 zx3 → IX k T D w → (0 ≤ zx3 ∧ zx3 ≤ 2147483647) → (2147483648 - zx3) < (n : Int) → pX1_forget_6   post  n x1 x2 x3 w := by
  intro n
  induction n with
  | zero =>
    intro x1 x2 x3 zx1 zx2 zx3 w tx1 tx2 tx3 hI h0 hm
    exact absurd hm (by omega)
  | succ n ih =>
    intro x1 x2 x3 zx1 zx2 zx3 w tx1 tx2 tx3 hI h0 hm
    unfold pX1_forget_6
    have hk := ix_k hI
    obtain ⟨z1616, t1617, f1618⟩ := t_add tx1 tx2
    first | replace f1618 := f1618 (by omega) | clear f1618
    refine ⟨fun c1619 => ?_, fun c1619 => ?_⟩
    · replace c1619 := c_le t1617 tx3 c1619
      exact hp  _   hI 
    · replace c1619 := c_nle t1617 tx3 c1619
      refine ⟨fun c1620 => ?_, fun c1620 => ?_⟩
      · replace c1620 := c_le lit_4160 tx3 c1620
        exact hp  _   hI 
      · replace c1620 := c_nle lit_4160 tx3 c1620
        refine ⟨vp_of tx3 (by omega) (by omega), ?_⟩
        intro w_3v679 ew_3v679
        have hIw_3v679 := ixs_A hI ew_3v679 (by decide)
        refine ⟨vp_of tx3 (by omega) (by omega), ?_⟩
        intro w_4v680 ew_4v680
        have hIw_4v680 := ixs_A hIw_3v679 ew_4v680 (by decide)
        obtain ⟨z1621, t1622, f1623⟩ := t_add tx3 lit_1
        first | replace f1623 := f1623 (by omega) | clear f1623
        intro x3_5v681 ex3_5v681
        have tx3_5v681 : Ti x3_5v681 z1621 := by rw [ex3_5v681]; exact t1622
        have f1624 := t_rng tx3_5v681
        exact ih _ _ _ _ _ _ _ tx1 tx2 tx3_5v681 hIw_4v680 (by omega) (by omega)
set_option maxHeartbeats 4000000 in
set_option maxRecDepth 100000 in
theorem sX1_forget {T D : Int} {k : Nat} {post : Wd → Prop} {x1 : Int32} {zx1 : Int} {x2 : Int32} {zx2 : Int} {w : Wd}  (tx1 : Ti x1 zx1) (tx2 : Ti x2 zx2) (hI : IX k T D w)  (hp : ∀ (w9 : Wd), IX k T D w9 → post w9) : pX1_forget   post  x1 x2 w := by
  unfold pX1_forget
  have hk := ix_k hI
  obtain ⟨z1625, t1626, f1627⟩ := t_ite tx1 lit_0 lit_0 tx1
  intro x3_1v682 ex3_1v682
  have tx3_1v682 : Ti x3_1v682 z1625 := by rw [ex3_1v682]; exact t1626
  have f1628 := t_rng tx3_1v682
  exact ⟨2147483649, sX1_forget_6    (hp := hp) 2147483649 _ _ _ _ _ _ _ tx1 tx2 tx3_1v682 hI (by omega) (by omega)⟩
set_option maxHeartbeats 4000000 in
set_option maxRecDepth 100000 in
theorem sX7_isUsed {T D : Int} {k : Nat} {post : Int32 → Wd → Prop} {b : Bool} {x1 : Int32} {zx1 : Int} {x2 : Int32} {zx2 : Int} {w : Wd}  (tx1 : Ti x1 zx1) (tx2 : Ti x2 zx2) (hI : IX k T D w)  (hp : ∀ (r : Int32) (zr : Int), Ti r zr → ((zr = 0 ∨ zr = 1)) → post r w) : pX7_isUsed   post b x1 x2 w := by
  unfold pX7_isUsed
  have hk := ix_k hI
  refine ⟨fun c1629 => ?_, fun c1629 => ?_⟩
  · replace c1629 := c_lt tx1 lit_0 c1629
    exact hp _ _ lit_0 (by omega)
  · replace c1629 := c_nlt tx1 lit_0 c1629
    refine ⟨fun c1630 => ?_, fun c1630 => ?_⟩
    · replace c1630 := c_le lit_4 tx1 c1630
      exact hp _ _ lit_0 (by omega)
    · replace c1630 := c_nle lit_4 tx1 c1630
      refine ⟨vp_of tx1 (by omega) (by omega), ?_⟩
      obtain ⟨z1631, t1632, f1633⟩ := t_and (x := ((w.2.1 ((rl b) + 8) x1.toNatClampNeg) >>> (x2 &&& 31))) lit_1 (by decide)
      refine ⟨fun c1634 => ?_, fun c1634 => ?_⟩
      · replace c1634 := c_eq t1632 lit_0 c1634
        exact hp _ _ lit_0 (by omega)
      · replace c1634 := c_neq t1632 lit_0 c1634
        exact hp _ _ lit_1 (by omega)
set_option maxHeartbeats 4000000 in
set_option maxRecDepth 100000 in
theorem sX1_setUp {T D : Int} {k : Nat} {post : Int32 → Wd → Prop} {x1 : Int32} {zx1 : Int} {x2 : Int32} {zx2 : Int} {x3 : Int32} {zx3 : Int} {w : Wd}  (tx1 : Ti x1 zx1) (tx2 : Ti x2 zx2) (tx3 : Ti x3 zx3) (hI : IX k T D w) (h0 : 0 ≤ zx1 ∧ zx1 ≤ 3) (h1 : 0 ≤ zx2 ∧ zx2 ≤ 9) (hp : ∀ (r : Int32) (zr : Int) (w9 : Wd), Ti r zr → IX k T D w9 → (0 ≤ zr ∧ zr ≤ 4056) → post r w9) : pX1_setUp   post  x1 x2 x3 w := by
  unfold pX1_setUp
  have hk := ix_k hI
  refine sX7_isUsed   (hI := hI) (tx1 := tx1) (tx2 := lit_6)  (hp := fun r_1v683 zr_1v683 tr_1v683 p1635 => ?_)
  refine ⟨fun c1636 => ?_, fun c1636 => ?_⟩
  · replace c1636 := c_eq tr_1v683 lit_0 c1636
    unfold pX1_setUp_22
    obtain ⟨z1637, t1638, f1639⟩ := t_mul tx1 lit_10
    first | replace f1639 := f1639 (by omega) | clear f1639
    obtain ⟨z1640, t1641, f1642⟩ := t_add t1638 lit_0
    first | replace f1642 := f1642 (by omega) | clear f1642
    intro x4_1v685 ex4_1v685
    have tx4_1v685 : Ti x4_1v685 z1640 := by rw [ex4_1v685]; exact t1641
    refine sX7_isUsed   (hI := hI) (tx1 := tx1) (tx2 := lit_5)  (hp := fun r_2v686 zr_2v686 tr_2v686 p1643 => ?_)
    refine ⟨fun c1644 => ?_, fun c1644 => ?_⟩
    · replace c1644 := c_eq tr_2v686 lit_0 c1644
      unfold pX1_setUp_51
      refine sX7_isUsed   (hI := hI) (tx1 := tx1) (tx2 := lit_7)  (hp := fun r_1v688 zr_1v688 tr_1v688 p1645 => ?_)
      refine ⟨fun c1646 => ?_, fun c1646 => ?_⟩
      · replace c1646 := c_eq tr_1v688 lit_0 c1646
        unfold pX1_setUp_73
        obtain ⟨z1647, t1648, f1649⟩ := t_add lit_0 lit_0
        first | replace f1649 := f1649 (by omega) | clear f1649
        intro x5_1v690 ex5_1v690
        have tx5_1v690 : Ti x5_1v690 z1647 := by rw [ex5_1v690]; exact t1648
        refine ⟨vp_of tx4_1v685 (by omega) (by omega), ?_⟩
        obtain ⟨z1650, t1651⟩ := t_any (w.2.1 45 x4_1v685.toNatClampNeg)
        refine ⟨fun c1652 => ?_, fun c1652 => ?_⟩
        · replace c1652 := c_eq t1651 tx5_1v690 c1652
          unfold pX1_setUp_125
          intro w_1v693 ew_1v693
          have hIw_1v693 := ixs_A hI ew_1v693 (by decide)
          intro w_2v694 ew_2v694
          have hIw_2v694 := ixs_A hIw_1v693 ew_2v694 (by decide)
          intro w_3v695 ew_3v695
          have hIw_3v695 := ixs_A hIw_2v694 ew_3v695 (by decide)
          obtain ⟨z1653, t1654, f1655⟩ := t_mul tx4_1v685 lit_104
          first | replace f1655 := f1655 (by omega) | clear f1655
          exact hp _ _ _  t1654 hIw_3v695 (by omega)
        · replace c1652 := c_neq t1651 tx5_1v690 c1652
          refine sX7_isUsed   (hI := hI) (tx1 := tx1) (tx2 := lit_4)  (hp := fun r_3v691 zr_3v691 tr_3v691 p1656 => ?_)
          refine ⟨fun c1657 => ?_, fun c1657 => ?_⟩
          · replace c1657 := c_eq tr_3v691 lit_0 c1657
            unfold pX1_setUp_113
            obtain ⟨z1658, t1659, f1660⟩ := t_mul tx4_1v685 lit_104
            first | replace f1660 := f1660 (by omega) | clear f1660
            refine sX1_forget   (hI := hI) (tx1 := t1659) (tx2 := lit_8)  (hp := fun  w_1v696   hIw_1v696  => ?_)
            refine ⟨vp_of tx4_1v685 (by omega) (by omega), ?_⟩
            intro w_2v697 ew_2v697
            have hIw_2v697 := ixs_A hIw_1v696 ew_2v697 (by decide)
            unfold pX1_setUp_125
            intro w_1v698 ew_1v698
            have hIw_1v698 := ixs_A hIw_2v697 ew_1v698 (by decide)
            intro w_2v699 ew_2v699
            have hIw_2v699 := ixs_A hIw_1v698 ew_2v699 (by decide)
            intro w_3v700 ew_3v700
            have hIw_3v700 := ixs_A hIw_2v699 ew_3v700 (by decide)
            exact hp _ _ _  t1659 hIw_3v700 (by omega)
          · replace c1657 := c_neq tr_3v691 lit_0 c1657
            unfold pX1_setUp_113
            obtain ⟨z1661, t1662, f1663⟩ := t_mul tx4_1v685 lit_104
            first | replace f1663 := f1663 (by omega) | clear f1663
            refine sX1_forget   (hI := hI) (tx1 := t1662) (tx2 := lit_104)  (hp := fun  w_1v701   hIw_1v701  => ?_)
            refine ⟨vp_of tx4_1v685 (by omega) (by omega), ?_⟩
            intro w_2v702 ew_2v702
            have hIw_2v702 := ixs_A hIw_1v701 ew_2v702 (by decide)
            unfold pX1_setUp_125
            intro w_1v703 ew_1v703
            have hIw_1v703 := ixs_A hIw_2v702 ew_1v703 (by decide)
            intro w_2v704 ew_2v704
            have hIw_2v704 := ixs_A hIw_1v703 ew_2v704 (by decide)
            intro w_3v705 ew_3v705
            have hIw_3v705 := ixs_A hIw_2v704 ew_3v705 (by decide)
            exact hp _ _ _  t1662 hIw_3v705 (by omega)
      · replace c1646 := c_neq tr_1v688 lit_0 c1646
        unfold pX1_setUp_73
        obtain ⟨z1664, t1665, f1666⟩ := t_add lit_0 tx3
        first | replace f1666 := f1666 (by omega) | clear f1666
        intro x5_1v706 ex5_1v706
        have tx5_1v706 : Ti x5_1v706 z1664 := by rw [ex5_1v706]; exact t1665
        refine ⟨vp_of tx4_1v685 (by omega) (by omega), ?_⟩
        obtain ⟨z1667, t1668⟩ := t_any (w.2.1 45 x4_1v685.toNatClampNeg)
        refine ⟨fun c1669 => ?_, fun c1669 => ?_⟩
        · replace c1669 := c_eq t1668 tx5_1v706 c1669
          unfold pX1_setUp_125
          intro w_1v709 ew_1v709
          have hIw_1v709 := ixs_A hI ew_1v709 (by decide)
          intro w_2v710 ew_2v710
          have hIw_2v710 := ixs_A hIw_1v709 ew_2v710 (by decide)
          intro w_3v711 ew_3v711
          have hIw_3v711 := ixs_A hIw_2v710 ew_3v711 (by decide)
          obtain ⟨z1670, t1671, f1672⟩ := t_mul tx4_1v685 lit_104
          first | replace f1672 := f1672 (by omega) | clear f1672
          exact hp _ _ _  t1671 hIw_3v711 (by omega)
        · replace c1669 := c_neq t1668 tx5_1v706 c1669
          refine sX7_isUsed   (hI := hI) (tx1 := tx1) (tx2 := lit_4)  (hp := fun r_3v707 zr_3v707 tr_3v707 p1673 => ?_)
          refine ⟨fun c1674 => ?_, fun c1674 => ?_⟩
          · replace c1674 := c_eq tr_3v707 lit_0 c1674
            unfold pX1_setUp_113
            obtain ⟨z1675, t1676, f1677⟩ := t_mul tx4_1v685 lit_104
            first | replace f1677 := f1677 (by omega) | clear f1677
            refine sX1_forget   (hI := hI) (tx1 := t1676) (tx2 := lit_8)  (hp := fun  w_1v712   hIw_1v712  => ?_)
            refine ⟨vp_of tx4_1v685 (by omega) (by omega), ?_⟩
            intro w_2v713 ew_2v713
            have hIw_2v713 := ixs_A hIw_1v712 ew_2v713 (by decide)
            unfold pX1_setUp_125
            intro w_1v714 ew_1v714
            have hIw_1v714 := ixs_A hIw_2v713 ew_1v714 (by decide)
            intro w_2v715 ew_2v715
            have hIw_2v715 := ixs_A hIw_1v714 ew_2v715 (by decide)
            intro w_3v716 ew_3v716
            have hIw_3v716 := ixs_A hIw_2v715 ew_3v716 (by decide)
            exact hp _ _ _  t1676 hIw_3v716 (by omega)
          · replace c1674 := c_neq tr_3v707 lit_0 c1674
            unfold pX1_setUp_113
            obtain ⟨z1678, t1679, f1680⟩ := t_mul tx4_1v685 lit_104
            first | replace f1680 := f1680 (by omega) | clear f1680
            refine sX1_forget   (hI := hI) (tx1 := t1679) (tx2 := lit_104)  (hp := fun  w_1v717   hIw_1v717  => ?_)
            refine ⟨vp_of tx4_1v685 (by omega) (by omega), ?_⟩
            intro w_2v718 ew_2v718
            have hIw_2v718 := ixs_A hIw_1v717 ew_2v718 (by decide)
            unfold pX1_setUp_125
            intro w_1v719 ew_1v719
            have hIw_1v719 := ixs_A hIw_2v718 ew_1v719 (by decide)
            intro w_2v720 ew_2v720
            have hIw_2v720 := ixs_A hIw_1v719 ew_2v720 (by decide)
            intro w_3v721 ew_3v721
            have hIw_3v721 := ixs_A hIw_2v720 ew_3v721 (by decide)
            exact hp _ _ _  t1679 hIw_3v721 (by omega)
    · replace c1644 := c_neq tr_2v686 lit_0 c1644
      unfold pX1_setUp_51
      refine sX7_isUsed   (hI := hI) (tx1 := tx1) (tx2 := lit_7)  (hp := fun r_1v722 zr_1v722 tr_1v722 p1681 => ?_)
      refine ⟨fun c1682 => ?_, fun c1682 => ?_⟩
      · replace c1682 := c_eq tr_1v722 lit_0 c1682
        unfold pX1_setUp_73
        obtain ⟨z1683, t1684⟩ := t_any (w.1 160 12)
        obtain ⟨z1685, t1686, f1687⟩ := t_mul t1684 lit_100
        first | replace f1687 := f1687 (by omega) | clear f1687
        obtain ⟨z1688, t1689, f1690⟩ := t_add t1686 lit_0
        first | replace f1690 := f1690 (by omega) | clear f1690
        intro x5_1v724 ex5_1v724
        have tx5_1v724 : Ti x5_1v724 z1688 := by rw [ex5_1v724]; exact t1689
        refine ⟨vp_of tx4_1v685 (by omega) (by omega), ?_⟩
        obtain ⟨z1691, t1692⟩ := t_any (w.2.1 45 x4_1v685.toNatClampNeg)
        refine ⟨fun c1693 => ?_, fun c1693 => ?_⟩
        · replace c1693 := c_eq t1692 tx5_1v724 c1693
          unfold pX1_setUp_125
          intro w_1v727 ew_1v727
          have hIw_1v727 := ixs_A hI ew_1v727 (by decide)
          intro w_2v728 ew_2v728
          have hIw_2v728 := ixs_A hIw_1v727 ew_2v728 (by decide)
          intro w_3v729 ew_3v729
          have hIw_3v729 := ixs_A hIw_2v728 ew_3v729 (by decide)
          obtain ⟨z1694, t1695, f1696⟩ := t_mul tx4_1v685 lit_104
          first | replace f1696 := f1696 (by omega) | clear f1696
          exact hp _ _ _  t1695 hIw_3v729 (by omega)
        · replace c1693 := c_neq t1692 tx5_1v724 c1693
          refine sX7_isUsed   (hI := hI) (tx1 := tx1) (tx2 := lit_4)  (hp := fun r_3v725 zr_3v725 tr_3v725 p1697 => ?_)
          refine ⟨fun c1698 => ?_, fun c1698 => ?_⟩
          · replace c1698 := c_eq tr_3v725 lit_0 c1698
            unfold pX1_setUp_113
            obtain ⟨z1699, t1700, f1701⟩ := t_mul tx4_1v685 lit_104
            first | replace f1701 := f1701 (by omega) | clear f1701
            refine sX1_forget   (hI := hI) (tx1 := t1700) (tx2 := lit_8)  (hp := fun  w_1v730   hIw_1v730  => ?_)
            refine ⟨vp_of tx4_1v685 (by omega) (by omega), ?_⟩
            intro w_2v731 ew_2v731
            have hIw_2v731 := ixs_A hIw_1v730 ew_2v731 (by decide)
            unfold pX1_setUp_125
            intro w_1v732 ew_1v732
            have hIw_1v732 := ixs_A hIw_2v731 ew_1v732 (by decide)
            intro w_2v733 ew_2v733
            have hIw_2v733 := ixs_A hIw_1v732 ew_2v733 (by decide)
            intro w_3v734 ew_3v734
            have hIw_3v734 := ixs_A hIw_2v733 ew_3v734 (by decide)
            exact hp _ _ _  t1700 hIw_3v734 (by omega)
          · replace c1698 := c_neq tr_3v725 lit_0 c1698
            unfold pX1_setUp_113
            obtain ⟨z1702, t1703, f1704⟩ := t_mul tx4_1v685 lit_104
            first | replace f1704 := f1704 (by omega) | clear f1704
            refine sX1_forget   (hI := hI) (tx1 := t1703) (tx2 := lit_104)  (hp := fun  w_1v735   hIw_1v735  => ?_)
            refine ⟨vp_of tx4_1v685 (by omega) (by omega), ?_⟩
            intro w_2v736 ew_2v736
            have hIw_2v736 := ixs_A hIw_1v735 ew_2v736 (by decide)
            unfold pX1_setUp_125
            intro w_1v737 ew_1v737
            have hIw_1v737 := ixs_A hIw_2v736 ew_1v737 (by decide)
            intro w_2v738 ew_2v738
            have hIw_2v738 := ixs_A hIw_1v737 ew_2v738 (by decide)
            intro w_3v739 ew_3v739
            have hIw_3v739 := ixs_A hIw_2v738 ew_3v739 (by decide)
            exact hp _ _ _  t1703 hIw_3v739 (by omega)
      · replace c1682 := c_neq tr_1v722 lit_0 c1682
        unfold pX1_setUp_73
        obtain ⟨z1705, t1706⟩ := t_any (w.1 160 12)
        obtain ⟨z1707, t1708, f1709⟩ := t_mul t1706 lit_100
        first | replace f1709 := f1709 (by omega) | clear f1709
        obtain ⟨z1710, t1711, f1712⟩ := t_add t1708 tx3
        first | replace f1712 := f1712 (by omega) | clear f1712
        intro x5_1v740 ex5_1v740
        have tx5_1v740 : Ti x5_1v740 z1710 := by rw [ex5_1v740]; exact t1711
        refine ⟨vp_of tx4_1v685 (by omega) (by omega), ?_⟩
        obtain ⟨z1713, t1714⟩ := t_any (w.2.1 45 x4_1v685.toNatClampNeg)
        refine ⟨fun c1715 => ?_, fun c1715 => ?_⟩
        · replace c1715 := c_eq t1714 tx5_1v740 c1715
          unfold pX1_setUp_125
          intro w_1v743 ew_1v743
          have hIw_1v743 := ixs_A hI ew_1v743 (by decide)
          intro w_2v744 ew_2v744
          have hIw_2v744 := ixs_A hIw_1v743 ew_2v744 (by decide)
          intro w_3v745 ew_3v745
          have hIw_3v745 := ixs_A hIw_2v744 ew_3v745 (by decide)
          obtain ⟨z1716, t1717, f1718⟩ := t_mul tx4_1v685 lit_104
          first | replace f1718 := f1718 (by omega) | clear f1718
          exact hp _ _ _  t1717 hIw_3v745 (by omega)
        · replace c1715 := c_neq t1714 tx5_1v740 c1715
          refine sX7_isUsed   (hI := hI) (tx1 := tx1) (tx2 := lit_4)  (hp := fun r_3v741 zr_3v741 tr_3v741 p1719 => ?_)
          refine ⟨fun c1720 => ?_, fun c1720 => ?_⟩
          · replace c1720 := c_eq tr_3v741 lit_0 c1720
            unfold pX1_setUp_113
            obtain ⟨z1721, t1722, f1723⟩ := t_mul tx4_1v685 lit_104
            first | replace f1723 := f1723 (by omega) | clear f1723
            refine sX1_forget   (hI := hI) (tx1 := t1722) (tx2 := lit_8)  (hp := fun  w_1v746   hIw_1v746  => ?_)
            refine ⟨vp_of tx4_1v685 (by omega) (by omega), ?_⟩
            intro w_2v747 ew_2v747
            have hIw_2v747 := ixs_A hIw_1v746 ew_2v747 (by decide)
            unfold pX1_setUp_125
            intro w_1v748 ew_1v748
            have hIw_1v748 := ixs_A hIw_2v747 ew_1v748 (by decide)
            intro w_2v749 ew_2v749
            have hIw_2v749 := ixs_A hIw_1v748 ew_2v749 (by decide)
            intro w_3v750 ew_3v750
            have hIw_3v750 := ixs_A hIw_2v749 ew_3v750 (by decide)
            exact hp _ _ _  t1722 hIw_3v750 (by omega)
          · replace c1720 := c_neq tr_3v741 lit_0 c1720
            unfold pX1_setUp_113
            obtain ⟨z1724, t1725, f1726⟩ := t_mul tx4_1v685 lit_104
            first | replace f1726 := f1726 (by omega) | clear f1726
            refine sX1_forget   (hI := hI) (tx1 := t1725) (tx2 := lit_104)  (hp := fun  w_1v751   hIw_1v751  => ?_)
            refine ⟨vp_of tx4_1v685 (by omega) (by omega), ?_⟩
            intro w_2v752 ew_2v752
            have hIw_2v752 := ixs_A hIw_1v751 ew_2v752 (by decide)
            unfold pX1_setUp_125
            intro w_1v753 ew_1v753
            have hIw_1v753 := ixs_A hIw_2v752 ew_1v753 (by decide)
            intro w_2v754 ew_2v754
            have hIw_2v754 := ixs_A hIw_1v753 ew_2v754 (by decide)
            intro w_3v755 ew_3v755
            have hIw_3v755 := ixs_A hIw_2v754 ew_3v755 (by decide)
            exact hp _ _ _  t1725 hIw_3v755 (by omega)
  · replace c1636 := c_neq tr_1v683 lit_0 c1636
    unfold pX1_setUp_22
    obtain ⟨z1727, t1728, f1729⟩ := t_mul tx1 lit_10
    first | replace f1729 := f1729 (by omega) | clear f1729
    obtain ⟨z1730, t1731, f1732⟩ := t_add t1728 tx2
    first | replace f1732 := f1732 (by omega) | clear f1732
    intro x4_1v756 ex4_1v756
    have tx4_1v756 : Ti x4_1v756 z1730 := by rw [ex4_1v756]; exact t1731
    refine sX7_isUsed   (hI := hI) (tx1 := tx1) (tx2 := lit_5)  (hp := fun r_2v757 zr_2v757 tr_2v757 p1733 => ?_)
    refine ⟨fun c1734 => ?_, fun c1734 => ?_⟩
    · replace c1734 := c_eq tr_2v757 lit_0 c1734
      unfold pX1_setUp_51
      refine sX7_isUsed   (hI := hI) (tx1 := tx1) (tx2 := lit_7)  (hp := fun r_1v759 zr_1v759 tr_1v759 p1735 => ?_)
      refine ⟨fun c1736 => ?_, fun c1736 => ?_⟩
      · replace c1736 := c_eq tr_1v759 lit_0 c1736
        unfold pX1_setUp_73
        obtain ⟨z1737, t1738, f1739⟩ := t_add lit_0 lit_0
        first | replace f1739 := f1739 (by omega) | clear f1739
        intro x5_1v761 ex5_1v761
        have tx5_1v761 : Ti x5_1v761 z1737 := by rw [ex5_1v761]; exact t1738
        refine ⟨vp_of tx4_1v756 (by omega) (by omega), ?_⟩
        obtain ⟨z1740, t1741⟩ := t_any (w.2.1 45 x4_1v756.toNatClampNeg)
        refine ⟨fun c1742 => ?_, fun c1742 => ?_⟩
        · replace c1742 := c_eq t1741 tx5_1v761 c1742
          unfold pX1_setUp_125
          intro w_1v764 ew_1v764
          have hIw_1v764 := ixs_A hI ew_1v764 (by decide)
          intro w_2v765 ew_2v765
          have hIw_2v765 := ixs_A hIw_1v764 ew_2v765 (by decide)
          intro w_3v766 ew_3v766
          have hIw_3v766 := ixs_A hIw_2v765 ew_3v766 (by decide)
          obtain ⟨z1743, t1744, f1745⟩ := t_mul tx4_1v756 lit_104
          first | replace f1745 := f1745 (by omega) | clear f1745
          exact hp _ _ _  t1744 hIw_3v766 (by omega)
        · replace c1742 := c_neq t1741 tx5_1v761 c1742
          refine sX7_isUsed   (hI := hI) (tx1 := tx1) (tx2 := lit_4)  (hp := fun r_3v762 zr_3v762 tr_3v762 p1746 => ?_)
          refine ⟨fun c1747 => ?_, fun c1747 => ?_⟩
          · replace c1747 := c_eq tr_3v762 lit_0 c1747
            unfold pX1_setUp_113
            obtain ⟨z1748, t1749, f1750⟩ := t_mul tx4_1v756 lit_104
            first | replace f1750 := f1750 (by omega) | clear f1750
            refine sX1_forget   (hI := hI) (tx1 := t1749) (tx2 := lit_8)  (hp := fun  w_1v767   hIw_1v767  => ?_)
            refine ⟨vp_of tx4_1v756 (by omega) (by omega), ?_⟩
            intro w_2v768 ew_2v768
            have hIw_2v768 := ixs_A hIw_1v767 ew_2v768 (by decide)
            unfold pX1_setUp_125
            intro w_1v769 ew_1v769
            have hIw_1v769 := ixs_A hIw_2v768 ew_1v769 (by decide)
            intro w_2v770 ew_2v770
            have hIw_2v770 := ixs_A hIw_1v769 ew_2v770 (by decide)
            intro w_3v771 ew_3v771
            have hIw_3v771 := ixs_A hIw_2v770 ew_3v771 (by decide)
            exact hp _ _ _  t1749 hIw_3v771 (by omega)
          · replace c1747 := c_neq tr_3v762 lit_0 c1747
            unfold pX1_setUp_113
            obtain ⟨z1751, t1752, f1753⟩ := t_mul tx4_1v756 lit_104
            first | replace f1753 := f1753 (by omega) | clear f1753
            refine sX1_forget   (hI := hI) (tx1 := t1752) (tx2 := lit_104)  (hp := fun  w_1v772   hIw_1v772  => ?_)
            refine ⟨vp_of tx4_1v756 (by omega) (by omega), ?_⟩
            intro w_2v773 ew_2v773
            have hIw_2v773 := ixs_A hIw_1v772 ew_2v773 (by decide)
            unfold pX1_setUp_125
            intro w_1v774 ew_1v774
            have hIw_1v774 := ixs_A hIw_2v773 ew_1v774 (by decide)
            intro w_2v775 ew_2v775
            have hIw_2v775 := ixs_A hIw_1v774 ew_2v775 (by decide)
            intro w_3v776 ew_3v776
            have hIw_3v776 := ixs_A hIw_2v775 ew_3v776 (by decide)
            exact hp _ _ _  t1752 hIw_3v776 (by omega)
      · replace c1736 := c_neq tr_1v759 lit_0 c1736
        unfold pX1_setUp_73
        obtain ⟨z1754, t1755, f1756⟩ := t_add lit_0 tx3
        first | replace f1756 := f1756 (by omega) | clear f1756
        intro x5_1v777 ex5_1v777
        have tx5_1v777 : Ti x5_1v777 z1754 := by rw [ex5_1v777]; exact t1755
        refine ⟨vp_of tx4_1v756 (by omega) (by omega), ?_⟩
        obtain ⟨z1757, t1758⟩ := t_any (w.2.1 45 x4_1v756.toNatClampNeg)
        refine ⟨fun c1759 => ?_, fun c1759 => ?_⟩
        · replace c1759 := c_eq t1758 tx5_1v777 c1759
          unfold pX1_setUp_125
          intro w_1v780 ew_1v780
          have hIw_1v780 := ixs_A hI ew_1v780 (by decide)
          intro w_2v781 ew_2v781
          have hIw_2v781 := ixs_A hIw_1v780 ew_2v781 (by decide)
          intro w_3v782 ew_3v782
          have hIw_3v782 := ixs_A hIw_2v781 ew_3v782 (by decide)
          obtain ⟨z1760, t1761, f1762⟩ := t_mul tx4_1v756 lit_104
          first | replace f1762 := f1762 (by omega) | clear f1762
          exact hp _ _ _  t1761 hIw_3v782 (by omega)
        · replace c1759 := c_neq t1758 tx5_1v777 c1759
          refine sX7_isUsed   (hI := hI) (tx1 := tx1) (tx2 := lit_4)  (hp := fun r_3v778 zr_3v778 tr_3v778 p1763 => ?_)
          refine ⟨fun c1764 => ?_, fun c1764 => ?_⟩
          · replace c1764 := c_eq tr_3v778 lit_0 c1764
            unfold pX1_setUp_113
            obtain ⟨z1765, t1766, f1767⟩ := t_mul tx4_1v756 lit_104
            first | replace f1767 := f1767 (by omega) | clear f1767
            refine sX1_forget   (hI := hI) (tx1 := t1766) (tx2 := lit_8)  (hp := fun  w_1v783   hIw_1v783  => ?_)
            refine ⟨vp_of tx4_1v756 (by omega) (by omega), ?_⟩
            intro w_2v784 ew_2v784
            have hIw_2v784 := ixs_A hIw_1v783 ew_2v784 (by decide)
            unfold pX1_setUp_125
            intro w_1v785 ew_1v785
            have hIw_1v785 := ixs_A hIw_2v784 ew_1v785 (by decide)
            intro w_2v786 ew_2v786
            have hIw_2v786 := ixs_A hIw_1v785 ew_2v786 (by decide)
            intro w_3v787 ew_3v787
            have hIw_3v787 := ixs_A hIw_2v786 ew_3v787 (by decide)
            exact hp _ _ _  t1766 hIw_3v787 (by omega)
          · replace c1764 := c_neq tr_3v778 lit_0 c1764
            unfold pX1_setUp_113
            obtain ⟨z1768, t1769, f1770⟩ := t_mul tx4_1v756 lit_104
            first | replace f1770 := f1770 (by omega) | clear f1770
            refine sX1_forget   (hI := hI) (tx1 := t1769) (tx2 := lit_104)  (hp := fun  w_1v788   hIw_1v788  => ?_)
            refine ⟨vp_of tx4_1v756 (by omega) (by omega), ?_⟩
            intro w_2v789 ew_2v789
            have hIw_2v789 := ixs_A hIw_1v788 ew_2v789 (by decide)
            unfold pX1_setUp_125
            intro w_1v790 ew_1v790
            have hIw_1v790 := ixs_A hIw_2v789 ew_1v790 (by decide)
            intro w_2v791 ew_2v791
            have hIw_2v791 := ixs_A hIw_1v790 ew_2v791 (by decide)
            intro w_3v792 ew_3v792
            have hIw_3v792 := ixs_A hIw_2v791 ew_3v792 (by decide)
            exact hp _ _ _  t1769 hIw_3v792 (by omega)
    · replace c1734 := c_neq tr_2v757 lit_0 c1734
      unfold pX1_setUp_51
      refine sX7_isUsed   (hI := hI) (tx1 := tx1) (tx2 := lit_7)  (hp := fun r_1v793 zr_1v793 tr_1v793 p1771 => ?_)
      refine ⟨fun c1772 => ?_, fun c1772 => ?_⟩
      · replace c1772 := c_eq tr_1v793 lit_0 c1772
        unfold pX1_setUp_73
        obtain ⟨z1773, t1774⟩ := t_any (w.1 160 12)
        obtain ⟨z1775, t1776, f1777⟩ := t_mul t1774 lit_100
        first | replace f1777 := f1777 (by omega) | clear f1777
        obtain ⟨z1778, t1779, f1780⟩ := t_add t1776 lit_0
        first | replace f1780 := f1780 (by omega) | clear f1780
        intro x5_1v795 ex5_1v795
        have tx5_1v795 : Ti x5_1v795 z1778 := by rw [ex5_1v795]; exact t1779
        refine ⟨vp_of tx4_1v756 (by omega) (by omega), ?_⟩
        obtain ⟨z1781, t1782⟩ := t_any (w.2.1 45 x4_1v756.toNatClampNeg)
        refine ⟨fun c1783 => ?_, fun c1783 => ?_⟩
        · replace c1783 := c_eq t1782 tx5_1v795 c1783
          unfold pX1_setUp_125
          intro w_1v798 ew_1v798
          have hIw_1v798 := ixs_A hI ew_1v798 (by decide)
          intro w_2v799 ew_2v799
          have hIw_2v799 := ixs_A hIw_1v798 ew_2v799 (by decide)
          intro w_3v800 ew_3v800
          have hIw_3v800 := ixs_A hIw_2v799 ew_3v800 (by decide)
          obtain ⟨z1784, t1785, f1786⟩ := t_mul tx4_1v756 lit_104
          first | replace f1786 := f1786 (by omega) | clear f1786
          exact hp _ _ _  t1785 hIw_3v800 (by omega)
        · replace c1783 := c_neq t1782 tx5_1v795 c1783
          refine sX7_isUsed   (hI := hI) (tx1 := tx1) (tx2 := lit_4)  (hp := fun r_3v796 zr_3v796 tr_3v796 p1787 => ?_)
          refine ⟨fun c1788 => ?_, fun c1788 => ?_⟩
          · replace c1788 := c_eq tr_3v796 lit_0 c1788
            unfold pX1_setUp_113
            obtain ⟨z1789, t1790, f1791⟩ := t_mul tx4_1v756 lit_104
            first | replace f1791 := f1791 (by omega) | clear f1791
            refine sX1_forget   (hI := hI) (tx1 := t1790) (tx2 := lit_8)  (hp := fun  w_1v801   hIw_1v801  => ?_)
            refine ⟨vp_of tx4_1v756 (by omega) (by omega), ?_⟩
            intro w_2v802 ew_2v802
            have hIw_2v802 := ixs_A hIw_1v801 ew_2v802 (by decide)
            unfold pX1_setUp_125
            intro w_1v803 ew_1v803
            have hIw_1v803 := ixs_A hIw_2v802 ew_1v803 (by decide)
            intro w_2v804 ew_2v804
            have hIw_2v804 := ixs_A hIw_1v803 ew_2v804 (by decide)
            intro w_3v805 ew_3v805
            have hIw_3v805 := ixs_A hIw_2v804 ew_3v805 (by decide)
            exact hp _ _ _  t1790 hIw_3v805 (by omega)
          · replace c1788 := c_neq tr_3v796 lit_0 c1788
            unfold pX1_setUp_113
            obtain ⟨z1792, t1793, f1794⟩ := t_mul tx4_1v756 lit_104
            first | replace f1794 := f1794 (by omega) | clear f1794
            refine sX1_forget   (hI := hI) (tx1 := t1793) (tx2 := lit_104)  (hp := fun  w_1v806   hIw_1v806  => ?_)
            refine ⟨vp_of tx4_1v756 (by omega) (by omega), ?_⟩
            intro w_2v807 ew_2v807
            have hIw_2v807 := ixs_A hIw_1v806 ew_2v807 (by decide)
            unfold pX1_setUp_125
            intro w_1v808 ew_1v808
            have hIw_1v808 := ixs_A hIw_2v807 ew_1v808 (by decide)
            intro w_2v809 ew_2v809
            have hIw_2v809 := ixs_A hIw_1v808 ew_2v809 (by decide)
            intro w_3v810 ew_3v810
            have hIw_3v810 := ixs_A hIw_2v809 ew_3v810 (by decide)
            exact hp _ _ _  t1793 hIw_3v810 (by omega)
      · replace c1772 := c_neq tr_1v793 lit_0 c1772
        unfold pX1_setUp_73
        obtain ⟨z1795, t1796⟩ := t_any (w.1 160 12)
        obtain ⟨z1797, t1798, f1799⟩ := t_mul t1796 lit_100
        first | replace f1799 := f1799 (by omega) | clear f1799
        obtain ⟨z1800, t1801, f1802⟩ := t_add t1798 tx3
        first | replace f1802 := f1802 (by omega) | clear f1802
        intro x5_1v811 ex5_1v811
        have tx5_1v811 : Ti x5_1v811 z1800 := by rw [ex5_1v811]; exact t1801
        refine ⟨vp_of tx4_1v756 (by omega) (by omega), ?_⟩
        obtain ⟨z1803, t1804⟩ := t_any (w.2.1 45 x4_1v756.toNatClampNeg)
        refine ⟨fun c1805 => ?_, fun c1805 => ?_⟩
        · replace c1805 := c_eq t1804 tx5_1v811 c1805
          unfold pX1_setUp_125
          intro w_1v814 ew_1v814
          have hIw_1v814 := ixs_A hI ew_1v814 (by decide)
          intro w_2v815 ew_2v815
          have hIw_2v815 := ixs_A hIw_1v814 ew_2v815 (by decide)
          intro w_3v816 ew_3v816
          have hIw_3v816 := ixs_A hIw_2v815 ew_3v816 (by decide)
          obtain ⟨z1806, t1807, f1808⟩ := t_mul tx4_1v756 lit_104
          first | replace f1808 := f1808 (by omega) | clear f1808
          exact hp _ _ _  t1807 hIw_3v816 (by omega)
        · replace c1805 := c_neq t1804 tx5_1v811 c1805
          refine sX7_isUsed   (hI := hI) (tx1 := tx1) (tx2 := lit_4)  (hp := fun r_3v812 zr_3v812 tr_3v812 p1809 => ?_)
          refine ⟨fun c1810 => ?_, fun c1810 => ?_⟩
          · replace c1810 := c_eq tr_3v812 lit_0 c1810
            unfold pX1_setUp_113
            obtain ⟨z1811, t1812, f1813⟩ := t_mul tx4_1v756 lit_104
            first | replace f1813 := f1813 (by omega) | clear f1813
            refine sX1_forget   (hI := hI) (tx1 := t1812) (tx2 := lit_8)  (hp := fun  w_1v817   hIw_1v817  => ?_)
            refine ⟨vp_of tx4_1v756 (by omega) (by omega), ?_⟩
            intro w_2v818 ew_2v818
            have hIw_2v818 := ixs_A hIw_1v817 ew_2v818 (by decide)
            unfold pX1_setUp_125
            intro w_1v819 ew_1v819
            have hIw_1v819 := ixs_A hIw_2v818 ew_1v819 (by decide)
            intro w_2v820 ew_2v820
            have hIw_2v820 := ixs_A hIw_1v819 ew_2v820 (by decide)
            intro w_3v821 ew_3v821
            have hIw_3v821 := ixs_A hIw_2v820 ew_3v821 (by decide)
            exact hp _ _ _  t1812 hIw_3v821 (by omega)
          · replace c1810 := c_neq tr_3v812 lit_0 c1810
            unfold pX1_setUp_113
            obtain ⟨z1814, t1815, f1816⟩ := t_mul tx4_1v756 lit_104
            first | replace f1816 := f1816 (by omega) | clear f1816
            refine sX1_forget   (hI := hI) (tx1 := t1815) (tx2 := lit_104)  (hp := fun  w_1v822   hIw_1v822  => ?_)
            refine ⟨vp_of tx4_1v756 (by omega) (by omega), ?_⟩
            intro w_2v823 ew_2v823
            have hIw_2v823 := ixs_A hIw_1v822 ew_2v823 (by decide)
            unfold pX1_setUp_125
            intro w_1v824 ew_1v824
            have hIw_1v824 := ixs_A hIw_2v823 ew_1v824 (by decide)
            intro w_2v825 ew_2v825
            have hIw_2v825 := ixs_A hIw_1v824 ew_2v825 (by decide)
            intro w_3v826 ew_3v826
            have hIw_3v826 := ixs_A hIw_2v825 ew_3v826 (by decide)
            exact hp _ _ _  t1815 hIw_3v826 (by omega)
set_option maxHeartbeats 4000000 in
set_option maxRecDepth 100000 in
theorem sX1_rowAfter_112 {T D : Int} {k : Nat} {post : Int32 → Wd → Prop}   (hp : ∀ (r : Int32) (zr : Int) (w9 : Wd), Ti r zr → IX k T D w9 → post r w9) : ∀ (n : Nat) (x2 : Int32) (x7 : Int32) (x8 : Int32) (x9 : Int32) (x10 : Int32) (x11 : Int32) (zx2 : Int) (zx7 : Int) (zx8 : Int) (zx9 : Int) (zx10 : Int) (zx11 : Int) (w : Wd), Ti x2 zx2 → Ti x7 zx7 → Ti x8 zx8 → Ti x9 zx9 → Ti x10 zx10 → Ti x11 zx11 → IX k T D w → (0 ≤ zx11 ∧ zx11 ≤ 12) → (zx8 ≤ 12) → (0 ≤ zx7 ∧ zx7 ≤ 4152) → (13 - zx11) < (n : Int) → pX1_rowAfter_112   post  n x2 x7 x8 x9 x10 x11 w := by
  intro n
  induction n with
  | zero =>
    intro x2 x7 x8 x9 x10 x11 zx2 zx7 zx8 zx9 zx10 zx11 w tx2 tx7 tx8 tx9 tx10 tx11 hI h0 h1 h2 hm
    exact absurd hm (by omega)
  | succ n ih =>
    intro x2 x7 x8 x9 x10 x11 zx2 zx7 zx8 zx9 zx10 zx11 w tx2 tx7 tx8 tx9 tx10 tx11 hI h0 h1 h2 hm
    unfold pX1_rowAfter_112
    have hk := ix_k hI
    refine ⟨fun c1817 => ?_, fun c1817 => ?_⟩
    · replace c1817 := c_le tx8 tx11 c1817
      exact hp _ _ _  tx10 hI 
    · replace c1817 := c_nle tx8 tx11 c1817
      obtain ⟨z1818, t1819, f1820⟩ := t_and (x := ((x9.toUInt32 >>> (x11.toUInt32 &&& Int32.toUInt32 31)).toInt32)) lit_7 (by decide)
      intro x12_2v827 ex12_2v827
      have tx12_2v827 : Ti x12_2v827 z1818 := by rw [ex12_2v827]; exact t1819
      obtain ⟨z1821, t1822, f1823⟩ := t_shl tx11
      first | replace f1823 := f1823 (by omega) | clear f1823
      intro x13_3v828 ex13_3v828
      have tx13_3v828 : Ti x13_3v828 z1821 := by rw [ex13_3v828]; exact t1822
      obtain ⟨z1824, t1825, f1826⟩ := t_add tx7 tx12_2v827
      first | replace f1826 := f1826 (by omega) | clear f1826
      refine ⟨vp_of t1825 (by omega) (by omega), ?_⟩
      obtain ⟨z1827, t1828⟩ := t_any ((w.2.1 43 (x7 + x12_2v827).toNatClampNeg) &&& x13_3v828)
      refine ⟨fun c1829 => ?_, fun c1829 => ?_⟩
      · replace c1829 := c_neq t1828 lit_0 c1829
        unfold pX1_rowAfter_162
        refine ⟨vp_of t1825 (by omega) (by omega), ?_⟩
        obtain ⟨z1830, t1831⟩ := t_any (x10 ||| ((w.2.1 44 (x7 + x12_2v827).toNatClampNeg) &&& x13_3v828))
        intro x10_1v830 ex10_1v830
        have tx10_1v830 : Ti x10_1v830 z1830 := by rw [ex10_1v830]; exact t1831
        obtain ⟨z1832, t1833, f1834⟩ := t_add tx11 lit_1
        first | replace f1834 := f1834 (by omega) | clear f1834
        intro x11_2v831 ex11_2v831
        have tx11_2v831 : Ti x11_2v831 z1832 := by rw [ex11_2v831]; exact t1833
        exact ih _ _ _ _ _ _ _ _ _ _ _ _ _ tx2 tx7 tx8 tx9 tx10_1v830 tx11_2v831 hI (by omega) (by omega) (by omega) (by omega)
      · replace c1829 := c_eq t1828 lit_0 c1829
        refine sX1_learn   (hI := hI) (tx1 := tx2) (tx2 := tx7) (tx3 := tx12_2v827) (tx4 := tx11)  (hp := fun  w_5v829   hIw_5v829  => ?_)
        unfold pX1_rowAfter_162
        refine ⟨vp_of t1825 (by omega) (by omega), ?_⟩
        obtain ⟨z1835, t1836⟩ := t_any (x10 ||| ((w_5v829.2.1 44 (x7 + x12_2v827).toNatClampNeg) &&& x13_3v828))
        intro x10_1v832 ex10_1v832
        have tx10_1v832 : Ti x10_1v832 z1835 := by rw [ex10_1v832]; exact t1836
        obtain ⟨z1837, t1838, f1839⟩ := t_add tx11 lit_1
        first | replace f1839 := f1839 (by omega) | clear f1839
        intro x11_2v833 ex11_2v833
        have tx11_2v833 : Ti x11_2v833 z1837 := by rw [ex11_2v833]; exact t1838
        exact ih _ _ _ _ _ _ _ _ _ _ _ _ _ tx2 tx7 tx8 tx9 tx10_1v832 tx11_2v833 hIw_5v829 (by omega) (by omega) (by omega) (by omega)
set_option maxHeartbeats 4000000 in
set_option maxRecDepth 100000 in
theorem sX1_rowAfter {T D : Int} {k : Nat} {post : Int32 → Wd → Prop} {x1 : Int32} {zx1 : Int} {x2 : Int32} {zx2 : Int} {x3 : Int32} {zx3 : Int} {x4 : Int32} {zx4 : Int} {w : Wd}  (tx1 : Ti x1 zx1) (tx2 : Ti x2 zx2) (tx3 : Ti x3 zx3) (tx4 : Ti x4 zx4) (hI : IX k T D w)  (hp : ∀ (r : Int32) (zr : Int) (w9 : Wd), Ti r zr → IX k T D w9 → post r w9) : pX1_rowAfter   post  x1 x2 x3 x4 w := by
  unfold pX1_rowAfter
  have hk := ix_k hI
  refine ⟨fun c1840 => ?_, fun c1840 => ?_⟩
  · replace c1840 := c_lt tx2 lit_0 c1840
    exact hp _ _ _  tx1 hI 
  · replace c1840 := c_nlt tx2 lit_0 c1840
    obtain ⟨z1841, t1842⟩ := t_any (w.1 (rl (w.2.2.2.2 3)) 2)
    have f1843 := ixg_r2 hI t1842
    refine ⟨fun c1844 => ?_, fun c1844 => ?_⟩
    · replace c1844 := c_le t1842 tx2 c1844
      exact hp _ _ _  tx1 hI 
    · replace c1844 := c_nle t1842 tx2 c1844
      refine sX10_isHeat   (hI := hI) (tx0 := tx3)  (hp := fun r_3v834 zr_3v834 tr_3v834 p1845 => ?_)
      refine ⟨fun c1846 => ?_, fun c1846 => ?_⟩
      · replace c1846 := c_neq tr_3v834 lit_0 c1846
        obtain ⟨z1847, t1848⟩ := t_any (w.1 (rl (w.2.2.2.2 3)) 0)
        have f1849 := ixg_r0 hI t1848
        refine sX10_turn   (hI := hI) (tx0 := tx1) (tx1 := t1848)  (hp := fun r_6v846 zr_6v846 tr_6v846 => ?_)
        refine sJ6_bitCount_0f7a4   (hI := hI) (tx0 := tr_6v846)  (hp := fun r_8v856 zr_8v856 tr_8v856 p1850 => ?_)
        refine sX1_setUp   (hI := hI) (tx1 := tx2) (tx2 := tx3) (tx3 := tx4) (h0 := (by omega)) (h1 := (by omega)) (hp := fun r_10v864 zr_10v864 w_11v865  tr_10v864 hIw_11v865 p1851 => ?_)
        refine sX7_isUsed   (hI := hIw_11v865) (tx1 := tx2) (tx2 := lit_4)  (hp := fun r_12v866 zr_12v866 tr_12v866 p1852 => ?_)
        refine ⟨fun c1853 => ?_, fun c1853 => ?_⟩
        · replace c1853 := c_eq tr_12v866 lit_0 c1853
          unfold pX1_rowAfter_91
          obtain ⟨z1854, t1855⟩ := t_any (w_11v865.1 (rl (w_11v865.2.2.2.2 3)) 0)
          have f1856 := ixg_r0 hIw_11v865 t1855
          intro x8_1v872 ex8_1v872
          have tx8_1v872 : Ti x8_1v872 z1854 := by rw [ex8_1v872]; exact t1855
          obtain ⟨z1857, t1858⟩ := t_any (r_6v846 <<< ((1 : Int32) &&& 31))
          intro x9_2v873 ex9_2v873
          have tx9_2v873 : Ti x9_2v873 z1857 := by rw [ex9_2v873]; exact t1858
          exact ⟨70000, sX1_rowAfter_112    (hp := hp) 70000 _ _ _ _ _ _ _ _ _ _ _ _ _ tx2 tr_10v864 tx8_1v872 tx9_2v873 lit_0 lit_0 hIw_11v865 (by omega) (by omega) (by omega) (by omega)⟩
        · replace c1853 := c_neq tr_12v866 lit_0 c1853
          refine ⟨fun c1859 => ?_, fun c1859 => ?_⟩
          · replace c1859 := c_lt lit_12 tr_8v856 c1859
            unfold pX1_rowAfter_91
            obtain ⟨z1860, t1861⟩ := t_any (w_11v865.1 (rl (w_11v865.2.2.2.2 3)) 0)
            have f1862 := ixg_r0 hIw_11v865 t1861
            intro x8_1v874 ex8_1v874
            have tx8_1v874 : Ti x8_1v874 z1860 := by rw [ex8_1v874]; exact t1861
            obtain ⟨z1863, t1864⟩ := t_any (r_6v846 <<< ((1 : Int32) &&& 31))
            intro x9_2v875 ex9_2v875
            have tx9_2v875 : Ti x9_2v875 z1863 := by rw [ex9_2v875]; exact t1864
            exact ⟨70000, sX1_rowAfter_112    (hp := hp) 70000 _ _ _ _ _ _ _ _ _ _ _ _ _ tx2 tr_10v864 tx8_1v874 tx9_2v875 lit_0 lit_0 hIw_11v865 (by omega) (by omega) (by omega) (by omega)⟩
          · replace c1859 := c_nlt lit_12 tr_8v856 c1859
            obtain ⟨z1865, t1866, f1867⟩ := t_mul tr_8v856 lit_8
            first | replace f1867 := f1867 (by omega) | clear f1867
            obtain ⟨z1868, t1869, f1870⟩ := t_add tr_10v864 t1866
            first | replace f1870 := f1870 (by omega) | clear f1870
            intro x7_16v870 ex7_16v870
            have tx7_16v870 : Ti x7_16v870 z1868 := by rw [ex7_16v870]; exact t1869
            intro w_17v871 ew_17v871
            have hIw_17v871 := ixs_A hIw_11v865 ew_17v871 (by decide)
            unfold pX1_rowAfter_91
            obtain ⟨z1871, t1872⟩ := t_any (w_17v871.1 (rl (w_17v871.2.2.2.2 3)) 0)
            have f1873 := ixg_r0 hIw_17v871 t1872
            intro x8_1v876 ex8_1v876
            have tx8_1v876 : Ti x8_1v876 z1871 := by rw [ex8_1v876]; exact t1872
            obtain ⟨z1874, t1875⟩ := t_any (r_6v846 <<< ((1 : Int32) &&& 31))
            intro x9_2v877 ex9_2v877
            have tx9_2v877 : Ti x9_2v877 z1874 := by rw [ex9_2v877]; exact t1875
            exact ⟨70000, sX1_rowAfter_112    (hp := hp) 70000 _ _ _ _ _ _ _ _ _ _ _ _ _ tx2 tx7_16v870 tx8_1v876 tx9_2v877 lit_0 lit_0 hIw_17v871 (by omega) (by omega) (by omega) (by omega)⟩
      · replace c1846 := c_eq tr_3v834 lit_0 c1846
        exact hp _ _ _  tx1 hI 
set_option maxHeartbeats 4000000 in
set_option maxRecDepth 100000 in
theorem sX10_would {T D : Int} {k : Nat} {post : Int32 → Wd → Prop} {x1 : Int32} {zx1 : Int} {x2 : Int32} {zx2 : Int} {x3 : Int32} {zx3 : Int} {x4 : Int32} {zx4 : Int} {w : Wd}  (tx1 : Ti x1 zx1) (tx2 : Ti x2 zx2) (tx3 : Ti x3 zx3) (tx4 : Ti x4 zx4) (hI : IX k T D w)  (hp : ∀ (r : Int32) (zr : Int) (w9 : Wd), Ti r zr → IX k T D w9 → post r w9) : pX10_would   post  x1 x2 x3 x4 w := by
  unfold pX10_would
  have hk := ix_k hI
  refine sX10_isRow   (hI := hI) (tx1 := tx1)  (hp := fun r_1v878 zr_1v878 tr_1v878 p1876 => ?_)
  refine ⟨fun c1877 => ?_, fun c1877 => ?_⟩
  · replace c1877 := c_eq tr_1v878 lit_0 c1877
    exact hp _ _ _  lit_m1 hI 
  · replace c1877 := c_neq tr_1v878 lit_0 c1877
    refine sX10_isHand   (hI := hI) (tx1 := tx2)  (hp := fun r_4v886 zr_4v886 tr_4v886 p1878 => ?_)
    refine ⟨fun c1879 => ?_, fun c1879 => ?_⟩
    · replace c1879 := c_eq tr_4v886 lit_0 c1879
      exact hp _ _ _  lit_m1 hI 
    · replace c1879 := c_neq tr_4v886 lit_0 c1879
      refine sX10_isHeat   (hI := hI) (tx0 := tx3)  (hp := fun r_7v892 zr_7v892 tr_7v892 p1880 => ?_)
      refine ⟨fun c1881 => ?_, fun c1881 => ?_⟩
      · replace c1881 := c_eq tr_7v892 lit_0 c1881
        exact hp _ _ _  lit_m1 hI 
      · replace c1881 := c_neq tr_7v892 lit_0 c1881
        refine ⟨fun c1882 => ?_, fun c1882 => ?_⟩
        · replace c1882 := c_lt tx4 lit_0 c1882
          exact hp _ _ _  lit_m1 hI 
        · replace c1882 := c_nlt tx4 lit_0 c1882
          refine ⟨fun c1883 => ?_, fun c1883 => ?_⟩
          · replace c1883 := c_lt tx4 lit_100 c1883
            refine sX1_rowAfter   (hI := hI) (tx1 := tx1) (tx2 := tx2) (tx3 := tx3) (tx4 := tx4)  (hp := fun r_12v896 zr_12v896 w_13v897  tr_12v896 hIw_13v897  => ?_)
            exact hp _ _ _  tr_12v896 hIw_13v897 
          · replace c1883 := c_nlt tx4 lit_100 c1883
            exact hp _ _ _  lit_m1 hI 
set_option maxHeartbeats 4000000 in
set_option maxRecDepth 100000 in
theorem sX0_dropOldest {T D : Int} {k : Nat} {post : Wd → Prop}  {w : Wd}   (hI : IX k T D w)  (hp : ∀ (w9 : Wd), IX k T 39 w9 → post w9) : pX0_dropOldest   post   w := by
  unfold pX0_dropOldest
  have hk := ix_k hI
  intro w_1v898 ew_1v898
  have hIw_1v898 := ixs_C hI ew_1v898 (by decide)
  intro w_2v899 ew_2v899
  have hIw_2v899 := ixs_C hIw_1v898 ew_2v899 (by decide)
  intro w_3v900 ew_3v900
  have hIw_3v900 := ixs_C hIw_2v899 ew_3v900 (by decide)
  intro w_4v901 ew_4v901
  have hIw_4v901 := ixs_C hIw_3v900 ew_4v901 (by decide)
  intro w_5v902 ew_5v902
  have hIw_5v902 := ixs_C hIw_4v901 ew_5v902 (by decide)
  intro w_6v903 ew_6v903
  have hIw_6v903 := ixs_50_7 hIw_5v902 ew_6v903 lit_39 (by omega) (by omega)
  exact hp  _   hIw_6v903 
set_option maxHeartbeats 4000000 in
set_option maxRecDepth 100000 in
theorem sX2_addSeal {T D : Int} {k : Nat} {post : Wd → Prop} {x1 : Int32} {zx1 : Int} {x2 : Int32} {zx2 : Int} {x3 : Int32} {zx3 : Int} {w : Wd}  (tx1 : Ti x1 zx1) (tx2 : Ti x2 zx2) (tx3 : Ti x3 zx3) (hI : IX k T D w)  (hp : ∀ (w9 : Wd), IX k T D w9 → post w9) : pX2_addSeal   post  x1 x2 x3 w := by
  unfold pX2_addSeal
  have hk := ix_k hI
  obtain ⟨z1884, t1885⟩ := t_any (w.1 160 0)
  have f1886 := ixg_c0 hI t1885
  refine ⟨fun c1887 => ?_, fun c1887 => ?_⟩
  · replace c1887 := c_lt t1885 lit_0 c1887
    exact hp  _   hI 
  · replace c1887 := c_nlt t1885 lit_0 c1887
    refine ⟨fun c1888 => ?_, fun c1888 => ?_⟩
    · replace c1888 := c_le lit_24 t1885 c1888
      exact hp  _   hI 
    · replace c1888 := c_nle lit_24 t1885 c1888
      refine ⟨fun c1889 => ?_, fun c1889 => ?_⟩
      · replace c1889 := c_lt tx2 lit_0 c1889
        exact hp  _   hI 
      · replace c1889 := c_nlt tx2 lit_0 c1889
        refine ⟨fun c1890 => ?_, fun c1890 => ?_⟩
        · replace c1890 := c_lt tx2 t1885 c1890
          refine ⟨vp_of t1885 (by omega) (by omega), ?_⟩
          intro w_5v904 ew_5v904
          have hIw_5v904 := ixs_A hI ew_5v904 (by decide)
          have t1891 : Ti (w_5v904.1 160 0) z1884 := by rw [e1_A ew_5v904]; exact t1885
          refine ⟨vp_of t1891 (by omega) (by omega), ?_⟩
          intro w_6v905 ew_6v905
          have hIw_6v905 := ixs_A hIw_5v904 ew_6v905 (by decide)
          have t1892 : Ti (w_6v905.1 160 0) z1884 := by rw [e1_A ew_6v905]; exact t1891
          refine ⟨vp_of t1892 (by omega) (by omega), ?_⟩
          intro w_7v906 ew_7v906
          have hIw_7v906 := ixs_A hIw_6v905 ew_7v906 (by decide)
          have t1893 : Ti (w_7v906.1 160 0) z1884 := by rw [e1_A ew_7v906]; exact t1892
          refine ⟨vp_of t1893 (by omega) (by omega), ?_⟩
          intro w_8v907 ew_8v907
          have hIw_8v907 := ixs_A hIw_7v906 ew_8v907 (by decide)
          refine ⟨vp_of tx2 (by omega) (by omega), ?_⟩
          have t1894 : Ti (w_8v907.1 160 0) z1884 := by rw [e1_A ew_8v907]; exact t1893
          refine ⟨vp_of t1894 (by omega) (by omega), ?_⟩
          intro w_9v908 ew_9v908
          have hIw_9v908 := ixs_A hIw_8v907 ew_9v908 (by decide)
          intro w_10v909 ew_10v909
          have t1895 : Ti (w_9v908.1 160 0) z1884 := by rw [e1_A ew_9v908]; exact t1894
          obtain ⟨z1896, t1897, f1898⟩ := t_add t1895 lit_1
          first | replace f1898 := f1898 (by omega) | clear f1898
          have hIw_10v909 := ixs_c0 (c := 0) hIw_9v908 ew_10v909 t1897 (by omega) (by omega)
          exact hp  _   hIw_10v909 
        · replace c1890 := c_nlt tx2 t1885 c1890
          exact hp  _   hI 
set_option maxHeartbeats 4000000 in
set_option maxRecDepth 100000 in
theorem sX0_makeCast {T D : Int} {k : Nat} {post : Wd → Prop} {x1 : Int32} {zx1 : Int} {x2 : Int32} {zx2 : Int} {x3 : Int32} {zx3 : Int} {w : Wd}  (tx1 : Ti x1 zx1) (tx2 : Ti x2 zx2) (tx3 : Ti x3 zx3) (hI : IX k T D w)  (hp : ∀ (w9 : Wd), IX k T D w9 → post w9) : pX0_makeCast   post  x1 x2 x3 w := by
  unfold pX0_makeCast
  have hk := ix_k hI
  refine ⟨fun c1899 => ?_, fun c1899 => ?_⟩
  · replace c1899 := c_lt tx1 lit_0 c1899
    exact hp  _   hI 
  · replace c1899 := c_nlt tx1 lit_0 c1899
    obtain ⟨z1900, t1901⟩ := t_any (w.1 160 0)
    have f1902 := ixg_c0 hI t1901
    refine ⟨fun c1903 => ?_, fun c1903 => ?_⟩
    · replace c1903 := c_lt tx1 t1901 c1903
      intro w_3v910 ew_3v910
      have hIw_3v910 := ixs_n hI ew_3v910 (by unfold nX; omega)
      refine ⟨vp_of tx1 (by omega) (by omega), ?_⟩
      obtain ⟨z1904, t1905⟩ := t_any (w.2.1 162 x1.toNatClampNeg)
      have t1906 : Ti (w_3v910.2.1 162 x1.toNatClampNeg) z1904 := by rw [e2_I ew_3v910]; exact t1905
      obtain ⟨z1908, t1909⟩ := t_any (w.1 160 13)
      obtain ⟨z1910, t1911, f1912⟩ := t_mul t1909 lit_137
      first | replace f1912 := f1912 (by omega) | clear f1912
      obtain ⟨z1913, t1914, f1915⟩ := t_add t1911 lit_71
      first | replace f1915 := f1915 (by omega) | clear f1915
      obtain ⟨z1916, t1917, f1918⟩ := t_rem t1914 lit_1000
      first | replace f1918 := f1918 (by omega) | clear f1918
      have t1907 : Ti (w_3v910.1 160 13) z1916 := by rw [ew_3v910, sI_at]; exact t1917
      obtain ⟨z1919, t1920, f1921⟩ := t_rem t1907 lit_100
      first | replace f1921 := f1921 (by omega) | clear f1921
      refine sX1_rowAfter   (hI := hIw_3v910) (tx1 := t1906) (tx2 := tx2) (tx3 := tx3) (tx4 := t1920)  (hp := fun r_4v911 zr_4v911 w_5v912  tr_4v911 hIw_5v912  => ?_)
      refine sX2_addSeal   (hI := hIw_5v912) (tx1 := tr_4v911) (tx2 := tx1) (tx3 := tx2)  (hp := fun  w_6v913   hIw_6v913  => ?_)
      intro w_7v914 ew_7v914
      have hIw_7v914 := ixs_n hIw_6v913 ew_7v914 (by unfold nX; omega)
      exact hp  _   hIw_7v914 
    · replace c1903 := c_nlt tx1 t1901 c1903
      exact hp  _   hI 
set_option maxHeartbeats 4000000 in
set_option maxRecDepth 100000 in
theorem sX2_addPrint {T D : Int} {k : Nat} {post : Wd → Prop} {x1 : Int32} {zx1 : Int} {w : Wd}  (tx1 : Ti x1 zx1) (hI : IX k T D w)  (hp : ∀ (w9 : Wd), IX k T D w9 → post w9) : pX2_addPrint   post  x1 w := by
  unfold pX2_addPrint
  have hk := ix_k hI
  obtain ⟨z1922, t1923⟩ := t_any (w.1 160 6)
  have f1924 := ixg_c6 hI t1923
  refine ⟨fun c1925 => ?_, fun c1925 => ?_⟩
  · replace c1925 := c_lt t1923 lit_0 c1925
    exact hp  _   hI 
  · replace c1925 := c_nlt t1923 lit_0 c1925
    refine ⟨fun c1926 => ?_, fun c1926 => ?_⟩
    · replace c1926 := c_le lit_40 t1923 c1926
      exact hp  _   hI 
    · replace c1926 := c_nle lit_40 t1923 c1926
      refine ⟨fun c1927 => ?_, fun c1927 => ?_⟩
      · replace c1927 := c_lt tx1 lit_0 c1927
        exact hp  _   hI 
      · replace c1927 := c_nlt tx1 lit_0 c1927
        obtain ⟨z1928, t1929⟩ := t_any (w.1 160 0)
        have f1930 := ixg_c0 hI t1929
        refine ⟨fun c1931 => ?_, fun c1931 => ?_⟩
        · replace c1931 := c_lt tx1 t1929 c1931
          refine ⟨vp_of tx1 (by omega) (by omega), ?_⟩
          obtain ⟨z1932, t1933⟩ := t_any (w.2.1 162 x1.toNatClampNeg)
          obtain ⟨z1934, t1935⟩ := t_any (w.1 160 10)
          refine sX10_turn   (hI := hI) (tx0 := t1933) (tx1 := t1935)  (hp := fun r_5v915 zr_5v915 tr_5v915 => ?_)
          refine ⟨vp_of t1923 (by omega) (by omega), ?_⟩
          intro w_7v921 ew_7v921
          have hIw_7v921 := ixs_A hI ew_7v921 (by decide)
          have t1936 : Ti (w_7v921.1 160 6) z1922 := by rw [e1_A ew_7v921]; exact t1923
          refine ⟨vp_of t1936 (by omega) (by omega), ?_⟩
          intro w_8v922 ew_8v922
          have hIw_8v922 := ixs_A hIw_7v921 ew_8v922 (by decide)
          have t1937 : Ti (w_8v922.1 160 6) z1922 := by rw [e1_A ew_8v922]; exact t1936
          refine ⟨vp_of t1937 (by omega) (by omega), ?_⟩
          intro w_9v923 ew_9v923
          have hIw_9v923 := ixs_A hIw_8v922 ew_9v923 (by decide)
          intro w_10v924 ew_10v924
          have t1938 : Ti (w_9v923.1 160 6) z1922 := by rw [e1_A ew_9v923]; exact t1937
          obtain ⟨z1939, t1940, f1941⟩ := t_add t1938 lit_1
          first | replace f1941 := f1941 (by omega) | clear f1941
          have hIw_10v924 := ixs_c6 (c := 0) hIw_9v923 ew_10v924 t1940 (by omega) (by omega)
          exact hp  _   hIw_10v924 
        · replace c1931 := c_nlt tx1 t1929 c1931
          exact hp  _   hI 
set_option maxHeartbeats 4000000 in
set_option maxRecDepth 100000 in
theorem sX2_flip {T D : Int} {k : Nat} {post : Wd → Prop} {x1 : Int32} {zx1 : Int} {x2 : Int32} {zx2 : Int} {w : Wd}  (tx1 : Ti x1 zx1) (tx2 : Ti x2 zx2) (hI : IX k T D w)  (hp : ∀ (w9 : Wd), IX k T D w9 → post w9) : pX2_flip   post  x1 x2 w := by
  unfold pX2_flip
  have hk := ix_k hI
  refine ⟨fun c1942 => ?_, fun c1942 => ?_⟩
  · replace c1942 := c_lt tx1 lit_0 c1942
    exact hp  _   hI 
  · replace c1942 := c_nlt tx1 lit_0 c1942
    obtain ⟨z1943, t1944⟩ := t_any (w.1 160 0)
    have f1945 := ixg_c0 hI t1944
    refine ⟨fun c1946 => ?_, fun c1946 => ?_⟩
    · replace c1946 := c_le t1944 tx1 c1946
      exact hp  _   hI 
    · replace c1946 := c_nle t1944 tx1 c1946
      refine ⟨vp_of tx1 (by omega) (by omega), ?_⟩
      refine ⟨vp_of tx1 (by omega) (by omega), ?_⟩
      intro w_3v925 ew_3v925
      have hIw_3v925 := ixs_A hI ew_3v925 (by decide)
      exact hp  _   hIw_3v925 
set_option maxHeartbeats 4000000 in
set_option maxRecDepth 100000 in
theorem sX0_perform {T D : Int} {k : Nat} {post : Wd → Prop} {x1 : Int32} {zx1 : Int} {w : Wd}  (tx1 : Ti x1 zx1) (hI : IX k T D w) (h0 : 0 ≤ zx1 ∧ zx1 ≤ 39) (hp : ∀ (w9 : Wd), IX k T D w9 → post w9) : pX0_perform   post  x1 w := by
  unfold pX0_perform
  have hk := ix_k hI
  refine ⟨vp_of tx1 (by omega) (by omega), ?_⟩
  obtain ⟨z1947, t1948⟩ := t_any (w.2.1 53 x1.toNatClampNeg)
  refine ⟨fun c1949 => ?_, fun c1949 => ?_, fun c1949 => ?_, fun c1949 => ?_⟩
  · rw [show (w.2.1 53 x1.toNatClampNeg).toInt = z1947 from t1948] at c1949
    intro w_2v926 ew_2v926
    have hIw_2v926 := ixs_n hI ew_2v926 (by unfold nX; omega)
    exact hp  _   hIw_2v926 
  · rw [show (w.2.1 53 x1.toNatClampNeg).toInt = z1947 from t1948] at c1949
    refine ⟨vp_of tx1 (by omega) (by omega), ?_⟩
    refine ⟨vp_of tx1 (by omega) (by omega), ?_⟩
    refine ⟨vp_of tx1 (by omega) (by omega), ?_⟩
    obtain ⟨z1950, t1951⟩ := t_any (w.2.1 54 x1.toNatClampNeg)
    obtain ⟨z1952, t1953⟩ := t_any (w.2.1 55 x1.toNatClampNeg)
    obtain ⟨z1954, t1955⟩ := t_any (w.2.1 56 x1.toNatClampNeg)
    refine sX0_makeCast   (hI := hI) (tx1 := t1951) (tx2 := t1953) (tx3 := t1955)  (hp := fun  w_3v927   hIw_3v927  => ?_)
    exact hp  _   hIw_3v927 
  · rw [show (w.2.1 53 x1.toNatClampNeg).toInt = z1947 from t1948] at c1949
    refine ⟨vp_of tx1 (by omega) (by omega), ?_⟩
    obtain ⟨z1956, t1957⟩ := t_any (w.2.1 54 x1.toNatClampNeg)
    refine sX2_addPrint   (hI := hI) (tx1 := t1957)  (hp := fun  w_4v928   hIw_4v928  => ?_)
    intro w_5v929 ew_5v929
    have hIw_5v929 := ixs_n hIw_4v928 ew_5v929 (by unfold nX; omega)
    exact hp  _   hIw_5v929 
  · rw [show (w.2.1 53 x1.toNatClampNeg).toInt = z1947 from t1948] at c1949
    refine ⟨vp_of tx1 (by omega) (by omega), ?_⟩
    refine ⟨vp_of tx1 (by omega) (by omega), ?_⟩
    obtain ⟨z1958, t1959⟩ := t_any (w.2.1 54 x1.toNatClampNeg)
    obtain ⟨z1960, t1961⟩ := t_any (w.2.1 55 x1.toNatClampNeg)
    refine sX2_flip   (hI := hI) (tx1 := t1959) (tx2 := t1961)  (hp := fun  w_6v930   hIw_6v930  => ?_)
    exact hp  _   hIw_6v930 
set_option maxHeartbeats 4000000 in
set_option maxRecDepth 100000 in
theorem sX0_add {T D : Int} {k : Nat} {post : Wd → Prop} {x1 : Int32} {zx1 : Int} {x2 : Int32} {zx2 : Int} {x3 : Int32} {zx3 : Int} {x4 : Int32} {zx4 : Int} {w : Wd}  (tx1 : Ti x1 zx1) (tx2 : Ti x2 zx2) (tx3 : Ti x3 zx3) (tx4 : Ti x4 zx4) (hI : IX k T D w)  (hp : ∀ (w9 : Wd) (D9 : Int), IX k T D9 w9 → post w9) : pX0_add   post  x1 x2 x3 x4 w := by
  unfold pX0_add
  have hk := ix_k hI
  obtain ⟨z1962, t1963⟩ := t_any (w.1 50 7)
  have f1964 := ixg_50_7 hI t1963
  refine ⟨fun c1965 => ?_, fun c1965 => ?_⟩
  · replace c1965 := c_lt t1963 lit_40 c1965
    unfold pX0_add_13
    refine ⟨fun c1966 => ?_, fun c1966 => ?_⟩
    · replace c1966 := c_lt t1963 lit_0 c1966
      exact hp  _ _  hI 
    · replace c1966 := c_nlt t1963 lit_0 c1966
      refine ⟨fun c1967 => ?_, fun c1967 => ?_⟩
      · replace c1967 := c_lt t1963 lit_40 c1967
        refine ⟨vp_of t1963 (by omega) (by omega), ?_⟩
        intro w_3v932 ew_3v932
        have hIw_3v932 := ixs_A hI ew_3v932 (by decide)
        have t1968 : Ti (w_3v932.1 50 7) z1962 := by rw [e1_A ew_3v932]; exact t1963
        refine ⟨vp_of t1968 (by omega) (by omega), ?_⟩
        intro w_4v933 ew_4v933
        have hIw_4v933 := ixs_A hIw_3v932 ew_4v933 (by decide)
        have t1969 : Ti (w_4v933.1 50 7) z1962 := by rw [e1_A ew_4v933]; exact t1968
        refine ⟨vp_of t1969 (by omega) (by omega), ?_⟩
        intro w_5v934 ew_5v934
        have hIw_5v934 := ixs_A hIw_4v933 ew_5v934 (by decide)
        have t1970 : Ti (w_5v934.1 50 7) z1962 := by rw [e1_A ew_5v934]; exact t1969
        refine ⟨vp_of t1970 (by omega) (by omega), ?_⟩
        intro w_6v935 ew_6v935
        have hIw_6v935 := ixs_A hIw_5v934 ew_6v935 (by decide)
        have t1971 : Ti (w_6v935.1 50 7) z1962 := by rw [e1_A ew_6v935]; exact t1970
        refine ⟨vp_of t1971 (by omega) (by omega), ?_⟩
        intro w_7v936 ew_7v936
        have hIw_7v936 := ixs_A hIw_6v935 ew_7v936 (by decide)
        have t1972 : Ti (w_7v936.1 50 7) z1962 := by rw [e1_A ew_7v936]; exact t1971
        refine sX0_perform   (hI := hIw_7v936) (tx1 := t1972) (h0 := (by omega)) (hp := fun  w_8v937   hIw_8v937  => ?_)
        intro w_9v938 ew_9v938
        obtain ⟨z1973, t1974⟩ := t_any (w_8v937.1 50 7)
        have f1975 := ixg_50_7 hIw_8v937 t1974
        obtain ⟨z1976, t1977, f1978⟩ := t_add t1974 lit_1
        first | replace f1978 := f1978 (by omega) | clear f1978
        have hIw_9v938 := ixs_50_7 hIw_8v937 ew_9v938 t1977 (by omega) (by omega)
        intro w_10v939 ew_10v939
        have hIw_10v939 := ixs_n hIw_9v938 ew_10v939 (by unfold nX; omega)
        exact hp  _ _  hIw_10v939 
      · replace c1967 := c_nlt t1963 lit_40 c1967
        exact hp  _ _  hI 
  · replace c1965 := c_nlt t1963 lit_40 c1965
    refine sX0_dropOldest   (hI := hI)   (hp := fun  w_2v931   hIw_2v931  => ?_)
    unfold pX0_add_13
    obtain ⟨z1979, t1980⟩ := t_any (w_2v931.1 50 7)
    have f1981 := ixg_50_7 hIw_2v931 t1980
    refine ⟨fun c1982 => ?_, fun c1982 => ?_⟩
    · replace c1982 := c_lt t1980 lit_0 c1982
      exact hp  _ _  hIw_2v931 
    · replace c1982 := c_nlt t1980 lit_0 c1982
      refine ⟨fun c1983 => ?_, fun c1983 => ?_⟩
      · replace c1983 := c_lt t1980 lit_40 c1983
        refine ⟨vp_of t1980 (by omega) (by omega), ?_⟩
        intro w_3v940 ew_3v940
        have hIw_3v940 := ixs_A hIw_2v931 ew_3v940 (by decide)
        have t1984 : Ti (w_3v940.1 50 7) z1979 := by rw [e1_A ew_3v940]; exact t1980
        refine ⟨vp_of t1984 (by omega) (by omega), ?_⟩
        intro w_4v941 ew_4v941
        have hIw_4v941 := ixs_A hIw_3v940 ew_4v941 (by decide)
        have t1985 : Ti (w_4v941.1 50 7) z1979 := by rw [e1_A ew_4v941]; exact t1984
        refine ⟨vp_of t1985 (by omega) (by omega), ?_⟩
        intro w_5v942 ew_5v942
        have hIw_5v942 := ixs_A hIw_4v941 ew_5v942 (by decide)
        have t1986 : Ti (w_5v942.1 50 7) z1979 := by rw [e1_A ew_5v942]; exact t1985
        refine ⟨vp_of t1986 (by omega) (by omega), ?_⟩
        intro w_6v943 ew_6v943
        have hIw_6v943 := ixs_A hIw_5v942 ew_6v943 (by decide)
        have t1987 : Ti (w_6v943.1 50 7) z1979 := by rw [e1_A ew_6v943]; exact t1986
        refine ⟨vp_of t1987 (by omega) (by omega), ?_⟩
        intro w_7v944 ew_7v944
        have hIw_7v944 := ixs_A hIw_6v943 ew_7v944 (by decide)
        have t1988 : Ti (w_7v944.1 50 7) z1979 := by rw [e1_A ew_7v944]; exact t1987
        refine sX0_perform   (hI := hIw_7v944) (tx1 := t1988) (h0 := (by omega)) (hp := fun  w_8v945   hIw_8v945  => ?_)
        intro w_9v946 ew_9v946
        obtain ⟨z1989, t1990⟩ := t_any (w_8v945.1 50 7)
        have f1991 := ixg_50_7 hIw_8v945 t1990
        obtain ⟨z1992, t1993, f1994⟩ := t_add t1990 lit_1
        first | replace f1994 := f1994 (by omega) | clear f1994
        have hIw_9v946 := ixs_50_7 hIw_8v945 ew_9v946 t1993 (by omega) (by omega)
        intro w_10v947 ew_10v947
        have hIw_10v947 := ixs_n hIw_9v946 ew_10v947 (by unfold nX; omega)
        exact hp  _ _  hIw_10v947 
      · replace c1983 := c_nlt t1980 lit_40 c1983
        exact hp  _ _  hIw_2v931 
