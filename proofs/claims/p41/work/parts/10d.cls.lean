set_option maxHeartbeats 4000000 in
set_option maxRecDepth 100000 in
theorem sX8_splitSign {T D : Int} {k : Nat} {post : Int32 → Wd → Prop} {x1 : Int32} {zx1 : Int} {x2 : Int32} {zx2 : Int} {x3 : Int32} {zx3 : Int} {w : Wd}  (tx1 : Ti x1 zx1) (tx2 : Ti x2 zx2) (tx3 : Ti x3 zx3) (hI : IX k T D w)  (hp : ∀ (r : Int32) (zr : Int) (w9 : Wd), Ti r zr → IX k T D w9 → post r w9) : pX8_splitSign   post  x1 x2 x3 w := by
  unfold pX8_splitSign
  have hk := ix_k hI
  refine ⟨fun c928 => ?_, fun c928 => ?_⟩
  · replace c928 := c_le tx1 lit_32 c928
    unfold pX8_splitSign_17
    unfold pX8_splitSign_18
    refine ⟨fun c929 => ?_, fun c929 => ?_⟩
    · replace c929 := c_eq tx1 lit_59 c929
      unfold pX8_splitSign_43
      refine sX8_add   (hI := hI) (tx1 := tx1) (tx2 := tx2)  (hp := fun  w_1v430   hIw_1v430  => ?_)
      obtain ⟨z930, t931, f932⟩ := t_add tx2 lit_1
      first | replace f932 := f932 (by omega) | clear f932
      exact hp _ _ _  t931 hIw_1v430 
    · replace c929 := c_neq tx1 lit_59 c929
      refine ⟨fun c933 => ?_, fun c933 => ?_⟩
      · replace c933 := c_eq tx1 lit_40 c933
        unfold pX8_splitSign_43
        refine sX8_add   (hI := hI) (tx1 := tx1) (tx2 := tx2)  (hp := fun  w_1v431   hIw_1v431  => ?_)
        obtain ⟨z934, t935, f936⟩ := t_add tx2 lit_1
        first | replace f936 := f936 (by omega) | clear f936
        exact hp _ _ _  t935 hIw_1v431 
      · replace c933 := c_neq tx1 lit_40 c933
        refine ⟨fun c937 => ?_, fun c937 => ?_⟩
        · replace c937 := c_eq tx1 lit_41 c937
          unfold pX8_splitSign_43
          refine sX8_add   (hI := hI) (tx1 := tx1) (tx2 := tx2)  (hp := fun  w_1v432   hIw_1v432  => ?_)
          obtain ⟨z938, t939, f940⟩ := t_add tx2 lit_1
          first | replace f940 := f940 (by omega) | clear f940
          exact hp _ _ _  t939 hIw_1v432 
        · replace c937 := c_neq tx1 lit_41 c937
          refine ⟨fun c941 => ?_, fun c941 => ?_⟩
          · replace c941 := c_eq lit_0 lit_0 c941
            refine sX8_add   (hI := hI) (tx1 := lit_23) (tx2 := tx2)  (hp := fun  w_5v429   hIw_5v429  => ?_)
            exact hp _ _ _  tx3 hIw_5v429 
          · replace c941 := c_neq lit_0 lit_0 c941
            unfold pX8_splitSign_43
            refine sX8_add   (hI := hI) (tx1 := tx1) (tx2 := tx2)  (hp := fun  w_1v433   hIw_1v433  => ?_)
            obtain ⟨z942, t943, f944⟩ := t_add tx2 lit_1
            first | replace f944 := f944 (by omega) | clear f944
            exact hp _ _ _  t943 hIw_1v433 
  · replace c928 := c_nle tx1 lit_32 c928
    refine sX8_rankOf   (hI := hI) (tx0 := tx1)  (hp := fun r_2v427 zr_2v427 tr_2v427 => ?_)
    refine ⟨fun c945 => ?_, fun c945 => ?_⟩
    · replace c945 := c_lt tr_2v427 lit_0 c945
      unfold pX8_splitSign_17
      unfold pX8_splitSign_18
      refine ⟨fun c946 => ?_, fun c946 => ?_⟩
      · replace c946 := c_eq tx1 lit_59 c946
        unfold pX8_splitSign_43
        refine sX8_add   (hI := hI) (tx1 := tx1) (tx2 := tx2)  (hp := fun  w_1v435   hIw_1v435  => ?_)
        obtain ⟨z947, t948, f949⟩ := t_add tx2 lit_1
        first | replace f949 := f949 (by omega) | clear f949
        exact hp _ _ _  t948 hIw_1v435 
      · replace c946 := c_neq tx1 lit_59 c946
        refine ⟨fun c950 => ?_, fun c950 => ?_⟩
        · replace c950 := c_eq tx1 lit_40 c950
          unfold pX8_splitSign_43
          refine sX8_add   (hI := hI) (tx1 := tx1) (tx2 := tx2)  (hp := fun  w_1v436   hIw_1v436  => ?_)
          obtain ⟨z951, t952, f953⟩ := t_add tx2 lit_1
          first | replace f953 := f953 (by omega) | clear f953
          exact hp _ _ _  t952 hIw_1v436 
        · replace c950 := c_neq tx1 lit_40 c950
          refine ⟨fun c954 => ?_, fun c954 => ?_⟩
          · replace c954 := c_eq tx1 lit_41 c954
            unfold pX8_splitSign_43
            refine sX8_add   (hI := hI) (tx1 := tx1) (tx2 := tx2)  (hp := fun  w_1v437   hIw_1v437  => ?_)
            obtain ⟨z955, t956, f957⟩ := t_add tx2 lit_1
            first | replace f957 := f957 (by omega) | clear f957
            exact hp _ _ _  t956 hIw_1v437 
          · replace c954 := c_neq tx1 lit_41 c954
            refine ⟨fun c958 => ?_, fun c958 => ?_⟩
            · replace c958 := c_eq lit_0 lit_0 c958
              refine sX8_add   (hI := hI) (tx1 := lit_23) (tx2 := tx2)  (hp := fun  w_5v434   hIw_5v434  => ?_)
              exact hp _ _ _  tx3 hIw_5v434 
            · replace c958 := c_neq lit_0 lit_0 c958
              unfold pX8_splitSign_43
              refine sX8_add   (hI := hI) (tx1 := tx1) (tx2 := tx2)  (hp := fun  w_1v438   hIw_1v438  => ?_)
              obtain ⟨z959, t960, f961⟩ := t_add tx2 lit_1
              first | replace f961 := f961 (by omega) | clear f961
              exact hp _ _ _  t960 hIw_1v438 
    · replace c945 := c_nlt tr_2v427 lit_0 c945
      unfold pX8_splitSign_18
      refine ⟨fun c962 => ?_, fun c962 => ?_⟩
      · replace c962 := c_eq tx1 lit_59 c962
        unfold pX8_splitSign_43
        refine sX8_add   (hI := hI) (tx1 := tx1) (tx2 := tx2)  (hp := fun  w_1v440   hIw_1v440  => ?_)
        obtain ⟨z963, t964, f965⟩ := t_add tx2 lit_1
        first | replace f965 := f965 (by omega) | clear f965
        exact hp _ _ _  t964 hIw_1v440 
      · replace c962 := c_neq tx1 lit_59 c962
        refine ⟨fun c966 => ?_, fun c966 => ?_⟩
        · replace c966 := c_eq tx1 lit_40 c966
          unfold pX8_splitSign_43
          refine sX8_add   (hI := hI) (tx1 := tx1) (tx2 := tx2)  (hp := fun  w_1v441   hIw_1v441  => ?_)
          obtain ⟨z967, t968, f969⟩ := t_add tx2 lit_1
          first | replace f969 := f969 (by omega) | clear f969
          exact hp _ _ _  t968 hIw_1v441 
        · replace c966 := c_neq tx1 lit_40 c966
          refine ⟨fun c970 => ?_, fun c970 => ?_⟩
          · replace c970 := c_eq tx1 lit_41 c970
            unfold pX8_splitSign_43
            refine sX8_add   (hI := hI) (tx1 := tx1) (tx2 := tx2)  (hp := fun  w_1v442   hIw_1v442  => ?_)
            obtain ⟨z971, t972, f973⟩ := t_add tx2 lit_1
            first | replace f973 := f973 (by omega) | clear f973
            exact hp _ _ _  t972 hIw_1v442 
          · replace c970 := c_neq tx1 lit_41 c970
            refine ⟨fun c974 => ?_, fun c974 => ?_⟩
            · replace c974 := c_eq lit_1 lit_0 c974
              refine sX8_add   (hI := hI) (tx1 := lit_23) (tx2 := tx2)  (hp := fun  w_5v439   hIw_5v439  => ?_)
              exact hp _ _ _  tx3 hIw_5v439 
            · replace c974 := c_neq lit_1 lit_0 c974
              unfold pX8_splitSign_43
              refine sX8_add   (hI := hI) (tx1 := tx1) (tx2 := tx2)  (hp := fun  w_1v443   hIw_1v443  => ?_)
              obtain ⟨z975, t976, f977⟩ := t_add tx2 lit_1
              first | replace f977 := f977 (by omega) | clear f977
              exact hp _ _ _  t976 hIw_1v443 
set_option maxHeartbeats 4000000 in
set_option maxRecDepth 100000 in
theorem sX8_kindOf_2 {T D : Int} {k : Nat} {post : Int32 → Wd → Prop} {w : Wd}  (hp : ∀ (r : Int32) (zr : Int), Ti r zr → post r w) : ∀ (n : Nat) (x1 : Int64) (x3 : Int32) (zx3 : Int), Ti x3 zx3 → IX k T D w → (0 ≤ zx3 ∧ zx3 ≤ 17) → (18 - zx3) < (n : Int) → pX8_kindOf_2   post  n x1 x3 w := by
  intro n
  induction n with
  | zero =>
    intro x1 x3 zx3  tx3 hI h0 hm
    exact absurd hm (by omega)
  | succ n ih =>
    intro x1 x3 zx3  tx3 hI h0 hm
    unfold pX8_kindOf_2
    have hk := ix_k hI
    refine ⟨fun c978 => ?_, fun c978 => ?_⟩
    · replace c978 := c_le lit_17 tx3 c978
      exact hp _ _ lit_20 
    · replace c978 := c_nle lit_17 tx3 c978
      refine ⟨vp_of tx3 (by omega) (by omega), ?_⟩
      refine ⟨fun c979 => ?_, fun c979 => ?_⟩
      · obtain ⟨z980, t981, f982⟩ := t_add tx3 lit_1
        first | replace f982 := f982 (by omega) | clear f982
        intro x3_3v444 ex3_3v444
        have tx3_3v444 : Ti x3_3v444 z980 := by rw [ex3_3v444]; exact t981
        exact ih _ _ _  tx3_3v444 hI (by omega) (by omega)
      · exact hp _ _ tx3 
set_option maxHeartbeats 4000000 in
set_option maxRecDepth 100000 in
theorem sX8_kindOf {T D : Int} {k : Nat} {post : Int32 → Wd → Prop} {x1 : Int64} {w : Wd}   (hI : IX k T D w)  (hp : ∀ (r : Int32) (zr : Int), Ti r zr → post r w) : pX8_kindOf   post  x1 w := by
  unfold pX8_kindOf
  have hk := ix_k hI
  exact ⟨70000, sX8_kindOf_2    (hp := hp) 70000 _ _ _  lit_0 hI (by omega) (by omega)⟩
set_option maxHeartbeats 4000000 in
set_option maxRecDepth 100000 in
theorem sX8_withLetter {T D : Int} {k : Nat} {post : Int64 → Wd → Prop} {x0 : Int64} {x2 : Int32} {zx2 : Int} {w : Wd}  (tx2 : Ti x2 zx2) (hI : IX k T D w)  (hp : ∀ (r : Int64), post r w) : pX8_withLetter   post  x0 x2 w := by
  unfold pX8_withLetter
  have hk := ix_k hI
  exact hp _  
set_option maxHeartbeats 4000000 in
set_option maxRecDepth 100000 in
theorem sX8_splitWord_6 {T D : Int} {k : Nat} {post : Int32 → Wd → Prop}   (hp : ∀ (r : Int32) (zr : Int) (w9 : Wd), Ti r zr → IX k T D w9 → post r w9) : ∀ (n : Nat) (x2 : Int32) (x3 : Int32) (x4 : Int64) (x6 : Int32) (zx2 : Int) (zx3 : Int) (zx6 : Int) (w : Wd), Ti x2 zx2 → Ti x3 zx3 → Ti x6 zx6 → IX k T D w → (0 ≤ zx6) → (zx6 ≤ 1000000) → (zx3 ≤ 1600) → (2000000 - zx6) < (n : Int) → pX8_splitWord_6   post  n x2 x3 x4 x6 w := by
  intro n
  induction n with
  | zero =>
    intro x2 x3 x4 x6 zx2 zx3 zx6 w tx2 tx3 tx6 hI h0 h1 h2 hm
    exact absurd hm (by omega)
  | succ n ih =>
    intro x2 x3 x4 x6 zx2 zx3 zx6 w tx2 tx3 tx6 hI h0 h1 h2 hm
    unfold pX8_splitWord_6
    have hk := ix_k hI
    refine ⟨fun c983 => ?_, fun c983 => ?_⟩
    · replace c983 := c_le tx3 tx6 c983
      unfold pX8_splitWord_39
      obtain ⟨z984, t985, f986⟩ := t_sub tx6 tx2
      first | replace f986 := f986 (by omega) | clear f986
      refine ⟨fun c987 => ?_, fun c987 => ?_⟩
      · replace c987 := c_le t985 lit_8 c987
        refine sX8_kindOf   (hI := hI)   (hp := fun r_2v450 zr_2v450 tr_2v450 => ?_)
        refine sX8_add   (hI := hI) (tx1 := tr_2v450) (tx2 := tx2)  (hp := fun  w_4v454   hIw_4v454  => ?_)
        exact hp _ _ _  tx6 hIw_4v454 
      · replace c987 := c_nle t985 lit_8 c987
        refine sX8_add   (hI := hI) (tx1 := lit_23) (tx2 := tx2)  (hp := fun  w_5v453   hIw_5v453  => ?_)
        exact hp _ _ _  tx3 hIw_5v453 
    · replace c983 := c_nle tx3 tx6 c983
      refine ⟨vp_of tx6 (by omega) (by omega), ?_⟩
      obtain ⟨z988, t989⟩ := t_any (w.2.1 1 x6.toNatClampNeg)
      refine sX8_isLetter   (hI := hI) (tx0 := t989)  (hp := fun r_2v445 zr_2v445 tr_2v445 => ?_)
      refine ⟨fun c990 => ?_, fun c990 => ?_⟩
      · replace c990 := c_eq tr_2v445 lit_0 c990
        unfold pX8_splitWord_39
        obtain ⟨z991, t992, f993⟩ := t_sub tx6 tx2
        first | replace f993 := f993 (by omega) | clear f993
        refine ⟨fun c994 => ?_, fun c994 => ?_⟩
        · replace c994 := c_le t992 lit_8 c994
          refine sX8_kindOf   (hI := hI)   (hp := fun r_2v458 zr_2v458 tr_2v458 => ?_)
          refine sX8_add   (hI := hI) (tx1 := tr_2v458) (tx2 := tx2)  (hp := fun  w_4v462   hIw_4v462  => ?_)
          exact hp _ _ _  tx6 hIw_4v462 
        · replace c994 := c_nle t992 lit_8 c994
          refine sX8_add   (hI := hI) (tx1 := lit_23) (tx2 := tx2)  (hp := fun  w_5v461   hIw_5v461  => ?_)
          exact hp _ _ _  tx3 hIw_5v461 
      · replace c990 := c_neq tr_2v445 lit_0 c990
        refine ⟨vp_of tx6 (by omega) (by omega), ?_⟩
        refine sX8_withLetter   (hI := hI) (tx2 := t989)  (hp := fun r_5v455 => ?_)
        obtain ⟨z995, t996, f997⟩ := t_add tx6 lit_1
        first | replace f997 := f997 (by omega) | clear f997
        intro x6_7v463 ex6_7v463
        have tx6_7v463 : Ti x6_7v463 z995 := by rw [ex6_7v463]; exact t996
        exact ih _ _ _ _ _ _ _ _ tx2 tx3 tx6_7v463 hI (by omega) (by omega) (by omega) (by omega)
set_option maxHeartbeats 4000000 in
set_option maxRecDepth 100000 in
theorem sX8_splitWord {T D : Int} {k : Nat} {post : Int32 → Wd → Prop} {x2 : Int32} {zx2 : Int} {x3 : Int32} {zx3 : Int} {w : Wd}  (tx2 : Ti x2 zx2) (tx3 : Ti x3 zx3) (hI : IX k T D w) (h0 : 0 ≤ zx2) (h1 : zx2 ≤ 1600) (h2 : zx3 ≤ 1600) (hp : ∀ (r : Int32) (zr : Int) (w9 : Wd), Ti r zr → IX k T D w9 → post r w9) : pX8_splitWord   post  x2 x3 w := by
  unfold pX8_splitWord
  have hk := ix_k hI
  exact ⟨3000000, sX8_splitWord_6    (hp := hp) 3000000 _ _ _ _ _ _ _ _ tx2 tx3 tx2 hI (by omega) (by omega) (by omega) (by omega)⟩
set_option maxHeartbeats 4000000 in
set_option maxRecDepth 100000 in
theorem sX8_split_18 {T D : Int} {k : Nat} {post : Wd → Prop}   (hp : ∀ (w9 : Wd), IX k T D w9 → post w9) : ∀ (n : Nat) (x2 : Int32) (x3 : Int32) (x4 : Int32) (x5 : Int32) (zx2 : Int) (zx3 : Int) (zx4 : Int) (zx5 : Int) (w : Wd), Ti x2 zx2 → Ti x3 zx3 → Ti x4 zx4 → Ti x5 zx5 → IX k T D w → (0 ≤ zx5 ∧ zx5 ≤ 1600) → (zx3 ≤ 1600) → (1601 - zx5) < (n : Int) → pX8_split_18   post  n x2 x3 x4 x5 w := by
  intro n
  induction n with
  | zero =>
    intro x2 x3 x4 x5 zx2 zx3 zx4 zx5 w tx2 tx3 tx4 tx5 hI h0 h1 hm
    exact absurd hm (by omega)
  | succ n ih =>
    intro x2 x3 x4 x5 zx2 zx3 zx4 zx5 w tx2 tx3 tx4 tx5 hI h0 h1 hm
    unfold pX8_split_18
    have hk := ix_k hI
    refine ⟨fun c998 => ?_, fun c998 => ?_⟩
    · replace c998 := c_le lit_1600 tx5 c998
      refine sX8_add   (hI := hI) (tx1 := lit_22) (tx2 := tx2)  (hp := fun  w_2v464   hIw_2v464  => ?_)
      exact hp  _   hIw_2v464 
    · replace c998 := c_nle lit_1600 tx5 c998
      refine ⟨fun c999 => ?_, fun c999 => ?_⟩
      · replace c999 := c_lt tx4 lit_0 c999
        refine sX8_add   (hI := hI) (tx1 := lit_22) (tx2 := tx2)  (hp := fun  w_4v465   hIw_4v465  => ?_)
        exact hp  _   hIw_4v465 
      · replace c999 := c_nlt tx4 lit_0 c999
        refine ⟨fun c1000 => ?_, fun c1000 => ?_⟩
        · replace c1000 := c_le tx3 tx4 c1000
          refine sX8_add   (hI := hI) (tx1 := lit_22) (tx2 := tx2)  (hp := fun  w_6v466   hIw_6v466  => ?_)
          exact hp  _   hIw_6v466 
        · replace c1000 := c_nle tx3 tx4 c1000
          refine ⟨vp_of tx4 (by omega) (by omega), ?_⟩
          obtain ⟨z1001, t1002⟩ := t_any (w.2.1 1 x4.toNatClampNeg)
          intro x6_7v467 ex6_7v467
          have tx6_7v467 : Ti x6_7v467 z1001 := by rw [ex6_7v467]; exact t1002
          refine ⟨fun c1003 => ?_, fun c1003 => ?_⟩
          · replace c1003 := c_eq tx6_7v467 lit_32 c1003
            unfold pX8_split_57
            obtain ⟨z1004, t1005, f1006⟩ := t_add tx4 lit_1
            first | replace f1006 := f1006 (by omega) | clear f1006
            intro x4_1v478 ex4_1v478
            have tx4_1v478 : Ti x4_1v478 z1004 := by rw [ex4_1v478]; exact t1005
            unfold pX8_split_116
            obtain ⟨z1007, t1008, f1009⟩ := t_add tx5 lit_1
            first | replace f1009 := f1009 (by omega) | clear f1009
            intro x5_1v479 ex5_1v479
            have tx5_1v479 : Ti x5_1v479 z1007 := by rw [ex5_1v479]; exact t1008
            exact ih _ _ _ _ _ _ _ _ _ tx2 tx3 tx4_1v478 tx5_1v479 hI (by omega) (by omega) (by omega)
          · replace c1003 := c_neq tx6_7v467 lit_32 c1003
            refine ⟨fun c1010 => ?_, fun c1010 => ?_⟩
            · replace c1010 := c_neq tx6_7v467 lit_10 c1010
              refine sX8_isLetter   (hI := hI) (tx0 := tx6_7v467)  (hp := fun r_10v468 zr_10v468 tr_10v468 => ?_)
              refine ⟨fun c1011 => ?_, fun c1011 => ?_⟩
              · replace c1011 := c_eq tr_10v468 lit_0 c1011
                refine sX8_isDigit   (hI := hI) (tx0 := tx6_7v467)  (hp := fun r_13v480 zr_13v480 tr_13v480 => ?_)
                refine ⟨fun c1012 => ?_, fun c1012 => ?_⟩
                · replace c1012 := c_eq tr_13v480 lit_0 c1012
                  refine sX8_splitSign   (hI := hI) (tx1 := tx6_7v467) (tx2 := tx4) (tx3 := tx3)  (hp := fun r_16v488 zr_16v488 w_17v489  tr_16v488 hIw_17v489  => ?_)
                  unfold pX8_split_116
                  obtain ⟨z1013, t1014, f1015⟩ := t_add tx5 lit_1
                  first | replace f1015 := f1015 (by omega) | clear f1015
                  intro x5_1v492 ex5_1v492
                  have tx5_1v492 : Ti x5_1v492 z1013 := by rw [ex5_1v492]; exact t1014
                  exact ih _ _ _ _ _ _ _ _ _ tx2 tx3 tr_16v488 tx5_1v492 hIw_17v489 (by omega) (by omega) (by omega)
                · replace c1012 := c_neq tr_13v480 lit_0 c1012
                  refine sX8_splitNumber   (hI := hI) (tx2 := tx4) (tx3 := tx3) (h0 := (by omega)) (h1 := (by omega)) (h2 := (by omega)) (hp := fun r_18v490 zr_18v490 w_19v491  tr_18v490 hIw_19v491  => ?_)
                  unfold pX8_split_116
                  obtain ⟨z1016, t1017, f1018⟩ := t_add tx5 lit_1
                  first | replace f1018 := f1018 (by omega) | clear f1018
                  intro x5_1v493 ex5_1v493
                  have tx5_1v493 : Ti x5_1v493 z1016 := by rw [ex5_1v493]; exact t1017
                  exact ih _ _ _ _ _ _ _ _ _ tx2 tx3 tr_18v490 tx5_1v493 hIw_19v491 (by omega) (by omega) (by omega)
              · replace c1011 := c_neq tr_10v468 lit_0 c1011
                refine sX8_splitWord   (hI := hI) (tx2 := tx4) (tx3 := tx3) (h0 := (by omega)) (h1 := (by omega)) (h2 := (by omega)) (hp := fun r_20v486 zr_20v486 w_21v487  tr_20v486 hIw_21v487  => ?_)
                unfold pX8_split_116
                obtain ⟨z1019, t1020, f1021⟩ := t_add tx5 lit_1
                first | replace f1021 := f1021 (by omega) | clear f1021
                intro x5_1v494 ex5_1v494
                have tx5_1v494 : Ti x5_1v494 z1019 := by rw [ex5_1v494]; exact t1020
                exact ih _ _ _ _ _ _ _ _ _ tx2 tx3 tr_20v486 tx5_1v494 hIw_21v487 (by omega) (by omega) (by omega)
            · replace c1010 := c_eq tx6_7v467 lit_10 c1010
              unfold pX8_split_57
              obtain ⟨z1022, t1023, f1024⟩ := t_add tx4 lit_1
              first | replace f1024 := f1024 (by omega) | clear f1024
              intro x4_1v495 ex4_1v495
              have tx4_1v495 : Ti x4_1v495 z1022 := by rw [ex4_1v495]; exact t1023
              unfold pX8_split_116
              obtain ⟨z1025, t1026, f1027⟩ := t_add tx5 lit_1
              first | replace f1027 := f1027 (by omega) | clear f1027
              intro x5_1v496 ex5_1v496
              have tx5_1v496 : Ti x5_1v496 z1025 := by rw [ex5_1v496]; exact t1026
              exact ih _ _ _ _ _ _ _ _ _ tx2 tx3 tx4_1v495 tx5_1v496 hI (by omega) (by omega) (by omega)
set_option maxHeartbeats 4000000 in
set_option maxRecDepth 100000 in
theorem sX8_split {T D : Int} {k : Nat} {post : Wd → Prop} {x2 : Int32} {zx2 : Int} {w : Wd}  (tx2 : Ti x2 zx2) (hI : IX k T D w)  (hp : ∀ (w9 : Wd), IX k T D w9 → post w9) : pX8_split   post  x2 w := by
  unfold pX8_split
  have hk := ix_k hI
  intro w_1v497 ew_1v497
  have hIw_1v497 := ixs_20_3 hI ew_1v497 lit_0 (by omega) (by omega)
  obtain ⟨z1028, t1029, f1030⟩ := t_ite lit_1600 tx2 lit_1600 tx2
  intro x3_2v498 ex3_2v498
  have tx3_2v498 : Ti x3_2v498 z1028 := by rw [ex3_2v498]; exact t1029
  exact ⟨70000, sX8_split_18    (hp := hp) 70000 _ _ _ _ _ _ _ _ _ tx2 tx3_2v498 lit_0 lit_0 hIw_1v497 (by omega) (by omega) (by omega)⟩
set_option maxHeartbeats 4000000 in
set_option maxRecDepth 100000 in
theorem sX10_chancery {T D : Int} {k : Nat} {post : Int32 → Wd → Prop}  {w : Wd}   (hI : IX k T D w)  (hp : ∀ (r : Int32) (zr : Int) (w9 : Wd) (D9 : Int), Ti r zr → IX k T D9 w9 → post r w9) : pX10_chancery   post   w := by
  unfold pX10_chancery
  have hk := ix_k hI
  obtain ⟨z1031, t1032⟩ := t_any (w.1 0 13)
  have f1033 := ixg_0_13 hI t1032
  refine sX8_split   (hI := hI) (tx2 := t1032)  (hp := fun  w_1v499   hIw_1v499  => ?_)
  refine sX6_read   (hI := hIw_1v499)   (hp := fun r_2v500 zr_2v500 w_3v501  tr_2v500 hIw_3v501  => ?_)
  intro w_4v502 ew_4v502
  have hIw_4v502 := ixs_n hIw_3v501 ew_4v502 (by unfold nX; omega)
  intro w_5v503 ew_5v503
  have hIw_5v503 := ixs_n hIw_4v502 ew_5v503 (by unfold nX; omega)
  have t1035 : Ti (w_4v502.1 0 14) zr_2v500 := by rw [ew_4v502, sI_at]; exact tr_2v500
  have t1034 : Ti (w_5v503.1 0 14) zr_2v500 := by rw [ew_5v503, sI_ne (by omega)]; exact t1035
  refine ⟨fun c1036 => ?_, fun c1036 => ?_⟩
  · replace c1036 := c_eq t1034 lit_0 c1036
    intro w_7v504 ew_7v504
    have hIw_7v504 := ixs_R hIw_5v503 ew_7v504
    intro w_8v505 ew_8v505
    have hIw_8v505 := ixs_R hIw_7v504 ew_8v505
    refine sX10_beginAnew   (hI := hIw_8v505)   (hp := fun  w_9v506 g1037  hIw_9v506  => ?_)
    have f1038 := ix_k hIw_9v506
    obtain ⟨z1039, t1040⟩ := t_any (w_9v506.1 (rl (w_9v506.2.2.2.2 0)) 2)
    have f1041 := ixg_r2 hIw_9v506 t1040
    exact hp _ _ _ _ t1040 hIw_9v506 
  · replace c1036 := c_neq t1034 lit_0 c1036
    exact hp _ _ _ _ lit_m1 hIw_5v503 
set_option maxHeartbeats 4000000 in
set_option maxRecDepth 100000 in
theorem sX10_fault {T D : Int} {k : Nat} {post : Int32 → Wd → Prop} {x1 : Int32} {zx1 : Int} {w : Wd}  (tx1 : Ti x1 zx1) (hI : IX k T D w)  (hp : ∀ (r : Int32) (zr : Int), Ti r zr → post r w) : pX10_fault   post  x1 w := by
  unfold pX10_fault
  have hk := ix_k hI
  refine ⟨fun c1042 => ?_, fun c1042 => ?_⟩
  · replace c1042 := c_neq tx1 lit_0 c1042
    refine ⟨fun c1043 => ?_, fun c1043 => ?_⟩
    · replace c1043 := c_neq tx1 lit_1 c1043
      exact hp _ _ lit_m1 
    · replace c1043 := c_eq tx1 lit_1 c1043
      obtain ⟨z1044, t1045⟩ := t_any (w.1 0 15)
      exact hp _ _ t1045 
  · replace c1042 := c_eq tx1 lit_0 c1042
    obtain ⟨z1046, t1047⟩ := t_any (w.1 0 14)
    exact hp _ _ t1047 
set_option maxHeartbeats 4000000 in
set_option maxRecDepth 100000 in
theorem sX10_isSeal {T D : Int} {k : Nat} {post : Int32 → Wd → Prop} {x1 : Int32} {zx1 : Int} {w : Wd}  (tx1 : Ti x1 zx1) (hI : IX k T D w)  (hp : ∀ (r : Int32) (zr : Int), Ti r zr → ((zr = 0 ∨ (0 ≤ zx1 ∧ zx1 ≤ 23))) → post r w) : pX10_isSeal   post  x1 w := by
  unfold pX10_isSeal
  have hk := ix_k hI
  refine ⟨fun c1048 => ?_, fun c1048 => ?_⟩
  · replace c1048 := c_lt tx1 lit_0 c1048
    exact hp _ _ lit_0 (by omega)
  · replace c1048 := c_nlt tx1 lit_0 c1048
    obtain ⟨z1049, t1050⟩ := t_any (w.1 160 0)
    have f1051 := ixg_c0 hI t1050
    refine ⟨fun c1052 => ?_, fun c1052 => ?_⟩
    · replace c1052 := c_le t1050 tx1 c1052
      exact hp _ _ lit_0 (by omega)
    · replace c1052 := c_nle t1050 tx1 c1052
      exact hp _ _ lit_1 (by omega)
set_option maxHeartbeats 4000000 in
set_option maxRecDepth 100000 in
theorem sX10_seal {T D : Int} {k : Nat} {post : Int32 → Wd → Prop} {x1 : Int32} {zx1 : Int} {x2 : Int32} {zx2 : Int} {w : Wd}  (tx1 : Ti x1 zx1) (tx2 : Ti x2 zx2) (hI : IX k T D w)  (hp : ∀ (r : Int32) (zr : Int), Ti r zr → post r w) : pX10_seal   post  x1 x2 w := by
  unfold pX10_seal
  have hk := ix_k hI
  refine sX10_isSeal   (hI := hI) (tx1 := tx1)  (hp := fun r_1v507 zr_1v507 tr_1v507 p1053 => ?_)
  refine ⟨fun c1054 => ?_, fun c1054 => ?_⟩
  · replace c1054 := c_neq tr_1v507 lit_0 c1054
    refine ⟨fun c1055 => ?_, fun c1055 => ?_, fun c1055 => ?_, fun c1055 => ?_, fun c1055 => ?_, fun c1055 => ?_⟩
    · rw [show x2.toInt = zx2 from tx2] at c1055
      exact hp _ _ lit_m1 
    · rw [show x2.toInt = zx2 from tx2] at c1055
      refine ⟨vp_of tx1 (by omega) (by omega), ?_⟩
      obtain ⟨z1056, t1057⟩ := t_any (w.2.1 162 x1.toNatClampNeg)
      exact hp _ _ t1057 
    · rw [show x2.toInt = zx2 from tx2] at c1055
      refine ⟨vp_of tx1 (by omega) (by omega), ?_⟩
      obtain ⟨z1058, t1059⟩ := t_any (w.2.1 163 x1.toNatClampNeg)
      exact hp _ _ t1059 
    · rw [show x2.toInt = zx2 from tx2] at c1055
      refine ⟨vp_of tx1 (by omega) (by omega), ?_⟩
      obtain ⟨z1060, t1061⟩ := t_any (w.2.1 164 x1.toNatClampNeg)
      exact hp _ _ t1061 
    · rw [show x2.toInt = zx2 from tx2] at c1055
      refine ⟨vp_of tx1 (by omega) (by omega), ?_⟩
      obtain ⟨z1062, t1063⟩ := t_any (w.2.1 165 x1.toNatClampNeg)
      exact hp _ _ t1063 
    · rw [show x2.toInt = zx2 from tx2] at c1055
      refine ⟨vp_of tx1 (by omega) (by omega), ?_⟩
      obtain ⟨z1064, t1065⟩ := t_any (w.2.1 166 x1.toNatClampNeg)
      exact hp _ _ t1065 
  · replace c1054 := c_eq tr_1v507 lit_0 c1054
    exact hp _ _ lit_m1 
set_option maxHeartbeats 4000000 in
set_option maxRecDepth 100000 in
theorem sX10_shown {T D : Int} {k : Nat} {post : Int32 → Wd → Prop} {x1 : Int32} {zx1 : Int} {x2 : Int32} {zx2 : Int} {w : Wd}  (tx1 : Ti x1 zx1) (tx2 : Ti x2 zx2) (hI : IX k T D w)  (hp : ∀ (r : Int32) (zr : Int), Ti r zr → post r w) : pX10_shown   post  x1 x2 w := by
  unfold pX10_shown
  have hk := ix_k hI
  refine ⟨fun c1066 => ?_, fun c1066 => ?_⟩
  · replace c1066 := c_lt tx1 lit_0 c1066
    exact hp _ _ lit_m1 
  · replace c1066 := c_nlt tx1 lit_0 c1066
    obtain ⟨z1067, t1068⟩ := t_any (w.1 160 6)
    have f1069 := ixg_c6 hI t1068
    refine ⟨fun c1070 => ?_, fun c1070 => ?_⟩
    · replace c1070 := c_lt tx1 t1068 c1070
      refine ⟨fun c1071 => ?_, fun c1071 => ?_, fun c1071 => ?_, fun c1071 => ?_⟩
      · rw [show x2.toInt = zx2 from tx2] at c1071
        exact hp _ _ lit_m1 
      · rw [show x2.toInt = zx2 from tx2] at c1071
        refine ⟨vp_of tx1 (by omega) (by omega), ?_⟩
        obtain ⟨z1072, t1073⟩ := t_any (w.2.1 168 x1.toNatClampNeg)
        exact hp _ _ t1073 
      · rw [show x2.toInt = zx2 from tx2] at c1071
        refine ⟨vp_of tx1 (by omega) (by omega), ?_⟩
        obtain ⟨z1074, t1075⟩ := t_any (w.2.1 169 x1.toNatClampNeg)
        exact hp _ _ t1075 
      · rw [show x2.toInt = zx2 from tx2] at c1071
        refine ⟨vp_of tx1 (by omega) (by omega), ?_⟩
        obtain ⟨z1076, t1077⟩ := t_any (w.2.1 170 x1.toNatClampNeg)
        exact hp _ _ t1077 
    · replace c1070 := c_nlt tx1 t1068 c1070
      exact hp _ _ lit_m1 
set_option maxHeartbeats 4000000 in
set_option maxRecDepth 100000 in
theorem sX7_rows {T D : Int} {k : Nat} {post : Int32 → Wd → Prop} {b : Bool}  {w : Wd}   (hI : IX k T D w)  (hp : ∀ (r : Int32) (zr : Int), Ti r zr → (1 ≤ zr ∧ zr ≤ 4096) → post r w) : pX7_rows   post b  w := by
  unfold pX7_rows
  have hk := ix_k hI
  obtain ⟨z1078, t1079⟩ := t_any (w.1 (rl b) 0)
  have f1080 := ixg_r0 hI t1079
  obtain ⟨z1081, t1082, f1083⟩ := t_shl t1079
  first | replace f1083 := f1083 (by omega) | clear f1083
  exact hp _ _ t1082 (by omega)
set_option maxHeartbeats 4000000 in
set_option maxRecDepth 100000 in
theorem sX10_isRow {T D : Int} {k : Nat} {post : Int32 → Wd → Prop} {x1 : Int32} {zx1 : Int} {w : Wd}  (tx1 : Ti x1 zx1) (hI : IX k T D w)  (hp : ∀ (r : Int32) (zr : Int), Ti r zr → ((zr = 0 ∨ (0 ≤ zx1 ∧ zx1 ≤ 4095))) → post r w) : pX10_isRow   post  x1 w := by
  unfold pX10_isRow
  have hk := ix_k hI
  refine ⟨fun c1084 => ?_, fun c1084 => ?_⟩
  · replace c1084 := c_lt tx1 lit_0 c1084
    exact hp _ _ lit_0 (by omega)
  · replace c1084 := c_nlt tx1 lit_0 c1084
    refine sX7_rows   (hI := hI)   (hp := fun r_2v509 zr_2v509 tr_2v509 p1085 => ?_)
    refine ⟨fun c1086 => ?_, fun c1086 => ?_⟩
    · replace c1086 := c_le tr_2v509 tx1 c1086
      exact hp _ _ lit_0 (by omega)
    · replace c1086 := c_nle tr_2v509 tx1 c1086
      exact hp _ _ lit_1 (by omega)
set_option maxHeartbeats 4000000 in
set_option maxRecDepth 100000 in
theorem sX10_prints_30 {T D : Int} {k : Nat} {post : Int32 → Wd → Prop} {w : Wd}  (hp : ∀ (r : Int32) (zr : Int), Ti r zr → post r w) : ∀ (n : Nat) (x1 : Int32) (x2 : Int32) (x3 : Int32) (x4 : Int32) (x5 : Int32) (x6 : Int32) (zx1 : Int) (zx2 : Int) (zx3 : Int) (zx4 : Int) (zx5 : Int) (zx6 : Int), Ti x1 zx1 → Ti x2 zx2 → Ti x3 zx3 → Ti x4 zx4 → Ti x5 zx5 → Ti x6 zx6 → IX k T D w → (0 ≤ zx6 ∧ zx6 ≤ 40) → (41 - zx6) < (n : Int) → pX10_prints_30   post  n x1 x2 x3 x4 x5 x6 w := by
  intro n
  induction n with
  | zero =>
    intro x1 x2 x3 x4 x5 x6 zx1 zx2 zx3 zx4 zx5 zx6  tx1 tx2 tx3 tx4 tx5 tx6 hI h0 hm
    exact absurd hm (by omega)
  | succ n ih =>
    intro x1 x2 x3 x4 x5 x6 zx1 zx2 zx3 zx4 zx5 zx6  tx1 tx2 tx3 tx4 tx5 tx6 hI h0 hm
    unfold pX10_prints_30
    have hk := ix_k hI
    obtain ⟨z1087, t1088⟩ := t_any (w.1 160 6)
    have f1089 := ixg_c6 hI t1088
    refine ⟨fun c1090 => ?_, fun c1090 => ?_⟩
    · replace c1090 := c_le t1088 tx6 c1090
      refine ⟨fun c1091 => ?_, fun c1091 => ?_⟩
      · replace c1091 := c_neq tx2 lit_0 c1091
        refine ⟨fun c1092 => ?_, fun c1092 => ?_⟩
        · replace c1092 := c_neq tx2 lit_1 c1092
          exact hp _ _ tx5 
        · replace c1092 := c_eq tx2 lit_1 c1092
          exact hp _ _ tx4 
      · replace c1091 := c_eq tx2 lit_0 c1091
        exact hp _ _ tx3 
    · replace c1090 := c_nle t1088 tx6 c1090
      refine ⟨vp_of tx6 (by omega) (by omega), ?_⟩
      obtain ⟨z1093, t1094⟩ := t_any (w.2.1 168 x6.toNatClampNeg)
      refine ⟨fun c1095 => ?_, fun c1095 => ?_⟩
      · replace c1095 := c_neq t1094 tx1 c1095
        unfold pX10_prints_92
        obtain ⟨z1096, t1097, f1098⟩ := t_add tx6 lit_1
        first | replace f1098 := f1098 (by omega) | clear f1098
        intro x6_1v511 ex6_1v511
        have tx6_1v511 : Ti x6_1v511 z1096 := by rw [ex6_1v511]; exact t1097
        exact ih _ _ _ _ _ _ _ _ _ _ _ _  tx1 tx2 tx3 tx4 tx5 tx6_1v511 hI (by omega) (by omega)
      · replace c1095 := c_eq t1094 tx1 c1095
        refine ⟨fun c1099 => ?_, fun c1099 => ?_⟩
        · replace c1099 := c_neq tx3 lit_0 c1099
          unfold pX10_prints_75
          refine ⟨vp_of tx6 (by omega) (by omega), ?_⟩
          obtain ⟨z1100, t1101⟩ := t_any (w.2.1 170 x6.toNatClampNeg)
          intro x5_1v512 ex5_1v512
          have tx5_1v512 : Ti x5_1v512 z1100 := by rw [ex5_1v512]; exact t1101
          obtain ⟨z1102, t1103, f1104⟩ := t_add tx3 lit_1
          first | replace f1104 := f1104 (by omega) | clear f1104
          intro x3_2v513 ex3_2v513
          have tx3_2v513 : Ti x3_2v513 z1102 := by rw [ex3_2v513]; exact t1103
          unfold pX10_prints_92
          obtain ⟨z1105, t1106, f1107⟩ := t_add tx6 lit_1
          first | replace f1107 := f1107 (by omega) | clear f1107
          intro x6_1v514 ex6_1v514
          have tx6_1v514 : Ti x6_1v514 z1105 := by rw [ex6_1v514]; exact t1106
          exact ih _ _ _ _ _ _ _ _ _ _ _ _  tx1 tx2 tx3_2v513 tx4 tx5_1v512 tx6_1v514 hI (by omega) (by omega)
        · replace c1099 := c_eq tx3 lit_0 c1099
          refine ⟨vp_of tx6 (by omega) (by omega), ?_⟩
          unfold pX10_prints_75
          refine ⟨vp_of tx6 (by omega) (by omega), ?_⟩
          obtain ⟨z1108, t1109⟩ := t_any (w.2.1 170 x6.toNatClampNeg)
          intro x5_1v515 ex5_1v515
          have tx5_1v515 : Ti x5_1v515 z1108 := by rw [ex5_1v515]; exact t1109
          obtain ⟨z1110, t1111, f1112⟩ := t_add tx3 lit_1
          first | replace f1112 := f1112 (by omega) | clear f1112
          intro x3_2v516 ex3_2v516
          have tx3_2v516 : Ti x3_2v516 z1110 := by rw [ex3_2v516]; exact t1111
          unfold pX10_prints_92
          obtain ⟨z1113, t1114, f1115⟩ := t_add tx6 lit_1
          first | replace f1115 := f1115 (by omega) | clear f1115
          intro x6_1v517 ex6_1v517
          have tx6_1v517 : Ti x6_1v517 z1113 := by rw [ex6_1v517]; exact t1114
          exact ih _ _ _ _ _ _ _ _ _ _ _ _  tx1 tx2 tx3_2v516 t1109 tx5_1v515 tx6_1v517 hI (by omega) (by omega)
set_option maxHeartbeats 4000000 in
set_option maxRecDepth 100000 in
theorem sX10_prints {T D : Int} {k : Nat} {post : Int32 → Wd → Prop} {x1 : Int32} {zx1 : Int} {x2 : Int32} {zx2 : Int} {w : Wd}  (tx1 : Ti x1 zx1) (tx2 : Ti x2 zx2) (hI : IX k T D w)  (hp : ∀ (r : Int32) (zr : Int), Ti r zr → post r w) : pX10_prints   post  x1 x2 w := by
  unfold pX10_prints
  have hk := ix_k hI
  refine sX10_isRow   (hI := hI) (tx1 := tx1)  (hp := fun r_1v518 zr_1v518 tr_1v518 p1116 => ?_)
  refine ⟨fun c1117 => ?_, fun c1117 => ?_⟩
  · replace c1117 := c_eq tr_1v518 lit_0 c1117
    exact hp _ _ lit_m1 
  · replace c1117 := c_neq tr_1v518 lit_0 c1117
    refine ⟨fun c1118 => ?_, fun c1118 => ?_⟩
    · replace c1118 := c_lt tx2 lit_0 c1118
      exact hp _ _ lit_m1 
    · replace c1118 := c_nlt tx2 lit_0 c1118
      refine ⟨fun c1119 => ?_, fun c1119 => ?_⟩
      · replace c1119 := c_le tx2 lit_2 c1119
        exact ⟨70000, sX10_prints_30    (hp := hp) 70000 _ _ _ _ _ _ _ _ _ _ _ _  tx1 tx2 lit_0 lit_m1 lit_m1 lit_0 hI (by omega) (by omega)⟩
      · replace c1119 := c_nle tx2 lit_2 c1119
        exact hp _ _ lit_m1 
set_option maxHeartbeats 4000000 in
set_option maxRecDepth 100000 in
theorem sX10_turn {T D : Int} {k : Nat} {post : Int32 → Wd → Prop} {x0 : Int32} {zx0 : Int} {x1 : Int32} {zx1 : Int} {w : Wd}  (tx0 : Ti x0 zx0) (tx1 : Ti x1 zx1) (hI : IX k T D w)  (hp : ∀ (r : Int32) (zr : Int), Ti r zr → post r w) : pX10_turn   post  x0 x1 w := by
  unfold pX10_turn
  have hk := ix_k hI
  obtain ⟨z1120, t1121⟩ := t_any (((x0 &&& (21845 : Int32)) <<< ((1 : Int32) &&& 31)) ||| ((x0.toUInt32 >>> ((1 : Int32).toUInt32 &&& Int32.toUInt32 31)).toInt32 &&& (21845 : Int32)))
  intro x2_1v520 ex2_1v520
  have tx2_1v520 : Ti x2_1v520 z1120 := by rw [ex2_1v520]; exact t1121
  obtain ⟨z1122, t1123⟩ := t_any (((x2_1v520 &&& (13107 : Int32)) <<< ((2 : Int32) &&& 31)) ||| ((x2_1v520.toUInt32 >>> ((2 : Int32).toUInt32 &&& Int32.toUInt32 31)).toInt32 &&& (13107 : Int32)))
  intro x2_2v521 ex2_2v521
  have tx2_2v521 : Ti x2_2v521 z1122 := by rw [ex2_2v521]; exact t1123
  obtain ⟨z1124, t1125⟩ := t_any (((x2_2v521 &&& (3855 : Int32)) <<< ((4 : Int32) &&& 31)) ||| ((x2_2v521.toUInt32 >>> ((4 : Int32).toUInt32 &&& Int32.toUInt32 31)).toInt32 &&& (3855 : Int32)))
  intro x2_3v522 ex2_3v522
  have tx2_3v522 : Ti x2_3v522 z1124 := by rw [ex2_3v522]; exact t1125
  obtain ⟨z1126, t1127⟩ := t_any (((x2_3v522 &&& (255 : Int32)) <<< ((8 : Int32) &&& 31)) ||| ((x2_3v522.toUInt32 >>> ((8 : Int32).toUInt32 &&& Int32.toUInt32 31)).toInt32 &&& (255 : Int32)))
  intro x2_4v523 ex2_4v523
  have tx2_4v523 : Ti x2_4v523 z1126 := by rw [ex2_4v523]; exact t1127
  obtain ⟨z1128, t1129⟩ := t_any ((x2_4v523.toUInt32 >>> (((16 : Int32) - x1).toUInt32 &&& Int32.toUInt32 31)).toInt32)
  exact hp _ _ t1129 
set_option maxHeartbeats 4000000 in
set_option maxRecDepth 100000 in
theorem sX10_turned {T D : Int} {k : Nat} {post : Int32 → Wd → Prop} {x1 : Int32} {zx1 : Int} {w : Wd}  (tx1 : Ti x1 zx1) (hI : IX k T D w)  (hp : ∀ (r : Int32) (zr : Int), Ti r zr → post r w) : pX10_turned   post  x1 w := by
  unfold pX10_turned
  have hk := ix_k hI
  refine sX10_isRow   (hI := hI) (tx1 := tx1)  (hp := fun r_1v524 zr_1v524 tr_1v524 p1130 => ?_)
  refine ⟨fun c1131 => ?_, fun c1131 => ?_⟩
  · replace c1131 := c_eq tr_1v524 lit_0 c1131
    exact hp _ _ lit_m1 
  · replace c1131 := c_neq tr_1v524 lit_0 c1131
    obtain ⟨z1132, t1133⟩ := t_any (w.1 (rl (w.2.2.2.2 0)) 0)
    have f1134 := ixg_r0 hI t1133
    refine sX10_turn   (hI := hI) (tx0 := tx1) (tx1 := t1133)  (hp := fun r_4v528 zr_4v528 tr_4v528 => ?_)
    exact hp _ _ tr_4v528 
set_option maxHeartbeats 4000000 in
set_option maxRecDepth 100000 in
theorem sX10_isHand {T D : Int} {k : Nat} {post : Int32 → Wd → Prop} {x1 : Int32} {zx1 : Int} {w : Wd}  (tx1 : Ti x1 zx1) (hI : IX k T D w)  (hp : ∀ (r : Int32) (zr : Int), Ti r zr → ((zr = 0 ∨ (0 ≤ zx1 ∧ zx1 ≤ 3))) → post r w) : pX10_isHand   post  x1 w := by
  unfold pX10_isHand
  have hk := ix_k hI
  refine ⟨fun c1135 => ?_, fun c1135 => ?_⟩
  · replace c1135 := c_lt tx1 lit_0 c1135
    exact hp _ _ lit_0 (by omega)
  · replace c1135 := c_nlt tx1 lit_0 c1135
    obtain ⟨z1136, t1137⟩ := t_any (w.1 (rl (w.2.2.2.2 0)) 2)
    have f1138 := ixg_r2 hI t1137
    refine ⟨fun c1139 => ?_, fun c1139 => ?_⟩
    · replace c1139 := c_le t1137 tx1 c1139
      exact hp _ _ lit_0 (by omega)
    · replace c1139 := c_nle t1137 tx1 c1139
      exact hp _ _ lit_1 (by omega)
set_option maxHeartbeats 4000000 in
set_option maxRecDepth 100000 in
theorem sX10_isHeat {T D : Int} {k : Nat} {post : Int32 → Wd → Prop} {x0 : Int32} {zx0 : Int} {w : Wd}  (tx0 : Ti x0 zx0) (hI : IX k T D w)  (hp : ∀ (r : Int32) (zr : Int), Ti r zr → ((zr = 0 ∨ (0 ≤ zx0 ∧ zx0 ≤ 9))) → post r w) : pX10_isHeat   post  x0 w := by
  unfold pX10_isHeat
  have hk := ix_k hI
  refine ⟨fun c1140 => ?_, fun c1140 => ?_⟩
  · replace c1140 := c_lt tx0 lit_0 c1140
    exact hp _ _ lit_0 (by omega)
  · replace c1140 := c_nlt tx0 lit_0 c1140
    refine ⟨fun c1141 => ?_, fun c1141 => ?_⟩
    · replace c1141 := c_le lit_10 tx0 c1141
      exact hp _ _ lit_0 (by omega)
    · replace c1141 := c_nle lit_10 tx0 c1141
      exact hp _ _ lit_1 (by omega)
set_option maxHeartbeats 4000000 in
set_option maxRecDepth 100000 in
theorem sJ6_bitCount_0f7a4 {T D : Int} {k : Nat} {post : Int32 → Wd → Prop} {x0 : Int32} {zx0 : Int} {w : Wd}  (tx0 : Ti x0 zx0) (hI : IX k T D w)  (hp : ∀ (r : Int32) (zr : Int), Ti r zr → (0 ≤ zr ∧ zr ≤ 63) → post r w) : pJ6_bitCount_0f7a4   post  x0 w := by
  unfold pJ6_bitCount_0f7a4
  have hk := ix_k hI
  obtain ⟨z1142, t1143, f1144⟩ := t_and (x := ((x0.toUInt32 >>> ((1 : Int32).toUInt32 &&& Int32.toUInt32 31)).toInt32)) lit_1431655765 (by decide)
  obtain ⟨z1145, t1146, f1147⟩ := t_sub tx0 t1143
  first | replace f1147 := f1147 (by omega) | clear f1147
  intro x0_1v530 ex0_1v530
  have tx0_1v530 : Ti x0_1v530 z1145 := by rw [ex0_1v530]; exact t1146
  obtain ⟨z1148, t1149, f1150⟩ := t_and (x := x0_1v530) lit_858993459 (by decide)
  obtain ⟨z1151, t1152, f1153⟩ := t_and (x := ((x0_1v530.toUInt32 >>> ((2 : Int32).toUInt32 &&& Int32.toUInt32 31)).toInt32)) lit_858993459 (by decide)
  obtain ⟨z1154, t1155, f1156⟩ := t_add t1149 t1152
  first | replace f1156 := f1156 (by omega) | clear f1156
  intro x0_2v531 ex0_2v531
  have tx0_2v531 : Ti x0_2v531 z1154 := by rw [ex0_2v531]; exact t1155
  obtain ⟨z1157, t1158, f1159⟩ := t_and (x := (x0_2v531 + (x0_2v531.toUInt32 >>> ((4 : Int32).toUInt32 &&& Int32.toUInt32 31)).toInt32)) lit_252645135 (by decide)
  intro x0_3v532 ex0_3v532
  have tx0_3v532 : Ti x0_3v532 z1157 := by rw [ex0_3v532]; exact t1158
  obtain ⟨z1160, t1161⟩ := t_any ((x0_3v532.toUInt32 >>> ((8 : Int32).toUInt32 &&& Int32.toUInt32 31)).toInt32)
  obtain ⟨z1162, t1163, f1164⟩ := t_add tx0_3v532 t1161
  first | replace f1164 := f1164 (by omega) | clear f1164
  intro x0_4v533 ex0_4v533
  have tx0_4v533 : Ti x0_4v533 z1162 := by rw [ex0_4v533]; exact t1163
  obtain ⟨z1165, t1166⟩ := t_any ((x0_4v533.toUInt32 >>> ((16 : Int32).toUInt32 &&& Int32.toUInt32 31)).toInt32)
  obtain ⟨z1167, t1168, f1169⟩ := t_add tx0_4v533 t1166
  first | replace f1169 := f1169 (by omega) | clear f1169
  intro x0_5v534 ex0_5v534
  have tx0_5v534 : Ti x0_5v534 z1167 := by rw [ex0_5v534]; exact t1168
  obtain ⟨z1170, t1171, f1172⟩ := t_and (x := x0_5v534) lit_63 (by decide)
  exact hp _ _ t1171 (by omega)
set_option maxHeartbeats 4000000 in
set_option maxRecDepth 100000 in
theorem sX7_join {T D : Int} {k : Nat} {post : Int32 → Wd → Prop} {x0 : Int32} {zx0 : Int} {x1 : Int32} {zx1 : Int} {x2 : Int32} {zx2 : Int} {w : Wd}  (tx0 : Ti x0 zx0) (tx1 : Ti x1 zx1) (tx2 : Ti x2 zx2) (hI : IX k T D w)  (hp : ∀ (r : Int32) (zr : Int), Ti r zr → post r w) : pX7_join   post  x0 x1 x2 w := by
  unfold pX7_join
  have hk := ix_k hI
  refine ⟨fun c1173 => ?_, fun c1173 => ?_⟩
  · rw [show x0.toInt = zx0 from tx0] at c1173
    refine ⟨fun c1174 => ?_, fun c1174 => ?_⟩
    · replace c1174 := c_neq tx1 lit_0 c1174
      exact hp _ _ lit_1 
    · replace c1174 := c_eq tx1 lit_0 c1174
      refine ⟨fun c1175 => ?_, fun c1175 => ?_⟩
      · replace c1175 := c_eq tx2 lit_0 c1175
        exact hp _ _ lit_0 
      · replace c1175 := c_neq tx2 lit_0 c1175
        exact hp _ _ lit_1 
  · rw [show x0.toInt = zx0 from tx0] at c1173
    refine ⟨fun c1176 => ?_, fun c1176 => ?_⟩
    · rw [show x0.toInt = zx0 from tx0] at c1176
      refine ⟨fun c1177 => ?_, fun c1177 => ?_⟩
      · replace c1177 := c_eq tx1 lit_0 c1177
        exact hp _ _ lit_0 
      · replace c1177 := c_neq tx1 lit_0 c1177
        refine ⟨fun c1178 => ?_, fun c1178 => ?_⟩
        · replace c1178 := c_eq tx2 lit_0 c1178
          exact hp _ _ lit_0 
        · replace c1178 := c_neq tx2 lit_0 c1178
          exact hp _ _ lit_1 
    · rw [show x0.toInt = zx0 from tx0] at c1176
      refine ⟨fun c1179 => ?_, fun c1179 => ?_⟩
      · rw [show x0.toInt = zx0 from tx0] at c1179
        refine ⟨fun c1180 => ?_, fun c1180 => ?_⟩
        · replace c1180 := c_neq tx2 lit_0 c1180
          refine ⟨nz_of tx2 (by omega), ?_⟩
          obtain ⟨z1181, t1182, f1183⟩ := t_remv tx1 tx2
          first | replace f1183 := f1183 (by omega) | clear f1183
          exact hp _ _ t1182 
        · replace c1180 := c_eq tx2 lit_0 c1180
          exact hp _ _ lit_0 
      · rw [show x0.toInt = zx0 from tx0] at c1179
        refine ⟨fun c1184 => ?_, fun c1184 => ?_⟩
        · rw [show x0.toInt = zx0 from tx0] at c1184
          obtain ⟨z1185, t1186, f1187⟩ := t_mulv tx1 tx2
          first | replace f1187 := f1187 (by omega) | clear f1187
          exact hp _ _ t1186 
        · rw [show x0.toInt = zx0 from tx0] at c1184
          refine ⟨fun c1188 => ?_, fun c1188 => ?_⟩
          · rw [show x0.toInt = zx0 from tx0] at c1188
            obtain ⟨z1189, t1190, f1191⟩ := t_add tx1 tx2
            first | replace f1191 := f1191 (by omega) | clear f1191
            exact hp _ _ t1190 
          · rw [show x0.toInt = zx0 from tx0] at c1188
            refine ⟨fun c1192 => ?_, fun c1192 => ?_⟩
            · rw [show x0.toInt = zx0 from tx0] at c1192
              obtain ⟨z1193, t1194, f1195⟩ := t_sub tx1 tx2
              first | replace f1195 := f1195 (by omega) | clear f1195
              exact hp _ _ t1194 
            · rw [show x0.toInt = zx0 from tx0] at c1192
              refine ⟨fun c1196 => ?_, fun c1196 => ?_⟩
              · rw [show x0.toInt = zx0 from tx0] at c1196
                refine ⟨fun c1197 => ?_, fun c1197 => ?_⟩
                · replace c1197 := c_neq tx2 lit_0 c1197
                  refine ⟨nz_of tx2 (by omega), ?_⟩
                  obtain ⟨z1198, t1199, f1200⟩ := t_divv tx1 tx2
                  first | replace f1200 := f1200 (by omega) | clear f1200
                  exact hp _ _ t1199 
                · replace c1197 := c_eq tx2 lit_0 c1197
                  exact hp _ _ lit_0 
              · rw [show x0.toInt = zx0 from tx0] at c1196
                refine ⟨fun c1201 => ?_, fun c1201 => ?_⟩
                · rw [show x0.toInt = zx0 from tx0] at c1201
                  refine ⟨fun c1202 => ?_, fun c1202 => ?_⟩
                  · replace c1202 := c_le tx2 tx1 c1202
                    exact hp _ _ lit_0 
                  · replace c1202 := c_nle tx2 tx1 c1202
                    exact hp _ _ lit_1 
                · rw [show x0.toInt = zx0 from tx0] at c1201
                  refine ⟨fun c1203 => ?_, fun c1203 => ?_⟩
                  · rw [show x0.toInt = zx0 from tx0] at c1203
                    refine ⟨fun c1204 => ?_, fun c1204 => ?_⟩
                    · replace c1204 := c_neq tx1 tx2 c1204
                      exact hp _ _ lit_0 
                    · replace c1204 := c_eq tx1 tx2 c1204
                      exact hp _ _ lit_1 
                  · rw [show x0.toInt = zx0 from tx0] at c1203
                    refine ⟨fun c1205 => ?_, fun c1205 => ?_⟩
                    · rw [show x0.toInt = zx0 from tx0] at c1205
                      refine ⟨fun c1206 => ?_, fun c1206 => ?_⟩
                      · replace c1206 := c_le tx1 tx2 c1206
                        exact hp _ _ lit_0 
                      · replace c1206 := c_nle tx1 tx2 c1206
                        exact hp _ _ lit_1 
                    · rw [show x0.toInt = zx0 from tx0] at c1205
                      exact hp _ _ lit_0 
set_option maxHeartbeats 4000000 in
set_option maxRecDepth 100000 in
theorem sX7_valueOf_56 {T D : Int} {k : Nat} {post : Int32 → Wd → Prop} {b : Bool}   (hp : ∀ (r : Int32) (zr : Int) (w9 : Wd), Ti r zr → IX k T D w9 → post r w9) : ∀ (n : Nat) (x3 : Int32) (x4 : Int32) (x5 : Int32) (zx3 : Int) (zx4 : Int) (zx5 : Int) (w : Wd), Ti x3 zx3 → Ti x4 zx4 → Ti x5 zx5 → IX k T D w → (0 ≤ zx5 ∧ zx5 ≤ 2147483647) → (zx3 ≤ 1600) → (-1 ≤ zx4 ∧ zx4 ≤ 31) → (2147483648 - zx5) < (n : Int) → pX7_valueOf_56   post b n x3 x4 x5 w := by
  intro n
  induction n with
  | zero =>
    intro x3 x4 x5 zx3 zx4 zx5 w tx3 tx4 tx5 hI h0 h1 h2 hm
    exact absurd hm (by omega)
  | succ n ih =>
    intro x3 x4 x5 zx3 zx4 zx5 w tx3 tx4 tx5 hI h0 h1 h2 hm
    unfold pX7_valueOf_56
    have hk := ix_k hI
    refine ⟨fun c1207 => ?_, fun c1207 => ?_⟩
    · replace c1207 := c_le tx3 tx5 c1207
      refine ⟨fun c1208 => ?_, fun c1208 => ?_⟩
      · replace c1208 := c_lt tx4 lit_0 c1208
        exact hp _ _ _  lit_0 hI 
      · replace c1208 := c_nlt tx4 lit_0 c1208
        obtain ⟨z1209, t1210⟩ := t_any (w.2.1 ((rl b) + 13) (0 : Int32).toNatClampNeg)
        exact hp _ _ _  t1210 hI 
    · replace c1207 := c_nle tx3 tx5 c1207
      refine ⟨vp_of tx5 (by omega) (by omega), ?_⟩
      obtain ⟨z1211, t1212⟩ := t_any (w.2.1 ((rl b) + 9) x5.toNatClampNeg)
      intro x6_3v535 ex6_3v535
      have tx6_3v535 : Ti x6_3v535 z1211 := by rw [ex6_3v535]; exact t1212
      refine ⟨fun c1213 => ?_, fun c1213 => ?_⟩
      · replace c1213 := c_lt tx6_3v535 lit_128 c1213
        unfold pX7_valueOf_110
        refine ⟨fun c1214 => ?_, fun c1214 => ?_⟩
        · replace c1214 := c_lt tx6_3v535 lit_0 c1214
          unfold pX7_valueOf_151
          refine ⟨fun c1215 => ?_, fun c1215 => ?_⟩
          · replace c1215 := c_neq tx6_3v535 lit_16 c1215
            unfold pX7_valueOf_188
            refine ⟨fun c1216 => ?_, fun c1216 => ?_⟩
            · replace c1216 := c_lt tx4 lit_1 c1216
              unfold pX7_valueOf_225
              obtain ⟨z1217, t1218, f1219⟩ := t_add tx5 lit_1
              first | replace f1219 := f1219 (by omega) | clear f1219
              intro x5_1v544 ex5_1v544
              have tx5_1v544 : Ti x5_1v544 z1217 := by rw [ex5_1v544]; exact t1218
              have f1220 := t_rng tx5_1v544
              exact ih _ _ _ _ _ _ _ tx3 tx4 tx5_1v544 hI (by omega) (by omega) (by omega) (by omega)
            · replace c1216 := c_nlt tx4 lit_1 c1216
              obtain ⟨z1221, t1222, f1223⟩ := t_add tx4 lit_m1
              first | replace f1223 := f1223 (by omega) | clear f1223
              intro x4_2v540 ex4_2v540
              have tx4_2v540 : Ti x4_2v540 z1221 := by rw [ex4_2v540]; exact t1222
              refine ⟨vp_of tx4_2v540 (by omega) (by omega), ?_⟩
              obtain ⟨z1224, t1225, f1226⟩ := t_add tx4_2v540 lit_1
              first | replace f1226 := f1226 (by omega) | clear f1226
              refine ⟨vp_of t1225 (by omega) (by omega), ?_⟩
              obtain ⟨z1227, t1228⟩ := t_any (w.2.1 ((rl b) + 13) x4_2v540.toNatClampNeg)
              obtain ⟨z1229, t1230⟩ := t_any (w.2.1 ((rl b) + 13) (x4_2v540 + (1 : Int32)).toNatClampNeg)
              refine sX7_join   (hI := hI) (tx0 := tx6_3v535) (tx1 := t1228) (tx2 := t1230)  (hp := fun r_3v541 zr_3v541 tr_3v541 => ?_)
              refine ⟨vp_of tx4_2v540 (by omega) (by omega), ?_⟩
              intro w_5v545 ew_5v545
              have hIw_5v545 := ixs_A hI ew_5v545 (by have q := rl_or b; omega)
              unfold pX7_valueOf_225
              obtain ⟨z1231, t1232, f1233⟩ := t_add tx5 lit_1
              first | replace f1233 := f1233 (by omega) | clear f1233
              intro x5_1v546 ex5_1v546
              have tx5_1v546 : Ti x5_1v546 z1231 := by rw [ex5_1v546]; exact t1232
              have f1234 := t_rng tx5_1v546
              exact ih _ _ _ _ _ _ _ tx3 tx4_2v540 tx5_1v546 hIw_5v545 (by omega) (by omega) (by omega) (by omega)
          · replace c1215 := c_eq tx6_3v535 lit_16 c1215
            refine ⟨fun c1235 => ?_, fun c1235 => ?_⟩
            · replace c1235 := c_lt tx4 lit_0 c1235
              unfold pX7_valueOf_188
              refine ⟨fun c1236 => ?_, fun c1236 => ?_⟩
              · replace c1236 := c_lt tx4 lit_1 c1236
                unfold pX7_valueOf_225
                obtain ⟨z1237, t1238, f1239⟩ := t_add tx5 lit_1
                first | replace f1239 := f1239 (by omega) | clear f1239
                intro x5_1v551 ex5_1v551
                have tx5_1v551 : Ti x5_1v551 z1237 := by rw [ex5_1v551]; exact t1238
                have f1240 := t_rng tx5_1v551
                exact ih _ _ _ _ _ _ _ tx3 tx4 tx5_1v551 hI (by omega) (by omega) (by omega) (by omega)
              · replace c1236 := c_nlt tx4 lit_1 c1236
                obtain ⟨z1241, t1242, f1243⟩ := t_add tx4 lit_m1
                first | replace f1243 := f1243 (by omega) | clear f1243
                intro x4_2v547 ex4_2v547
                have tx4_2v547 : Ti x4_2v547 z1241 := by rw [ex4_2v547]; exact t1242
                refine ⟨vp_of tx4_2v547 (by omega) (by omega), ?_⟩
                obtain ⟨z1244, t1245, f1246⟩ := t_add tx4_2v547 lit_1
                first | replace f1246 := f1246 (by omega) | clear f1246
                refine ⟨vp_of t1245 (by omega) (by omega), ?_⟩
                obtain ⟨z1247, t1248⟩ := t_any (w.2.1 ((rl b) + 13) x4_2v547.toNatClampNeg)
                obtain ⟨z1249, t1250⟩ := t_any (w.2.1 ((rl b) + 13) (x4_2v547 + (1 : Int32)).toNatClampNeg)
                refine sX7_join   (hI := hI) (tx0 := tx6_3v535) (tx1 := t1248) (tx2 := t1250)  (hp := fun r_3v548 zr_3v548 tr_3v548 => ?_)
                refine ⟨vp_of tx4_2v547 (by omega) (by omega), ?_⟩
                intro w_5v552 ew_5v552
                have hIw_5v552 := ixs_A hI ew_5v552 (by have q := rl_or b; omega)
                unfold pX7_valueOf_225
                obtain ⟨z1251, t1252, f1253⟩ := t_add tx5 lit_1
                first | replace f1253 := f1253 (by omega) | clear f1253
                intro x5_1v553 ex5_1v553
                have tx5_1v553 : Ti x5_1v553 z1251 := by rw [ex5_1v553]; exact t1252
                have f1254 := t_rng tx5_1v553
                exact ih _ _ _ _ _ _ _ tx3 tx4_2v547 tx5_1v553 hIw_5v552 (by omega) (by omega) (by omega) (by omega)
            · replace c1235 := c_nlt tx4 lit_0 c1235
              refine ⟨vp_of tx4 (by omega) (by omega), ?_⟩
              obtain ⟨z1255, t1256⟩ := t_any (w.2.1 ((rl b) + 13) x4.toNatClampNeg)
              refine ⟨fun c1257 => ?_, fun c1257 => ?_⟩
              · replace c1257 := c_neq t1256 lit_0 c1257
                unfold pX7_valueOf_184
                refine ⟨vp_of tx4 (by omega) (by omega), ?_⟩
                intro w_1v554 ew_1v554
                have hIw_1v554 := ixs_A hI ew_1v554 (by have q := rl_or b; omega)
                unfold pX7_valueOf_225
                obtain ⟨z1258, t1259, f1260⟩ := t_add tx5 lit_1
                first | replace f1260 := f1260 (by omega) | clear f1260
                intro x5_1v555 ex5_1v555
                have tx5_1v555 : Ti x5_1v555 z1258 := by rw [ex5_1v555]; exact t1259
                have f1261 := t_rng tx5_1v555
                exact ih _ _ _ _ _ _ _ tx3 tx4 tx5_1v555 hIw_1v554 (by omega) (by omega) (by omega) (by omega)
              · replace c1257 := c_eq t1256 lit_0 c1257
                unfold pX7_valueOf_184
                refine ⟨vp_of tx4 (by omega) (by omega), ?_⟩
                intro w_1v556 ew_1v556
                have hIw_1v556 := ixs_A hI ew_1v556 (by have q := rl_or b; omega)
                unfold pX7_valueOf_225
                obtain ⟨z1262, t1263, f1264⟩ := t_add tx5 lit_1
                first | replace f1264 := f1264 (by omega) | clear f1264
                intro x5_1v557 ex5_1v557
                have tx5_1v557 : Ti x5_1v557 z1262 := by rw [ex5_1v557]; exact t1263
                have f1265 := t_rng tx5_1v557
                exact ih _ _ _ _ _ _ _ tx3 tx4 tx5_1v557 hIw_1v556 (by omega) (by omega) (by omega) (by omega)
        · replace c1214 := c_nlt tx6_3v535 lit_0 c1214
          refine ⟨fun c1266 => ?_, fun c1266 => ?_⟩
          · replace c1266 := c_le lit_8 tx6_3v535 c1266
            unfold pX7_valueOf_151
            refine ⟨fun c1267 => ?_, fun c1267 => ?_⟩
            · replace c1267 := c_neq tx6_3v535 lit_16 c1267
              unfold pX7_valueOf_188
              refine ⟨fun c1268 => ?_, fun c1268 => ?_⟩
              · replace c1268 := c_lt tx4 lit_1 c1268
                unfold pX7_valueOf_225
                obtain ⟨z1269, t1270, f1271⟩ := t_add tx5 lit_1
                first | replace f1271 := f1271 (by omega) | clear f1271
                intro x5_1v562 ex5_1v562
                have tx5_1v562 : Ti x5_1v562 z1269 := by rw [ex5_1v562]; exact t1270
                have f1272 := t_rng tx5_1v562
                exact ih _ _ _ _ _ _ _ tx3 tx4 tx5_1v562 hI (by omega) (by omega) (by omega) (by omega)
              · replace c1268 := c_nlt tx4 lit_1 c1268
                obtain ⟨z1273, t1274, f1275⟩ := t_add tx4 lit_m1
                first | replace f1275 := f1275 (by omega) | clear f1275
                intro x4_2v558 ex4_2v558
                have tx4_2v558 : Ti x4_2v558 z1273 := by rw [ex4_2v558]; exact t1274
                refine ⟨vp_of tx4_2v558 (by omega) (by omega), ?_⟩
                obtain ⟨z1276, t1277, f1278⟩ := t_add tx4_2v558 lit_1
                first | replace f1278 := f1278 (by omega) | clear f1278
                refine ⟨vp_of t1277 (by omega) (by omega), ?_⟩
                obtain ⟨z1279, t1280⟩ := t_any (w.2.1 ((rl b) + 13) x4_2v558.toNatClampNeg)
                obtain ⟨z1281, t1282⟩ := t_any (w.2.1 ((rl b) + 13) (x4_2v558 + (1 : Int32)).toNatClampNeg)
                refine sX7_join   (hI := hI) (tx0 := tx6_3v535) (tx1 := t1280) (tx2 := t1282)  (hp := fun r_3v559 zr_3v559 tr_3v559 => ?_)
                refine ⟨vp_of tx4_2v558 (by omega) (by omega), ?_⟩
                intro w_5v563 ew_5v563
                have hIw_5v563 := ixs_A hI ew_5v563 (by have q := rl_or b; omega)
                unfold pX7_valueOf_225
                obtain ⟨z1283, t1284, f1285⟩ := t_add tx5 lit_1
                first | replace f1285 := f1285 (by omega) | clear f1285
                intro x5_1v564 ex5_1v564
                have tx5_1v564 : Ti x5_1v564 z1283 := by rw [ex5_1v564]; exact t1284
                have f1286 := t_rng tx5_1v564
                exact ih _ _ _ _ _ _ _ tx3 tx4_2v558 tx5_1v564 hIw_5v563 (by omega) (by omega) (by omega) (by omega)
            · replace c1267 := c_eq tx6_3v535 lit_16 c1267
              refine ⟨fun c1287 => ?_, fun c1287 => ?_⟩
              · replace c1287 := c_lt tx4 lit_0 c1287
                unfold pX7_valueOf_188
                refine ⟨fun c1288 => ?_, fun c1288 => ?_⟩
                · replace c1288 := c_lt tx4 lit_1 c1288
                  unfold pX7_valueOf_225
                  obtain ⟨z1289, t1290, f1291⟩ := t_add tx5 lit_1
                  first | replace f1291 := f1291 (by omega) | clear f1291
                  intro x5_1v569 ex5_1v569
                  have tx5_1v569 : Ti x5_1v569 z1289 := by rw [ex5_1v569]; exact t1290
                  have f1292 := t_rng tx5_1v569
                  exact ih _ _ _ _ _ _ _ tx3 tx4 tx5_1v569 hI (by omega) (by omega) (by omega) (by omega)
                · replace c1288 := c_nlt tx4 lit_1 c1288
                  obtain ⟨z1293, t1294, f1295⟩ := t_add tx4 lit_m1
                  first | replace f1295 := f1295 (by omega) | clear f1295
                  intro x4_2v565 ex4_2v565
                  have tx4_2v565 : Ti x4_2v565 z1293 := by rw [ex4_2v565]; exact t1294
                  refine ⟨vp_of tx4_2v565 (by omega) (by omega), ?_⟩
                  obtain ⟨z1296, t1297, f1298⟩ := t_add tx4_2v565 lit_1
                  first | replace f1298 := f1298 (by omega) | clear f1298
                  refine ⟨vp_of t1297 (by omega) (by omega), ?_⟩
                  obtain ⟨z1299, t1300⟩ := t_any (w.2.1 ((rl b) + 13) x4_2v565.toNatClampNeg)
                  obtain ⟨z1301, t1302⟩ := t_any (w.2.1 ((rl b) + 13) (x4_2v565 + (1 : Int32)).toNatClampNeg)
                  refine sX7_join   (hI := hI) (tx0 := tx6_3v535) (tx1 := t1300) (tx2 := t1302)  (hp := fun r_3v566 zr_3v566 tr_3v566 => ?_)
                  refine ⟨vp_of tx4_2v565 (by omega) (by omega), ?_⟩
                  intro w_5v570 ew_5v570
                  have hIw_5v570 := ixs_A hI ew_5v570 (by have q := rl_or b; omega)
                  unfold pX7_valueOf_225
                  obtain ⟨z1303, t1304, f1305⟩ := t_add tx5 lit_1
                  first | replace f1305 := f1305 (by omega) | clear f1305
                  intro x5_1v571 ex5_1v571
                  have tx5_1v571 : Ti x5_1v571 z1303 := by rw [ex5_1v571]; exact t1304
                  have f1306 := t_rng tx5_1v571
                  exact ih _ _ _ _ _ _ _ tx3 tx4_2v565 tx5_1v571 hIw_5v570 (by omega) (by omega) (by omega) (by omega)
              · replace c1287 := c_nlt tx4 lit_0 c1287
                refine ⟨vp_of tx4 (by omega) (by omega), ?_⟩
                obtain ⟨z1307, t1308⟩ := t_any (w.2.1 ((rl b) + 13) x4.toNatClampNeg)
                refine ⟨fun c1309 => ?_, fun c1309 => ?_⟩
                · replace c1309 := c_neq t1308 lit_0 c1309
                  unfold pX7_valueOf_184
                  refine ⟨vp_of tx4 (by omega) (by omega), ?_⟩
                  intro w_1v572 ew_1v572
                  have hIw_1v572 := ixs_A hI ew_1v572 (by have q := rl_or b; omega)
                  unfold pX7_valueOf_225
                  obtain ⟨z1310, t1311, f1312⟩ := t_add tx5 lit_1
                  first | replace f1312 := f1312 (by omega) | clear f1312
                  intro x5_1v573 ex5_1v573
                  have tx5_1v573 : Ti x5_1v573 z1310 := by rw [ex5_1v573]; exact t1311
                  have f1313 := t_rng tx5_1v573
                  exact ih _ _ _ _ _ _ _ tx3 tx4 tx5_1v573 hIw_1v572 (by omega) (by omega) (by omega) (by omega)
                · replace c1309 := c_eq t1308 lit_0 c1309
                  unfold pX7_valueOf_184
                  refine ⟨vp_of tx4 (by omega) (by omega), ?_⟩
                  intro w_1v574 ew_1v574
                  have hIw_1v574 := ixs_A hI ew_1v574 (by have q := rl_or b; omega)
                  unfold pX7_valueOf_225
                  obtain ⟨z1314, t1315, f1316⟩ := t_add tx5 lit_1
                  first | replace f1316 := f1316 (by omega) | clear f1316
                  intro x5_1v575 ex5_1v575
                  have tx5_1v575 : Ti x5_1v575 z1314 := by rw [ex5_1v575]; exact t1315
                  have f1317 := t_rng tx5_1v575
                  exact ih _ _ _ _ _ _ _ tx3 tx4 tx5_1v575 hIw_1v574 (by omega) (by omega) (by omega) (by omega)
          · replace c1266 := c_nle lit_8 tx6_3v535 c1266
            obtain ⟨z1318, t1319, f1320⟩ := t_sub lit_32 lit_1
            first | replace f1320 := f1320 (by omega) | clear f1320
            refine ⟨fun c1321 => ?_, fun c1321 => ?_⟩
            · replace c1321 := c_le t1319 tx4 c1321
              unfold pX7_valueOf_151
              refine ⟨fun c1322 => ?_, fun c1322 => ?_⟩
              · replace c1322 := c_neq tx6_3v535 lit_16 c1322
                unfold pX7_valueOf_188
                refine ⟨fun c1323 => ?_, fun c1323 => ?_⟩
                · replace c1323 := c_lt tx4 lit_1 c1323
                  unfold pX7_valueOf_225
                  obtain ⟨z1324, t1325, f1326⟩ := t_add tx5 lit_1
                  first | replace f1326 := f1326 (by omega) | clear f1326
                  intro x5_1v580 ex5_1v580
                  have tx5_1v580 : Ti x5_1v580 z1324 := by rw [ex5_1v580]; exact t1325
                  have f1327 := t_rng tx5_1v580
                  exact ih _ _ _ _ _ _ _ tx3 tx4 tx5_1v580 hI (by omega) (by omega) (by omega) (by omega)
                · replace c1323 := c_nlt tx4 lit_1 c1323
                  obtain ⟨z1328, t1329, f1330⟩ := t_add tx4 lit_m1
                  first | replace f1330 := f1330 (by omega) | clear f1330
                  intro x4_2v576 ex4_2v576
                  have tx4_2v576 : Ti x4_2v576 z1328 := by rw [ex4_2v576]; exact t1329
                  refine ⟨vp_of tx4_2v576 (by omega) (by omega), ?_⟩
                  obtain ⟨z1331, t1332, f1333⟩ := t_add tx4_2v576 lit_1
                  first | replace f1333 := f1333 (by omega) | clear f1333
                  refine ⟨vp_of t1332 (by omega) (by omega), ?_⟩
                  obtain ⟨z1334, t1335⟩ := t_any (w.2.1 ((rl b) + 13) x4_2v576.toNatClampNeg)
                  obtain ⟨z1336, t1337⟩ := t_any (w.2.1 ((rl b) + 13) (x4_2v576 + (1 : Int32)).toNatClampNeg)
                  refine sX7_join   (hI := hI) (tx0 := tx6_3v535) (tx1 := t1335) (tx2 := t1337)  (hp := fun r_3v577 zr_3v577 tr_3v577 => ?_)
                  refine ⟨vp_of tx4_2v576 (by omega) (by omega), ?_⟩
                  intro w_5v581 ew_5v581
                  have hIw_5v581 := ixs_A hI ew_5v581 (by have q := rl_or b; omega)
                  unfold pX7_valueOf_225
                  obtain ⟨z1338, t1339, f1340⟩ := t_add tx5 lit_1
                  first | replace f1340 := f1340 (by omega) | clear f1340
                  intro x5_1v582 ex5_1v582
                  have tx5_1v582 : Ti x5_1v582 z1338 := by rw [ex5_1v582]; exact t1339
                  have f1341 := t_rng tx5_1v582
                  exact ih _ _ _ _ _ _ _ tx3 tx4_2v576 tx5_1v582 hIw_5v581 (by omega) (by omega) (by omega) (by omega)
              · replace c1322 := c_eq tx6_3v535 lit_16 c1322
                refine ⟨fun c1342 => ?_, fun c1342 => ?_⟩
                · replace c1342 := c_lt tx4 lit_0 c1342
                  unfold pX7_valueOf_188
                  refine ⟨fun c1343 => ?_, fun c1343 => ?_⟩
                  · replace c1343 := c_lt tx4 lit_1 c1343
                    unfold pX7_valueOf_225
                    obtain ⟨z1344, t1345, f1346⟩ := t_add tx5 lit_1
                    first | replace f1346 := f1346 (by omega) | clear f1346
                    intro x5_1v587 ex5_1v587
                    have tx5_1v587 : Ti x5_1v587 z1344 := by rw [ex5_1v587]; exact t1345
                    have f1347 := t_rng tx5_1v587
                    exact ih _ _ _ _ _ _ _ tx3 tx4 tx5_1v587 hI (by omega) (by omega) (by omega) (by omega)
                  · replace c1343 := c_nlt tx4 lit_1 c1343
                    obtain ⟨z1348, t1349, f1350⟩ := t_add tx4 lit_m1
                    first | replace f1350 := f1350 (by omega) | clear f1350
                    intro x4_2v583 ex4_2v583
                    have tx4_2v583 : Ti x4_2v583 z1348 := by rw [ex4_2v583]; exact t1349
                    refine ⟨vp_of tx4_2v583 (by omega) (by omega), ?_⟩
                    obtain ⟨z1351, t1352, f1353⟩ := t_add tx4_2v583 lit_1
                    first | replace f1353 := f1353 (by omega) | clear f1353
                    refine ⟨vp_of t1352 (by omega) (by omega), ?_⟩
                    obtain ⟨z1354, t1355⟩ := t_any (w.2.1 ((rl b) + 13) x4_2v583.toNatClampNeg)
                    obtain ⟨z1356, t1357⟩ := t_any (w.2.1 ((rl b) + 13) (x4_2v583 + (1 : Int32)).toNatClampNeg)
                    refine sX7_join   (hI := hI) (tx0 := tx6_3v535) (tx1 := t1355) (tx2 := t1357)  (hp := fun r_3v584 zr_3v584 tr_3v584 => ?_)
                    refine ⟨vp_of tx4_2v583 (by omega) (by omega), ?_⟩
                    intro w_5v588 ew_5v588
                    have hIw_5v588 := ixs_A hI ew_5v588 (by have q := rl_or b; omega)
                    unfold pX7_valueOf_225
                    obtain ⟨z1358, t1359, f1360⟩ := t_add tx5 lit_1
                    first | replace f1360 := f1360 (by omega) | clear f1360
                    intro x5_1v589 ex5_1v589
                    have tx5_1v589 : Ti x5_1v589 z1358 := by rw [ex5_1v589]; exact t1359
                    have f1361 := t_rng tx5_1v589
                    exact ih _ _ _ _ _ _ _ tx3 tx4_2v583 tx5_1v589 hIw_5v588 (by omega) (by omega) (by omega) (by omega)
                · replace c1342 := c_nlt tx4 lit_0 c1342
                  refine ⟨vp_of tx4 (by omega) (by omega), ?_⟩
                  obtain ⟨z1362, t1363⟩ := t_any (w.2.1 ((rl b) + 13) x4.toNatClampNeg)
                  refine ⟨fun c1364 => ?_, fun c1364 => ?_⟩
                  · replace c1364 := c_neq t1363 lit_0 c1364
                    unfold pX7_valueOf_184
                    refine ⟨vp_of tx4 (by omega) (by omega), ?_⟩
                    intro w_1v590 ew_1v590
                    have hIw_1v590 := ixs_A hI ew_1v590 (by have q := rl_or b; omega)
                    unfold pX7_valueOf_225
                    obtain ⟨z1365, t1366, f1367⟩ := t_add tx5 lit_1
                    first | replace f1367 := f1367 (by omega) | clear f1367
                    intro x5_1v591 ex5_1v591
                    have tx5_1v591 : Ti x5_1v591 z1365 := by rw [ex5_1v591]; exact t1366
                    have f1368 := t_rng tx5_1v591
                    exact ih _ _ _ _ _ _ _ tx3 tx4 tx5_1v591 hIw_1v590 (by omega) (by omega) (by omega) (by omega)
                  · replace c1364 := c_eq t1363 lit_0 c1364
                    unfold pX7_valueOf_184
                    refine ⟨vp_of tx4 (by omega) (by omega), ?_⟩
                    intro w_1v592 ew_1v592
                    have hIw_1v592 := ixs_A hI ew_1v592 (by have q := rl_or b; omega)
                    unfold pX7_valueOf_225
                    obtain ⟨z1369, t1370, f1371⟩ := t_add tx5 lit_1
                    first | replace f1371 := f1371 (by omega) | clear f1371
                    intro x5_1v593 ex5_1v593
                    have tx5_1v593 : Ti x5_1v593 z1369 := by rw [ex5_1v593]; exact t1370
                    have f1372 := t_rng tx5_1v593
                    exact ih _ _ _ _ _ _ _ tx3 tx4 tx5_1v593 hIw_1v592 (by omega) (by omega) (by omega) (by omega)
            · replace c1321 := c_nle t1319 tx4 c1321
              obtain ⟨z1373, t1374, f1375⟩ := t_add tx4 lit_1
              first | replace f1375 := f1375 (by omega) | clear f1375
              intro x4_4v538 ex4_4v538
              have tx4_4v538 : Ti x4_4v538 z1373 := by rw [ex4_4v538]; exact t1374
              refine ⟨vp_of tx6_3v535 (by omega) (by omega), ?_⟩
              refine ⟨vp_of tx4_4v538 (by omega) (by omega), ?_⟩
              intro w_5v539 ew_5v539
              have hIw_5v539 := ixs_A hI ew_5v539 (by have q := rl_or b; omega)
              unfold pX7_valueOf_225
              obtain ⟨z1376, t1377, f1378⟩ := t_add tx5 lit_1
              first | replace f1378 := f1378 (by omega) | clear f1378
              intro x5_1v594 ex5_1v594
              have tx5_1v594 : Ti x5_1v594 z1376 := by rw [ex5_1v594]; exact t1377
              have f1379 := t_rng tx5_1v594
              exact ih _ _ _ _ _ _ _ tx3 tx4_4v538 tx5_1v594 hIw_5v539 (by omega) (by omega) (by omega) (by omega)
      · replace c1213 := c_nlt tx6_3v535 lit_128 c1213
        obtain ⟨z1380, t1381, f1382⟩ := t_sub lit_32 lit_1
        first | replace f1382 := f1382 (by omega) | clear f1382
        refine ⟨fun c1383 => ?_, fun c1383 => ?_⟩
        · replace c1383 := c_le t1381 tx4 c1383
          unfold pX7_valueOf_110
          refine ⟨fun c1384 => ?_, fun c1384 => ?_⟩
          · replace c1384 := c_lt tx6_3v535 lit_0 c1384
            unfold pX7_valueOf_151
            refine ⟨fun c1385 => ?_, fun c1385 => ?_⟩
            · replace c1385 := c_neq tx6_3v535 lit_16 c1385
              unfold pX7_valueOf_188
              refine ⟨fun c1386 => ?_, fun c1386 => ?_⟩
              · replace c1386 := c_lt tx4 lit_1 c1386
                unfold pX7_valueOf_225
                obtain ⟨z1387, t1388, f1389⟩ := t_add tx5 lit_1
                first | replace f1389 := f1389 (by omega) | clear f1389
                intro x5_1v601 ex5_1v601
                have tx5_1v601 : Ti x5_1v601 z1387 := by rw [ex5_1v601]; exact t1388
                have f1390 := t_rng tx5_1v601
                exact ih _ _ _ _ _ _ _ tx3 tx4 tx5_1v601 hI (by omega) (by omega) (by omega) (by omega)
              · replace c1386 := c_nlt tx4 lit_1 c1386
                obtain ⟨z1391, t1392, f1393⟩ := t_add tx4 lit_m1
                first | replace f1393 := f1393 (by omega) | clear f1393
                intro x4_2v597 ex4_2v597
                have tx4_2v597 : Ti x4_2v597 z1391 := by rw [ex4_2v597]; exact t1392
                refine ⟨vp_of tx4_2v597 (by omega) (by omega), ?_⟩
                obtain ⟨z1394, t1395, f1396⟩ := t_add tx4_2v597 lit_1
                first | replace f1396 := f1396 (by omega) | clear f1396
                refine ⟨vp_of t1395 (by omega) (by omega), ?_⟩
                obtain ⟨z1397, t1398⟩ := t_any (w.2.1 ((rl b) + 13) x4_2v597.toNatClampNeg)
                obtain ⟨z1399, t1400⟩ := t_any (w.2.1 ((rl b) + 13) (x4_2v597 + (1 : Int32)).toNatClampNeg)
                refine sX7_join   (hI := hI) (tx0 := tx6_3v535) (tx1 := t1398) (tx2 := t1400)  (hp := fun r_3v598 zr_3v598 tr_3v598 => ?_)
                refine ⟨vp_of tx4_2v597 (by omega) (by omega), ?_⟩
                intro w_5v602 ew_5v602
                have hIw_5v602 := ixs_A hI ew_5v602 (by have q := rl_or b; omega)
                unfold pX7_valueOf_225
                obtain ⟨z1401, t1402, f1403⟩ := t_add tx5 lit_1
                first | replace f1403 := f1403 (by omega) | clear f1403
                intro x5_1v603 ex5_1v603
                have tx5_1v603 : Ti x5_1v603 z1401 := by rw [ex5_1v603]; exact t1402
                have f1404 := t_rng tx5_1v603
                exact ih _ _ _ _ _ _ _ tx3 tx4_2v597 tx5_1v603 hIw_5v602 (by omega) (by omega) (by omega) (by omega)
            · replace c1385 := c_eq tx6_3v535 lit_16 c1385
              refine ⟨fun c1405 => ?_, fun c1405 => ?_⟩
              · replace c1405 := c_lt tx4 lit_0 c1405
                unfold pX7_valueOf_188
                refine ⟨fun c1406 => ?_, fun c1406 => ?_⟩
                · replace c1406 := c_lt tx4 lit_1 c1406
                  unfold pX7_valueOf_225
                  obtain ⟨z1407, t1408, f1409⟩ := t_add tx5 lit_1
                  first | replace f1409 := f1409 (by omega) | clear f1409
                  intro x5_1v608 ex5_1v608
                  have tx5_1v608 : Ti x5_1v608 z1407 := by rw [ex5_1v608]; exact t1408
                  have f1410 := t_rng tx5_1v608
                  exact ih _ _ _ _ _ _ _ tx3 tx4 tx5_1v608 hI (by omega) (by omega) (by omega) (by omega)
                · replace c1406 := c_nlt tx4 lit_1 c1406
                  obtain ⟨z1411, t1412, f1413⟩ := t_add tx4 lit_m1
                  first | replace f1413 := f1413 (by omega) | clear f1413
                  intro x4_2v604 ex4_2v604
                  have tx4_2v604 : Ti x4_2v604 z1411 := by rw [ex4_2v604]; exact t1412
                  refine ⟨vp_of tx4_2v604 (by omega) (by omega), ?_⟩
                  obtain ⟨z1414, t1415, f1416⟩ := t_add tx4_2v604 lit_1
                  first | replace f1416 := f1416 (by omega) | clear f1416
                  refine ⟨vp_of t1415 (by omega) (by omega), ?_⟩
                  obtain ⟨z1417, t1418⟩ := t_any (w.2.1 ((rl b) + 13) x4_2v604.toNatClampNeg)
                  obtain ⟨z1419, t1420⟩ := t_any (w.2.1 ((rl b) + 13) (x4_2v604 + (1 : Int32)).toNatClampNeg)
                  refine sX7_join   (hI := hI) (tx0 := tx6_3v535) (tx1 := t1418) (tx2 := t1420)  (hp := fun r_3v605 zr_3v605 tr_3v605 => ?_)
                  refine ⟨vp_of tx4_2v604 (by omega) (by omega), ?_⟩
                  intro w_5v609 ew_5v609
                  have hIw_5v609 := ixs_A hI ew_5v609 (by have q := rl_or b; omega)
                  unfold pX7_valueOf_225
                  obtain ⟨z1421, t1422, f1423⟩ := t_add tx5 lit_1
                  first | replace f1423 := f1423 (by omega) | clear f1423
                  intro x5_1v610 ex5_1v610
                  have tx5_1v610 : Ti x5_1v610 z1421 := by rw [ex5_1v610]; exact t1422
                  have f1424 := t_rng tx5_1v610
                  exact ih _ _ _ _ _ _ _ tx3 tx4_2v604 tx5_1v610 hIw_5v609 (by omega) (by omega) (by omega) (by omega)
              · replace c1405 := c_nlt tx4 lit_0 c1405
                refine ⟨vp_of tx4 (by omega) (by omega), ?_⟩
                obtain ⟨z1425, t1426⟩ := t_any (w.2.1 ((rl b) + 13) x4.toNatClampNeg)
                refine ⟨fun c1427 => ?_, fun c1427 => ?_⟩
                · replace c1427 := c_neq t1426 lit_0 c1427
                  unfold pX7_valueOf_184
                  refine ⟨vp_of tx4 (by omega) (by omega), ?_⟩
                  intro w_1v611 ew_1v611
                  have hIw_1v611 := ixs_A hI ew_1v611 (by have q := rl_or b; omega)
                  unfold pX7_valueOf_225
                  obtain ⟨z1428, t1429, f1430⟩ := t_add tx5 lit_1
                  first | replace f1430 := f1430 (by omega) | clear f1430
                  intro x5_1v612 ex5_1v612
                  have tx5_1v612 : Ti x5_1v612 z1428 := by rw [ex5_1v612]; exact t1429
                  have f1431 := t_rng tx5_1v612
                  exact ih _ _ _ _ _ _ _ tx3 tx4 tx5_1v612 hIw_1v611 (by omega) (by omega) (by omega) (by omega)
                · replace c1427 := c_eq t1426 lit_0 c1427
                  unfold pX7_valueOf_184
                  refine ⟨vp_of tx4 (by omega) (by omega), ?_⟩
                  intro w_1v613 ew_1v613
                  have hIw_1v613 := ixs_A hI ew_1v613 (by have q := rl_or b; omega)
                  unfold pX7_valueOf_225
                  obtain ⟨z1432, t1433, f1434⟩ := t_add tx5 lit_1
                  first | replace f1434 := f1434 (by omega) | clear f1434
                  intro x5_1v614 ex5_1v614
                  have tx5_1v614 : Ti x5_1v614 z1432 := by rw [ex5_1v614]; exact t1433
                  have f1435 := t_rng tx5_1v614
                  exact ih _ _ _ _ _ _ _ tx3 tx4 tx5_1v614 hIw_1v613 (by omega) (by omega) (by omega) (by omega)
          · replace c1384 := c_nlt tx6_3v535 lit_0 c1384
            refine ⟨fun c1436 => ?_, fun c1436 => ?_⟩
            · replace c1436 := c_le lit_8 tx6_3v535 c1436
              unfold pX7_valueOf_151
              refine ⟨fun c1437 => ?_, fun c1437 => ?_⟩
              · replace c1437 := c_neq tx6_3v535 lit_16 c1437
                unfold pX7_valueOf_188
                refine ⟨fun c1438 => ?_, fun c1438 => ?_⟩
                · replace c1438 := c_lt tx4 lit_1 c1438
                  unfold pX7_valueOf_225
                  obtain ⟨z1439, t1440, f1441⟩ := t_add tx5 lit_1
                  first | replace f1441 := f1441 (by omega) | clear f1441
                  intro x5_1v619 ex5_1v619
                  have tx5_1v619 : Ti x5_1v619 z1439 := by rw [ex5_1v619]; exact t1440
                  have f1442 := t_rng tx5_1v619
                  exact ih _ _ _ _ _ _ _ tx3 tx4 tx5_1v619 hI (by omega) (by omega) (by omega) (by omega)
                · replace c1438 := c_nlt tx4 lit_1 c1438
                  obtain ⟨z1443, t1444, f1445⟩ := t_add tx4 lit_m1
                  first | replace f1445 := f1445 (by omega) | clear f1445
                  intro x4_2v615 ex4_2v615
                  have tx4_2v615 : Ti x4_2v615 z1443 := by rw [ex4_2v615]; exact t1444
                  refine ⟨vp_of tx4_2v615 (by omega) (by omega), ?_⟩
                  obtain ⟨z1446, t1447, f1448⟩ := t_add tx4_2v615 lit_1
                  first | replace f1448 := f1448 (by omega) | clear f1448
                  refine ⟨vp_of t1447 (by omega) (by omega), ?_⟩
                  obtain ⟨z1449, t1450⟩ := t_any (w.2.1 ((rl b) + 13) x4_2v615.toNatClampNeg)
                  obtain ⟨z1451, t1452⟩ := t_any (w.2.1 ((rl b) + 13) (x4_2v615 + (1 : Int32)).toNatClampNeg)
                  refine sX7_join   (hI := hI) (tx0 := tx6_3v535) (tx1 := t1450) (tx2 := t1452)  (hp := fun r_3v616 zr_3v616 tr_3v616 => ?_)
                  refine ⟨vp_of tx4_2v615 (by omega) (by omega), ?_⟩
                  intro w_5v620 ew_5v620
                  have hIw_5v620 := ixs_A hI ew_5v620 (by have q := rl_or b; omega)
                  unfold pX7_valueOf_225
                  obtain ⟨z1453, t1454, f1455⟩ := t_add tx5 lit_1
                  first | replace f1455 := f1455 (by omega) | clear f1455
                  intro x5_1v621 ex5_1v621
                  have tx5_1v621 : Ti x5_1v621 z1453 := by rw [ex5_1v621]; exact t1454
                  have f1456 := t_rng tx5_1v621
                  exact ih _ _ _ _ _ _ _ tx3 tx4_2v615 tx5_1v621 hIw_5v620 (by omega) (by omega) (by omega) (by omega)
              · replace c1437 := c_eq tx6_3v535 lit_16 c1437
                refine ⟨fun c1457 => ?_, fun c1457 => ?_⟩
                · replace c1457 := c_lt tx4 lit_0 c1457
                  unfold pX7_valueOf_188
                  refine ⟨fun c1458 => ?_, fun c1458 => ?_⟩
                  · replace c1458 := c_lt tx4 lit_1 c1458
                    unfold pX7_valueOf_225
                    obtain ⟨z1459, t1460, f1461⟩ := t_add tx5 lit_1
                    first | replace f1461 := f1461 (by omega) | clear f1461
                    intro x5_1v626 ex5_1v626
                    have tx5_1v626 : Ti x5_1v626 z1459 := by rw [ex5_1v626]; exact t1460
                    have f1462 := t_rng tx5_1v626
                    exact ih _ _ _ _ _ _ _ tx3 tx4 tx5_1v626 hI (by omega) (by omega) (by omega) (by omega)
                  · replace c1458 := c_nlt tx4 lit_1 c1458
                    obtain ⟨z1463, t1464, f1465⟩ := t_add tx4 lit_m1
                    first | replace f1465 := f1465 (by omega) | clear f1465
                    intro x4_2v622 ex4_2v622
                    have tx4_2v622 : Ti x4_2v622 z1463 := by rw [ex4_2v622]; exact t1464
                    refine ⟨vp_of tx4_2v622 (by omega) (by omega), ?_⟩
                    obtain ⟨z1466, t1467, f1468⟩ := t_add tx4_2v622 lit_1
                    first | replace f1468 := f1468 (by omega) | clear f1468
                    refine ⟨vp_of t1467 (by omega) (by omega), ?_⟩
                    obtain ⟨z1469, t1470⟩ := t_any (w.2.1 ((rl b) + 13) x4_2v622.toNatClampNeg)
                    obtain ⟨z1471, t1472⟩ := t_any (w.2.1 ((rl b) + 13) (x4_2v622 + (1 : Int32)).toNatClampNeg)
                    refine sX7_join   (hI := hI) (tx0 := tx6_3v535) (tx1 := t1470) (tx2 := t1472)  (hp := fun r_3v623 zr_3v623 tr_3v623 => ?_)
                    refine ⟨vp_of tx4_2v622 (by omega) (by omega), ?_⟩
                    intro w_5v627 ew_5v627
                    have hIw_5v627 := ixs_A hI ew_5v627 (by have q := rl_or b; omega)
                    unfold pX7_valueOf_225
                    obtain ⟨z1473, t1474, f1475⟩ := t_add tx5 lit_1
                    first | replace f1475 := f1475 (by omega) | clear f1475
                    intro x5_1v628 ex5_1v628
                    have tx5_1v628 : Ti x5_1v628 z1473 := by rw [ex5_1v628]; exact t1474
                    have f1476 := t_rng tx5_1v628
                    exact ih _ _ _ _ _ _ _ tx3 tx4_2v622 tx5_1v628 hIw_5v627 (by omega) (by omega) (by omega) (by omega)
                · replace c1457 := c_nlt tx4 lit_0 c1457
                  refine ⟨vp_of tx4 (by omega) (by omega), ?_⟩
                  obtain ⟨z1477, t1478⟩ := t_any (w.2.1 ((rl b) + 13) x4.toNatClampNeg)
                  refine ⟨fun c1479 => ?_, fun c1479 => ?_⟩
                  · replace c1479 := c_neq t1478 lit_0 c1479
                    unfold pX7_valueOf_184
                    refine ⟨vp_of tx4 (by omega) (by omega), ?_⟩
                    intro w_1v629 ew_1v629
                    have hIw_1v629 := ixs_A hI ew_1v629 (by have q := rl_or b; omega)
                    unfold pX7_valueOf_225
                    obtain ⟨z1480, t1481, f1482⟩ := t_add tx5 lit_1
                    first | replace f1482 := f1482 (by omega) | clear f1482
                    intro x5_1v630 ex5_1v630
                    have tx5_1v630 : Ti x5_1v630 z1480 := by rw [ex5_1v630]; exact t1481
                    have f1483 := t_rng tx5_1v630
                    exact ih _ _ _ _ _ _ _ tx3 tx4 tx5_1v630 hIw_1v629 (by omega) (by omega) (by omega) (by omega)
                  · replace c1479 := c_eq t1478 lit_0 c1479
                    unfold pX7_valueOf_184
                    refine ⟨vp_of tx4 (by omega) (by omega), ?_⟩
                    intro w_1v631 ew_1v631
                    have hIw_1v631 := ixs_A hI ew_1v631 (by have q := rl_or b; omega)
                    unfold pX7_valueOf_225
                    obtain ⟨z1484, t1485, f1486⟩ := t_add tx5 lit_1
                    first | replace f1486 := f1486 (by omega) | clear f1486
                    intro x5_1v632 ex5_1v632
                    have tx5_1v632 : Ti x5_1v632 z1484 := by rw [ex5_1v632]; exact t1485
                    have f1487 := t_rng tx5_1v632
                    exact ih _ _ _ _ _ _ _ tx3 tx4 tx5_1v632 hIw_1v631 (by omega) (by omega) (by omega) (by omega)
            · replace c1436 := c_nle lit_8 tx6_3v535 c1436
              refine ⟨fun c1488 => ?_, fun c1488 => ?_⟩
              · replace c1488 := c_le t1381 tx4 c1488
                unfold pX7_valueOf_151
                refine ⟨fun c1489 => ?_, fun c1489 => ?_⟩
                · replace c1489 := c_neq tx6_3v535 lit_16 c1489
                  unfold pX7_valueOf_188
                  refine ⟨fun c1490 => ?_, fun c1490 => ?_⟩
                  · replace c1490 := c_lt tx4 lit_1 c1490
                    unfold pX7_valueOf_225
                    obtain ⟨z1491, t1492, f1493⟩ := t_add tx5 lit_1
                    first | replace f1493 := f1493 (by omega) | clear f1493
                    intro x5_1v637 ex5_1v637
                    have tx5_1v637 : Ti x5_1v637 z1491 := by rw [ex5_1v637]; exact t1492
                    have f1494 := t_rng tx5_1v637
                    exact ih _ _ _ _ _ _ _ tx3 tx4 tx5_1v637 hI (by omega) (by omega) (by omega) (by omega)
                  · replace c1490 := c_nlt tx4 lit_1 c1490
                    obtain ⟨z1495, t1496, f1497⟩ := t_add tx4 lit_m1
                    first | replace f1497 := f1497 (by omega) | clear f1497
                    intro x4_2v633 ex4_2v633
                    have tx4_2v633 : Ti x4_2v633 z1495 := by rw [ex4_2v633]; exact t1496
                    refine ⟨vp_of tx4_2v633 (by omega) (by omega), ?_⟩
                    obtain ⟨z1498, t1499, f1500⟩ := t_add tx4_2v633 lit_1
                    first | replace f1500 := f1500 (by omega) | clear f1500
                    refine ⟨vp_of t1499 (by omega) (by omega), ?_⟩
                    obtain ⟨z1501, t1502⟩ := t_any (w.2.1 ((rl b) + 13) x4_2v633.toNatClampNeg)
                    obtain ⟨z1503, t1504⟩ := t_any (w.2.1 ((rl b) + 13) (x4_2v633 + (1 : Int32)).toNatClampNeg)
                    refine sX7_join   (hI := hI) (tx0 := tx6_3v535) (tx1 := t1502) (tx2 := t1504)  (hp := fun r_3v634 zr_3v634 tr_3v634 => ?_)
                    refine ⟨vp_of tx4_2v633 (by omega) (by omega), ?_⟩
                    intro w_5v638 ew_5v638
                    have hIw_5v638 := ixs_A hI ew_5v638 (by have q := rl_or b; omega)
                    unfold pX7_valueOf_225
                    obtain ⟨z1505, t1506, f1507⟩ := t_add tx5 lit_1
                    first | replace f1507 := f1507 (by omega) | clear f1507
                    intro x5_1v639 ex5_1v639
                    have tx5_1v639 : Ti x5_1v639 z1505 := by rw [ex5_1v639]; exact t1506
                    have f1508 := t_rng tx5_1v639
                    exact ih _ _ _ _ _ _ _ tx3 tx4_2v633 tx5_1v639 hIw_5v638 (by omega) (by omega) (by omega) (by omega)
                · replace c1489 := c_eq tx6_3v535 lit_16 c1489
                  refine ⟨fun c1509 => ?_, fun c1509 => ?_⟩
                  · replace c1509 := c_lt tx4 lit_0 c1509
                    unfold pX7_valueOf_188
                    refine ⟨fun c1510 => ?_, fun c1510 => ?_⟩
                    · replace c1510 := c_lt tx4 lit_1 c1510
                      unfold pX7_valueOf_225
                      obtain ⟨z1511, t1512, f1513⟩ := t_add tx5 lit_1
                      first | replace f1513 := f1513 (by omega) | clear f1513
                      intro x5_1v644 ex5_1v644
                      have tx5_1v644 : Ti x5_1v644 z1511 := by rw [ex5_1v644]; exact t1512
                      have f1514 := t_rng tx5_1v644
                      exact ih _ _ _ _ _ _ _ tx3 tx4 tx5_1v644 hI (by omega) (by omega) (by omega) (by omega)
                    · replace c1510 := c_nlt tx4 lit_1 c1510
                      obtain ⟨z1515, t1516, f1517⟩ := t_add tx4 lit_m1
                      first | replace f1517 := f1517 (by omega) | clear f1517
                      intro x4_2v640 ex4_2v640
                      have tx4_2v640 : Ti x4_2v640 z1515 := by rw [ex4_2v640]; exact t1516
                      refine ⟨vp_of tx4_2v640 (by omega) (by omega), ?_⟩
                      obtain ⟨z1518, t1519, f1520⟩ := t_add tx4_2v640 lit_1
                      first | replace f1520 := f1520 (by omega) | clear f1520
                      refine ⟨vp_of t1519 (by omega) (by omega), ?_⟩
                      obtain ⟨z1521, t1522⟩ := t_any (w.2.1 ((rl b) + 13) x4_2v640.toNatClampNeg)
                      obtain ⟨z1523, t1524⟩ := t_any (w.2.1 ((rl b) + 13) (x4_2v640 + (1 : Int32)).toNatClampNeg)
                      refine sX7_join   (hI := hI) (tx0 := tx6_3v535) (tx1 := t1522) (tx2 := t1524)  (hp := fun r_3v641 zr_3v641 tr_3v641 => ?_)
                      refine ⟨vp_of tx4_2v640 (by omega) (by omega), ?_⟩
                      intro w_5v645 ew_5v645
                      have hIw_5v645 := ixs_A hI ew_5v645 (by have q := rl_or b; omega)
                      unfold pX7_valueOf_225
                      obtain ⟨z1525, t1526, f1527⟩ := t_add tx5 lit_1
                      first | replace f1527 := f1527 (by omega) | clear f1527
                      intro x5_1v646 ex5_1v646
                      have tx5_1v646 : Ti x5_1v646 z1525 := by rw [ex5_1v646]; exact t1526
                      have f1528 := t_rng tx5_1v646
                      exact ih _ _ _ _ _ _ _ tx3 tx4_2v640 tx5_1v646 hIw_5v645 (by omega) (by omega) (by omega) (by omega)
                  · replace c1509 := c_nlt tx4 lit_0 c1509
                    refine ⟨vp_of tx4 (by omega) (by omega), ?_⟩
                    obtain ⟨z1529, t1530⟩ := t_any (w.2.1 ((rl b) + 13) x4.toNatClampNeg)
                    refine ⟨fun c1531 => ?_, fun c1531 => ?_⟩
                    · replace c1531 := c_neq t1530 lit_0 c1531
                      unfold pX7_valueOf_184
                      refine ⟨vp_of tx4 (by omega) (by omega), ?_⟩
                      intro w_1v647 ew_1v647
                      have hIw_1v647 := ixs_A hI ew_1v647 (by have q := rl_or b; omega)
                      unfold pX7_valueOf_225
                      obtain ⟨z1532, t1533, f1534⟩ := t_add tx5 lit_1
                      first | replace f1534 := f1534 (by omega) | clear f1534
                      intro x5_1v648 ex5_1v648
                      have tx5_1v648 : Ti x5_1v648 z1532 := by rw [ex5_1v648]; exact t1533
                      have f1535 := t_rng tx5_1v648
                      exact ih _ _ _ _ _ _ _ tx3 tx4 tx5_1v648 hIw_1v647 (by omega) (by omega) (by omega) (by omega)
                    · replace c1531 := c_eq t1530 lit_0 c1531
                      unfold pX7_valueOf_184
                      refine ⟨vp_of tx4 (by omega) (by omega), ?_⟩
                      intro w_1v649 ew_1v649
                      have hIw_1v649 := ixs_A hI ew_1v649 (by have q := rl_or b; omega)
                      unfold pX7_valueOf_225
                      obtain ⟨z1536, t1537, f1538⟩ := t_add tx5 lit_1
                      first | replace f1538 := f1538 (by omega) | clear f1538
                      intro x5_1v650 ex5_1v650
                      have tx5_1v650 : Ti x5_1v650 z1536 := by rw [ex5_1v650]; exact t1537
                      have f1539 := t_rng tx5_1v650
                      exact ih _ _ _ _ _ _ _ tx3 tx4 tx5_1v650 hIw_1v649 (by omega) (by omega) (by omega) (by omega)
              · replace c1488 := c_nle t1381 tx4 c1488
                obtain ⟨z1540, t1541, f1542⟩ := t_add tx4 lit_1
                first | replace f1542 := f1542 (by omega) | clear f1542
                intro x4_4v595 ex4_4v595
                have tx4_4v595 : Ti x4_4v595 z1540 := by rw [ex4_4v595]; exact t1541
                refine ⟨vp_of tx6_3v535 (by omega) (by omega), ?_⟩
                refine ⟨vp_of tx4_4v595 (by omega) (by omega), ?_⟩
                intro w_5v596 ew_5v596
                have hIw_5v596 := ixs_A hI ew_5v596 (by have q := rl_or b; omega)
                unfold pX7_valueOf_225
                obtain ⟨z1543, t1544, f1545⟩ := t_add tx5 lit_1
                first | replace f1545 := f1545 (by omega) | clear f1545
                intro x5_1v651 ex5_1v651
                have tx5_1v651 : Ti x5_1v651 z1543 := by rw [ex5_1v651]; exact t1544
                have f1546 := t_rng tx5_1v651
                exact ih _ _ _ _ _ _ _ tx3 tx4_4v595 tx5_1v651 hIw_5v596 (by omega) (by omega) (by omega) (by omega)
        · replace c1383 := c_nle t1381 tx4 c1383
          obtain ⟨z1547, t1548, f1549⟩ := t_add tx4 lit_1
          first | replace f1549 := f1549 (by omega) | clear f1549
          intro x4_6v536 ex4_6v536
          have tx4_6v536 : Ti x4_6v536 z1547 := by rw [ex4_6v536]; exact t1548
          refine ⟨vp_of tx4_6v536 (by omega) (by omega), ?_⟩
          intro w_7v537 ew_7v537
          have hIw_7v537 := ixs_A hI ew_7v537 (by have q := rl_or b; omega)
          unfold pX7_valueOf_225
          obtain ⟨z1550, t1551, f1552⟩ := t_add tx5 lit_1
          first | replace f1552 := f1552 (by omega) | clear f1552
          intro x5_1v652 ex5_1v652
          have tx5_1v652 : Ti x5_1v652 z1550 := by rw [ex5_1v652]; exact t1551
          have f1553 := t_rng tx5_1v652
          exact ih _ _ _ _ _ _ _ tx3 tx4_6v536 tx5_1v652 hIw_7v537 (by omega) (by omega) (by omega) (by omega)
set_option maxHeartbeats 4000000 in
set_option maxRecDepth 100000 in
theorem sX7_valueOf {T D : Int} {k : Nat} {post : Int32 → Wd → Prop} {b : Bool} {x1 : Int32} {zx1 : Int} {w : Wd}  (tx1 : Ti x1 zx1) (hI : IX k T D w)  (hp : ∀ (r : Int32) (zr : Int) (w9 : Wd), Ti r zr → IX k T D w9 → post r w9) : pX7_valueOf   post b x1 w := by
  unfold pX7_valueOf
  have hk := ix_k hI
  refine ⟨fun c1554 => ?_, fun c1554 => ?_⟩
  · replace c1554 := c_lt tx1 lit_0 c1554
    exact hp _ _ _  lit_0 hI 
  · replace c1554 := c_nlt tx1 lit_0 c1554
    obtain ⟨z1555, t1556⟩ := t_any (w.1 (rl b) 11)
    refine ⟨fun c1557 => ?_, fun c1557 => ?_⟩
    · replace c1557 := c_le t1556 tx1 c1557
      exact hp _ _ _  lit_0 hI 
    · replace c1557 := c_nle t1556 tx1 c1557
      obtain ⟨z1558, t1559, f1560⟩ := t_sub lit_9 lit_1
      first | replace f1560 := f1560 (by omega) | clear f1560
      refine ⟨fun c1561 => ?_, fun c1561 => ?_⟩
      · replace c1561 := c_lt tx1 t1559 c1561
        obtain ⟨z1562, t1563, f1564⟩ := t_add tx1 lit_1
        first | replace f1564 := f1564 (by omega) | clear f1564
        refine ⟨vp_of t1563 (by omega) (by omega), ?_⟩
        obtain ⟨z1565, t1566⟩ := t_any (w.1 (rl b) 9)
        have f1567 := ixg_r9 hI t1566
        obtain ⟨z1568, t1569⟩ := t_any (w.2.1 ((rl b) + 11) (x1 + (1 : Int32)).toNatClampNeg)
        obtain ⟨z1570, t1571, f1572⟩ := t_ite t1566 t1569 t1566 t1569
        intro x3_4v653 ex3_4v653
        have tx3_4v653 : Ti x3_4v653 z1570 := by rw [ex3_4v653]; exact t1571
        refine ⟨vp_of tx1 (by omega) (by omega), ?_⟩
        obtain ⟨z1573, t1574⟩ := t_any (w.2.1 ((rl b) + 11) x1.toNatClampNeg)
        obtain ⟨z1575, t1576, f1577⟩ := t_ite t1574 lit_0 lit_0 t1574
        intro x5_5v654 ex5_5v654
        have tx5_5v654 : Ti x5_5v654 z1575 := by rw [ex5_5v654]; exact t1576
        have f1578 := t_rng tx5_5v654
        exact ⟨2147483649, sX7_valueOf_56    (hp := hp) 2147483649 _ _ _ _ _ _ _ tx3_4v653 lit_m1 tx5_5v654 hI (by omega) (by omega) (by omega) (by omega)⟩
      · replace c1561 := c_nlt tx1 t1559 c1561
        exact hp _ _ _  lit_0 hI 
set_option maxHeartbeats 4000000 in
set_option maxRecDepth 100000 in
theorem sX1_learn {T D : Int} {k : Nat} {post : Wd → Prop} {x1 : Int32} {zx1 : Int} {x2 : Int32} {zx2 : Int} {x3 : Int32} {zx3 : Int} {x4 : Int32} {zx4 : Int} {w : Wd}  (tx1 : Ti x1 zx1) (tx2 : Ti x2 zx2) (tx3 : Ti x3 zx3) (tx4 : Ti x4 zx4) (hI : IX k T D w)  (hp : ∀ (w9 : Wd), IX k T D w9 → post w9) : pX1_learn   post  x1 x2 x3 x4 w := by
  unfold pX1_learn
  have hk := ix_k hI
  intro w_1v655 ew_1v655
  have hIw_1v655 := ixs_A hI ew_1v655 (by decide)
  intro w_2v656 ew_2v656
  have hIw_2v656 := ixs_A hIw_1v655 ew_2v656 (by decide)
  intro w_3v657 ew_3v657
  have hIw_3v657 := ixs_A hIw_2v656 ew_3v657 (by decide)
  intro w_4v658 ew_4v658
  have hIw_4v658 := ixs_A hIw_3v657 ew_4v658 (by decide)
  obtain ⟨z1579, t1580⟩ := t_any (w_4v658.2.1 46 (1 : Int32).toNatClampNeg)
  refine ⟨fun c1581 => ?_, fun c1581 => ?_⟩
  · replace c1581 := c_eq t1580 lit_0 c1581
    obtain ⟨z1582, t1583, f1584⟩ := t_mul lit_2 tx1
    first | replace f1584 := f1584 (by omega) | clear f1584
    obtain ⟨z1585, t1586, f1587⟩ := t_add t1583 lit_1
    first | replace f1587 := f1587 (by omega) | clear f1587
    refine sX7_valueOf   (hI := hIw_4v658) (tx1 := t1586)  (hp := fun r_6v659 zr_6v659 w_7v660  tr_6v659 hIw_7v660  => ?_)
    refine ⟨fun c1588 => ?_, fun c1588 => ?_⟩
    · replace c1588 := c_eq tr_6v659 lit_0 c1588
      unfold pX1_learn_97
      obtain ⟨z1589, t1590, f1591⟩ := t_add tx2 tx3
      first | replace f1591 := f1591 (by omega) | clear f1591
      intro x6_1v663 ex6_1v663
      have tx6_1v663 : Ti x6_1v663 z1589 := by rw [ex6_1v663]; exact t1590
      refine ⟨fun c1592 => ?_, fun c1592 => ?_⟩
      · replace c1592 := c_lt tx6_1v663 lit_0 c1592
        exact hp  _   hIw_7v660 
      · replace c1592 := c_nlt tx6_1v663 lit_0 c1592
        refine ⟨fun c1593 => ?_, fun c1593 => ?_⟩
        · replace c1593 := c_le lit_4160 tx6_1v663 c1593
          exact hp  _   hIw_7v660 
        · replace c1593 := c_nle lit_4160 tx6_1v663 c1593
          refine ⟨vp_of tx6_1v663 (by omega) (by omega), ?_⟩
          refine ⟨vp_of tx6_1v663 (by omega) (by omega), ?_⟩
          intro w_4v664 ew_4v664
          have hIw_4v664 := ixs_A hIw_7v660 ew_4v664 (by decide)
          refine ⟨vp_of tx6_1v663 (by omega) (by omega), ?_⟩
          refine ⟨fun c1594 => ?_, fun c1594 => ?_⟩
          · replace c1594 := c_eq lit_0 lit_0 c1594
            refine ⟨vp_of tx6_1v663 (by omega) (by omega), ?_⟩
            intro w_6v665 ew_6v665
            have hIw_6v665 := ixs_A hIw_4v664 ew_6v665 (by decide)
            exact hp  _   hIw_6v665 
          · replace c1594 := c_neq lit_0 lit_0 c1594
            refine ⟨vp_of tx6_1v663 (by omega) (by omega), ?_⟩
            intro w_7v666 ew_7v666
            have hIw_7v666 := ixs_A hIw_4v664 ew_7v666 (by decide)
            exact hp  _   hIw_7v666 
    · replace c1588 := c_neq tr_6v659 lit_0 c1588
      unfold pX1_learn_97
      obtain ⟨z1595, t1596, f1597⟩ := t_add tx2 tx3
      first | replace f1597 := f1597 (by omega) | clear f1597
      intro x6_1v667 ex6_1v667
      have tx6_1v667 : Ti x6_1v667 z1595 := by rw [ex6_1v667]; exact t1596
      refine ⟨fun c1598 => ?_, fun c1598 => ?_⟩
      · replace c1598 := c_lt tx6_1v667 lit_0 c1598
        exact hp  _   hIw_7v660 
      · replace c1598 := c_nlt tx6_1v667 lit_0 c1598
        refine ⟨fun c1599 => ?_, fun c1599 => ?_⟩
        · replace c1599 := c_le lit_4160 tx6_1v667 c1599
          exact hp  _   hIw_7v660 
        · replace c1599 := c_nle lit_4160 tx6_1v667 c1599
          refine ⟨vp_of tx6_1v667 (by omega) (by omega), ?_⟩
          refine ⟨vp_of tx6_1v667 (by omega) (by omega), ?_⟩
          intro w_4v668 ew_4v668
          have hIw_4v668 := ixs_A hIw_7v660 ew_4v668 (by decide)
          refine ⟨vp_of tx6_1v667 (by omega) (by omega), ?_⟩
          refine ⟨fun c1600 => ?_, fun c1600 => ?_⟩
          · replace c1600 := c_eq lit_1 lit_0 c1600
            refine ⟨vp_of tx6_1v667 (by omega) (by omega), ?_⟩
            intro w_6v669 ew_6v669
            have hIw_6v669 := ixs_A hIw_4v668 ew_6v669 (by decide)
            exact hp  _   hIw_6v669 
          · replace c1600 := c_neq lit_1 lit_0 c1600
            refine ⟨vp_of tx6_1v667 (by omega) (by omega), ?_⟩
            intro w_7v670 ew_7v670
            have hIw_7v670 := ixs_A hIw_4v668 ew_7v670 (by decide)
            exact hp  _   hIw_7v670 
  · replace c1581 := c_neq t1580 lit_0 c1581
    obtain ⟨z1601, t1602, f1603⟩ := t_mul lit_2 tx1
    first | replace f1603 := f1603 (by omega) | clear f1603
    refine sX7_valueOf   (hI := hIw_4v658) (tx1 := t1602)  (hp := fun r_9v661 zr_9v661 w_10v662  tr_9v661 hIw_10v662  => ?_)
    refine ⟨fun c1604 => ?_, fun c1604 => ?_⟩
    · replace c1604 := c_neq tr_9v661 lit_0 c1604
      unfold pX1_learn_97
      obtain ⟨z1605, t1606, f1607⟩ := t_add tx2 tx3
      first | replace f1607 := f1607 (by omega) | clear f1607
      intro x6_1v671 ex6_1v671
      have tx6_1v671 : Ti x6_1v671 z1605 := by rw [ex6_1v671]; exact t1606
      refine ⟨fun c1608 => ?_, fun c1608 => ?_⟩
      · replace c1608 := c_lt tx6_1v671 lit_0 c1608
        exact hp  _   hIw_10v662 
      · replace c1608 := c_nlt tx6_1v671 lit_0 c1608
        refine ⟨fun c1609 => ?_, fun c1609 => ?_⟩
        · replace c1609 := c_le lit_4160 tx6_1v671 c1609
          exact hp  _   hIw_10v662 
        · replace c1609 := c_nle lit_4160 tx6_1v671 c1609
          refine ⟨vp_of tx6_1v671 (by omega) (by omega), ?_⟩
          refine ⟨vp_of tx6_1v671 (by omega) (by omega), ?_⟩
          intro w_4v672 ew_4v672
          have hIw_4v672 := ixs_A hIw_10v662 ew_4v672 (by decide)
          refine ⟨vp_of tx6_1v671 (by omega) (by omega), ?_⟩
          refine ⟨fun c1610 => ?_, fun c1610 => ?_⟩
          · replace c1610 := c_eq lit_0 lit_0 c1610
            refine ⟨vp_of tx6_1v671 (by omega) (by omega), ?_⟩
            intro w_6v673 ew_6v673
            have hIw_6v673 := ixs_A hIw_4v672 ew_6v673 (by decide)
            exact hp  _   hIw_6v673 
          · replace c1610 := c_neq lit_0 lit_0 c1610
            refine ⟨vp_of tx6_1v671 (by omega) (by omega), ?_⟩
            intro w_7v674 ew_7v674
            have hIw_7v674 := ixs_A hIw_4v672 ew_7v674 (by decide)
            exact hp  _   hIw_7v674 
    · replace c1604 := c_eq tr_9v661 lit_0 c1604
      unfold pX1_learn_97
      obtain ⟨z1611, t1612, f1613⟩ := t_add tx2 tx3
      first | replace f1613 := f1613 (by omega) | clear f1613
      intro x6_1v675 ex6_1v675
      have tx6_1v675 : Ti x6_1v675 z1611 := by rw [ex6_1v675]; exact t1612
      refine ⟨fun c1614 => ?_, fun c1614 => ?_⟩
      · replace c1614 := c_lt tx6_1v675 lit_0 c1614
        exact hp  _   hIw_10v662 
      · replace c1614 := c_nlt tx6_1v675 lit_0 c1614
        refine ⟨fun c1615 => ?_, fun c1615 => ?_⟩
        · replace c1615 := c_le lit_4160 tx6_1v675 c1615
          exact hp  _   hIw_10v662 
        · replace c1615 := c_nle lit_4160 tx6_1v675 c1615
          refine ⟨vp_of tx6_1v675 (by omega) (by omega), ?_⟩
          refine ⟨vp_of tx6_1v675 (by omega) (by omega), ?_⟩
          intro w_4v676 ew_4v676
          have hIw_4v676 := ixs_A hIw_10v662 ew_4v676 (by decide)
          refine ⟨vp_of tx6_1v675 (by omega) (by omega), ?_⟩
          refine ⟨fun c1616 => ?_, fun c1616 => ?_⟩
          · replace c1616 := c_eq lit_1 lit_0 c1616
            refine ⟨vp_of tx6_1v675 (by omega) (by omega), ?_⟩
            intro w_6v677 ew_6v677
            have hIw_6v677 := ixs_A hIw_4v676 ew_6v677 (by decide)
            exact hp  _   hIw_6v677 
          · replace c1616 := c_neq lit_1 lit_0 c1616
            refine ⟨vp_of tx6_1v675 (by omega) (by omega), ?_⟩
            intro w_7v678 ew_7v678
            have hIw_7v678 := ixs_A hIw_4v676 ew_7v678 (by decide)
            exact hp  _   hIw_7v678 
set_option maxHeartbeats 4000000 in
set_option maxRecDepth 100000 in
theorem sX1_forget_6 {T D : Int} {k : Nat} {post : Wd → Prop}   (hp : ∀ (w9 : Wd), IX k T D w9 → post w9) : ∀ (n : Nat) (x1 : Int32) (x2 : Int32) (x3 : Int32) (zx1 : Int) (zx2 : Int) (zx3 : Int) (w : Wd), Ti x1 zx1 → Ti x2 zx2 → Ti x3 zx3 → IX k T D w → (0 ≤ zx3 ∧ zx3 ≤ 2147483647) → (2147483648 - zx3) < (n : Int) → pX1_forget_6   post  n x1 x2 x3 w := by
  intro n
  induction n with
  | zero =>
    intro x1 x2 x3 zx1 zx2 zx3 w tx1 tx2 tx3 hI h0 hm
    exact absurd hm (by omega)
  | succ n ih =>
    intro x1 x2 x3 zx1 zx2 zx3 w tx1 tx2 tx3 hI h0 hm
    unfold pX1_forget_6
    have hk := ix_k hI
    obtain ⟨z1617, t1618, f1619⟩ := t_add tx1 tx2
    first | replace f1619 := f1619 (by omega) | clear f1619
    refine ⟨fun c1620 => ?_, fun c1620 => ?_⟩
    · replace c1620 := c_le t1618 tx3 c1620
      exact hp  _   hI 
    · replace c1620 := c_nle t1618 tx3 c1620
      refine ⟨fun c1621 => ?_, fun c1621 => ?_⟩
      · replace c1621 := c_le lit_4160 tx3 c1621
        exact hp  _   hI 
      · replace c1621 := c_nle lit_4160 tx3 c1621
        refine ⟨vp_of tx3 (by omega) (by omega), ?_⟩
        intro w_3v679 ew_3v679
        have hIw_3v679 := ixs_A hI ew_3v679 (by decide)
        refine ⟨vp_of tx3 (by omega) (by omega), ?_⟩
        intro w_4v680 ew_4v680
        have hIw_4v680 := ixs_A hIw_3v679 ew_4v680 (by decide)
        obtain ⟨z1622, t1623, f1624⟩ := t_add tx3 lit_1
        first | replace f1624 := f1624 (by omega) | clear f1624
        intro x3_5v681 ex3_5v681
        have tx3_5v681 : Ti x3_5v681 z1622 := by rw [ex3_5v681]; exact t1623
        have f1625 := t_rng tx3_5v681
        exact ih _ _ _ _ _ _ _ tx1 tx2 tx3_5v681 hIw_4v680 (by omega) (by omega)
set_option maxHeartbeats 4000000 in
set_option maxRecDepth 100000 in
theorem sX1_forget {T D : Int} {k : Nat} {post : Wd → Prop} {x1 : Int32} {zx1 : Int} {x2 : Int32} {zx2 : Int} {w : Wd}  (tx1 : Ti x1 zx1) (tx2 : Ti x2 zx2) (hI : IX k T D w)  (hp : ∀ (w9 : Wd), IX k T D w9 → post w9) : pX1_forget   post  x1 x2 w := by
  unfold pX1_forget
  have hk := ix_k hI
  obtain ⟨z1626, t1627, f1628⟩ := t_ite tx1 lit_0 lit_0 tx1
  intro x3_1v682 ex3_1v682
  have tx3_1v682 : Ti x3_1v682 z1626 := by rw [ex3_1v682]; exact t1627
  have f1629 := t_rng tx3_1v682
  exact ⟨2147483649, sX1_forget_6    (hp := hp) 2147483649 _ _ _ _ _ _ _ tx1 tx2 tx3_1v682 hI (by omega) (by omega)⟩
set_option maxHeartbeats 4000000 in
set_option maxRecDepth 100000 in
theorem sX7_isUsed {T D : Int} {k : Nat} {post : Int32 → Wd → Prop} {b : Bool} {x1 : Int32} {zx1 : Int} {x2 : Int32} {zx2 : Int} {w : Wd}  (tx1 : Ti x1 zx1) (tx2 : Ti x2 zx2) (hI : IX k T D w)  (hp : ∀ (r : Int32) (zr : Int), Ti r zr → ((zr = 0 ∨ zr = 1)) → post r w) : pX7_isUsed   post b x1 x2 w := by
  unfold pX7_isUsed
  have hk := ix_k hI
  refine ⟨fun c1630 => ?_, fun c1630 => ?_⟩
  · replace c1630 := c_lt tx1 lit_0 c1630
    exact hp _ _ lit_0 (by omega)
  · replace c1630 := c_nlt tx1 lit_0 c1630
    refine ⟨fun c1631 => ?_, fun c1631 => ?_⟩
    · replace c1631 := c_le lit_4 tx1 c1631
      exact hp _ _ lit_0 (by omega)
    · replace c1631 := c_nle lit_4 tx1 c1631
      refine ⟨vp_of tx1 (by omega) (by omega), ?_⟩
      obtain ⟨z1632, t1633, f1634⟩ := t_and (x := ((w.2.1 ((rl b) + 8) x1.toNatClampNeg) >>> (x2 &&& 31))) lit_1 (by decide)
      refine ⟨fun c1635 => ?_, fun c1635 => ?_⟩
      · replace c1635 := c_eq t1633 lit_0 c1635
        exact hp _ _ lit_0 (by omega)
      · replace c1635 := c_neq t1633 lit_0 c1635
        exact hp _ _ lit_1 (by omega)
set_option maxHeartbeats 4000000 in
set_option maxRecDepth 100000 in
theorem sX1_setUp {T D : Int} {k : Nat} {post : Int32 → Wd → Prop} {x1 : Int32} {zx1 : Int} {x2 : Int32} {zx2 : Int} {x3 : Int32} {zx3 : Int} {w : Wd}  (tx1 : Ti x1 zx1) (tx2 : Ti x2 zx2) (tx3 : Ti x3 zx3) (hI : IX k T D w) (h0 : 0 ≤ zx1 ∧ zx1 ≤ 3) (h1 : 0 ≤ zx2 ∧ zx2 ≤ 9) (hp : ∀ (r : Int32) (zr : Int) (w9 : Wd), Ti r zr → IX k T D w9 → (0 ≤ zr ∧ zr ≤ 4056) → post r w9) : pX1_setUp   post  x1 x2 x3 w := by
  unfold pX1_setUp
  have hk := ix_k hI
  refine sX7_isUsed   (hI := hI) (tx1 := tx1) (tx2 := lit_6)  (hp := fun r_1v683 zr_1v683 tr_1v683 p1636 => ?_)
  refine ⟨fun c1637 => ?_, fun c1637 => ?_⟩
  · replace c1637 := c_eq tr_1v683 lit_0 c1637
    unfold pX1_setUp_22
    obtain ⟨z1638, t1639, f1640⟩ := t_mul tx1 lit_10
    first | replace f1640 := f1640 (by omega) | clear f1640
    obtain ⟨z1641, t1642, f1643⟩ := t_add t1639 lit_0
    first | replace f1643 := f1643 (by omega) | clear f1643
    intro x4_1v685 ex4_1v685
    have tx4_1v685 : Ti x4_1v685 z1641 := by rw [ex4_1v685]; exact t1642
    refine sX7_isUsed   (hI := hI) (tx1 := tx1) (tx2 := lit_5)  (hp := fun r_2v686 zr_2v686 tr_2v686 p1644 => ?_)
    refine ⟨fun c1645 => ?_, fun c1645 => ?_⟩
    · replace c1645 := c_eq tr_2v686 lit_0 c1645
      unfold pX1_setUp_51
      refine sX7_isUsed   (hI := hI) (tx1 := tx1) (tx2 := lit_7)  (hp := fun r_1v688 zr_1v688 tr_1v688 p1646 => ?_)
      refine ⟨fun c1647 => ?_, fun c1647 => ?_⟩
      · replace c1647 := c_eq tr_1v688 lit_0 c1647
        unfold pX1_setUp_73
        obtain ⟨z1648, t1649, f1650⟩ := t_add lit_0 lit_0
        first | replace f1650 := f1650 (by omega) | clear f1650
        intro x5_1v690 ex5_1v690
        have tx5_1v690 : Ti x5_1v690 z1648 := by rw [ex5_1v690]; exact t1649
        refine ⟨vp_of tx4_1v685 (by omega) (by omega), ?_⟩
        obtain ⟨z1651, t1652⟩ := t_any (w.2.1 45 x4_1v685.toNatClampNeg)
        refine ⟨fun c1653 => ?_, fun c1653 => ?_⟩
        · replace c1653 := c_eq t1652 tx5_1v690 c1653
          unfold pX1_setUp_125
          intro w_1v693 ew_1v693
          have hIw_1v693 := ixs_A hI ew_1v693 (by decide)
          intro w_2v694 ew_2v694
          have hIw_2v694 := ixs_A hIw_1v693 ew_2v694 (by decide)
          intro w_3v695 ew_3v695
          have hIw_3v695 := ixs_A hIw_2v694 ew_3v695 (by decide)
          obtain ⟨z1654, t1655, f1656⟩ := t_mul tx4_1v685 lit_104
          first | replace f1656 := f1656 (by omega) | clear f1656
          exact hp _ _ _  t1655 hIw_3v695 (by omega)
        · replace c1653 := c_neq t1652 tx5_1v690 c1653
          refine sX7_isUsed   (hI := hI) (tx1 := tx1) (tx2 := lit_4)  (hp := fun r_3v691 zr_3v691 tr_3v691 p1657 => ?_)
          refine ⟨fun c1658 => ?_, fun c1658 => ?_⟩
          · replace c1658 := c_eq tr_3v691 lit_0 c1658
            unfold pX1_setUp_113
            obtain ⟨z1659, t1660, f1661⟩ := t_mul tx4_1v685 lit_104
            first | replace f1661 := f1661 (by omega) | clear f1661
            refine sX1_forget   (hI := hI) (tx1 := t1660) (tx2 := lit_8)  (hp := fun  w_1v696   hIw_1v696  => ?_)
            refine ⟨vp_of tx4_1v685 (by omega) (by omega), ?_⟩
            intro w_2v697 ew_2v697
            have hIw_2v697 := ixs_A hIw_1v696 ew_2v697 (by decide)
            unfold pX1_setUp_125
            intro w_1v698 ew_1v698
            have hIw_1v698 := ixs_A hIw_2v697 ew_1v698 (by decide)
            intro w_2v699 ew_2v699
            have hIw_2v699 := ixs_A hIw_1v698 ew_2v699 (by decide)
            intro w_3v700 ew_3v700
            have hIw_3v700 := ixs_A hIw_2v699 ew_3v700 (by decide)
            exact hp _ _ _  t1660 hIw_3v700 (by omega)
          · replace c1658 := c_neq tr_3v691 lit_0 c1658
            unfold pX1_setUp_113
            obtain ⟨z1662, t1663, f1664⟩ := t_mul tx4_1v685 lit_104
            first | replace f1664 := f1664 (by omega) | clear f1664
            refine sX1_forget   (hI := hI) (tx1 := t1663) (tx2 := lit_104)  (hp := fun  w_1v701   hIw_1v701  => ?_)
            refine ⟨vp_of tx4_1v685 (by omega) (by omega), ?_⟩
            intro w_2v702 ew_2v702
            have hIw_2v702 := ixs_A hIw_1v701 ew_2v702 (by decide)
            unfold pX1_setUp_125
            intro w_1v703 ew_1v703
            have hIw_1v703 := ixs_A hIw_2v702 ew_1v703 (by decide)
            intro w_2v704 ew_2v704
            have hIw_2v704 := ixs_A hIw_1v703 ew_2v704 (by decide)
            intro w_3v705 ew_3v705
            have hIw_3v705 := ixs_A hIw_2v704 ew_3v705 (by decide)
            exact hp _ _ _  t1663 hIw_3v705 (by omega)
      · replace c1647 := c_neq tr_1v688 lit_0 c1647
        unfold pX1_setUp_73
        obtain ⟨z1665, t1666, f1667⟩ := t_add lit_0 tx3
        first | replace f1667 := f1667 (by omega) | clear f1667
        intro x5_1v706 ex5_1v706
        have tx5_1v706 : Ti x5_1v706 z1665 := by rw [ex5_1v706]; exact t1666
        refine ⟨vp_of tx4_1v685 (by omega) (by omega), ?_⟩
        obtain ⟨z1668, t1669⟩ := t_any (w.2.1 45 x4_1v685.toNatClampNeg)
        refine ⟨fun c1670 => ?_, fun c1670 => ?_⟩
        · replace c1670 := c_eq t1669 tx5_1v706 c1670
          unfold pX1_setUp_125
          intro w_1v709 ew_1v709
          have hIw_1v709 := ixs_A hI ew_1v709 (by decide)
          intro w_2v710 ew_2v710
          have hIw_2v710 := ixs_A hIw_1v709 ew_2v710 (by decide)
          intro w_3v711 ew_3v711
          have hIw_3v711 := ixs_A hIw_2v710 ew_3v711 (by decide)
          obtain ⟨z1671, t1672, f1673⟩ := t_mul tx4_1v685 lit_104
          first | replace f1673 := f1673 (by omega) | clear f1673
          exact hp _ _ _  t1672 hIw_3v711 (by omega)
        · replace c1670 := c_neq t1669 tx5_1v706 c1670
          refine sX7_isUsed   (hI := hI) (tx1 := tx1) (tx2 := lit_4)  (hp := fun r_3v707 zr_3v707 tr_3v707 p1674 => ?_)
          refine ⟨fun c1675 => ?_, fun c1675 => ?_⟩
          · replace c1675 := c_eq tr_3v707 lit_0 c1675
            unfold pX1_setUp_113
            obtain ⟨z1676, t1677, f1678⟩ := t_mul tx4_1v685 lit_104
            first | replace f1678 := f1678 (by omega) | clear f1678
            refine sX1_forget   (hI := hI) (tx1 := t1677) (tx2 := lit_8)  (hp := fun  w_1v712   hIw_1v712  => ?_)
            refine ⟨vp_of tx4_1v685 (by omega) (by omega), ?_⟩
            intro w_2v713 ew_2v713
            have hIw_2v713 := ixs_A hIw_1v712 ew_2v713 (by decide)
            unfold pX1_setUp_125
            intro w_1v714 ew_1v714
            have hIw_1v714 := ixs_A hIw_2v713 ew_1v714 (by decide)
            intro w_2v715 ew_2v715
            have hIw_2v715 := ixs_A hIw_1v714 ew_2v715 (by decide)
            intro w_3v716 ew_3v716
            have hIw_3v716 := ixs_A hIw_2v715 ew_3v716 (by decide)
            exact hp _ _ _  t1677 hIw_3v716 (by omega)
          · replace c1675 := c_neq tr_3v707 lit_0 c1675
            unfold pX1_setUp_113
            obtain ⟨z1679, t1680, f1681⟩ := t_mul tx4_1v685 lit_104
            first | replace f1681 := f1681 (by omega) | clear f1681
            refine sX1_forget   (hI := hI) (tx1 := t1680) (tx2 := lit_104)  (hp := fun  w_1v717   hIw_1v717  => ?_)
            refine ⟨vp_of tx4_1v685 (by omega) (by omega), ?_⟩
            intro w_2v718 ew_2v718
            have hIw_2v718 := ixs_A hIw_1v717 ew_2v718 (by decide)
            unfold pX1_setUp_125
            intro w_1v719 ew_1v719
            have hIw_1v719 := ixs_A hIw_2v718 ew_1v719 (by decide)
            intro w_2v720 ew_2v720
            have hIw_2v720 := ixs_A hIw_1v719 ew_2v720 (by decide)
            intro w_3v721 ew_3v721
            have hIw_3v721 := ixs_A hIw_2v720 ew_3v721 (by decide)
            exact hp _ _ _  t1680 hIw_3v721 (by omega)
    · replace c1645 := c_neq tr_2v686 lit_0 c1645
      unfold pX1_setUp_51
      refine sX7_isUsed   (hI := hI) (tx1 := tx1) (tx2 := lit_7)  (hp := fun r_1v722 zr_1v722 tr_1v722 p1682 => ?_)
      refine ⟨fun c1683 => ?_, fun c1683 => ?_⟩
      · replace c1683 := c_eq tr_1v722 lit_0 c1683
        unfold pX1_setUp_73
        obtain ⟨z1684, t1685⟩ := t_any (w.1 160 12)
        obtain ⟨z1686, t1687, f1688⟩ := t_mul t1685 lit_100
        first | replace f1688 := f1688 (by omega) | clear f1688
        obtain ⟨z1689, t1690, f1691⟩ := t_add t1687 lit_0
        first | replace f1691 := f1691 (by omega) | clear f1691
        intro x5_1v724 ex5_1v724
        have tx5_1v724 : Ti x5_1v724 z1689 := by rw [ex5_1v724]; exact t1690
        refine ⟨vp_of tx4_1v685 (by omega) (by omega), ?_⟩
        obtain ⟨z1692, t1693⟩ := t_any (w.2.1 45 x4_1v685.toNatClampNeg)
        refine ⟨fun c1694 => ?_, fun c1694 => ?_⟩
        · replace c1694 := c_eq t1693 tx5_1v724 c1694
          unfold pX1_setUp_125
          intro w_1v727 ew_1v727
          have hIw_1v727 := ixs_A hI ew_1v727 (by decide)
          intro w_2v728 ew_2v728
          have hIw_2v728 := ixs_A hIw_1v727 ew_2v728 (by decide)
          intro w_3v729 ew_3v729
          have hIw_3v729 := ixs_A hIw_2v728 ew_3v729 (by decide)
          obtain ⟨z1695, t1696, f1697⟩ := t_mul tx4_1v685 lit_104
          first | replace f1697 := f1697 (by omega) | clear f1697
          exact hp _ _ _  t1696 hIw_3v729 (by omega)
        · replace c1694 := c_neq t1693 tx5_1v724 c1694
          refine sX7_isUsed   (hI := hI) (tx1 := tx1) (tx2 := lit_4)  (hp := fun r_3v725 zr_3v725 tr_3v725 p1698 => ?_)
          refine ⟨fun c1699 => ?_, fun c1699 => ?_⟩
          · replace c1699 := c_eq tr_3v725 lit_0 c1699
            unfold pX1_setUp_113
            obtain ⟨z1700, t1701, f1702⟩ := t_mul tx4_1v685 lit_104
            first | replace f1702 := f1702 (by omega) | clear f1702
            refine sX1_forget   (hI := hI) (tx1 := t1701) (tx2 := lit_8)  (hp := fun  w_1v730   hIw_1v730  => ?_)
            refine ⟨vp_of tx4_1v685 (by omega) (by omega), ?_⟩
            intro w_2v731 ew_2v731
            have hIw_2v731 := ixs_A hIw_1v730 ew_2v731 (by decide)
            unfold pX1_setUp_125
            intro w_1v732 ew_1v732
            have hIw_1v732 := ixs_A hIw_2v731 ew_1v732 (by decide)
            intro w_2v733 ew_2v733
            have hIw_2v733 := ixs_A hIw_1v732 ew_2v733 (by decide)
            intro w_3v734 ew_3v734
            have hIw_3v734 := ixs_A hIw_2v733 ew_3v734 (by decide)
            exact hp _ _ _  t1701 hIw_3v734 (by omega)
          · replace c1699 := c_neq tr_3v725 lit_0 c1699
            unfold pX1_setUp_113
            obtain ⟨z1703, t1704, f1705⟩ := t_mul tx4_1v685 lit_104
            first | replace f1705 := f1705 (by omega) | clear f1705
            refine sX1_forget   (hI := hI) (tx1 := t1704) (tx2 := lit_104)  (hp := fun  w_1v735   hIw_1v735  => ?_)
            refine ⟨vp_of tx4_1v685 (by omega) (by omega), ?_⟩
            intro w_2v736 ew_2v736
            have hIw_2v736 := ixs_A hIw_1v735 ew_2v736 (by decide)
            unfold pX1_setUp_125
            intro w_1v737 ew_1v737
            have hIw_1v737 := ixs_A hIw_2v736 ew_1v737 (by decide)
            intro w_2v738 ew_2v738
            have hIw_2v738 := ixs_A hIw_1v737 ew_2v738 (by decide)
            intro w_3v739 ew_3v739
            have hIw_3v739 := ixs_A hIw_2v738 ew_3v739 (by decide)
            exact hp _ _ _  t1704 hIw_3v739 (by omega)
      · replace c1683 := c_neq tr_1v722 lit_0 c1683
        unfold pX1_setUp_73
        obtain ⟨z1706, t1707⟩ := t_any (w.1 160 12)
        obtain ⟨z1708, t1709, f1710⟩ := t_mul t1707 lit_100
        first | replace f1710 := f1710 (by omega) | clear f1710
        obtain ⟨z1711, t1712, f1713⟩ := t_add t1709 tx3
        first | replace f1713 := f1713 (by omega) | clear f1713
        intro x5_1v740 ex5_1v740
        have tx5_1v740 : Ti x5_1v740 z1711 := by rw [ex5_1v740]; exact t1712
        refine ⟨vp_of tx4_1v685 (by omega) (by omega), ?_⟩
        obtain ⟨z1714, t1715⟩ := t_any (w.2.1 45 x4_1v685.toNatClampNeg)
        refine ⟨fun c1716 => ?_, fun c1716 => ?_⟩
        · replace c1716 := c_eq t1715 tx5_1v740 c1716
          unfold pX1_setUp_125
          intro w_1v743 ew_1v743
          have hIw_1v743 := ixs_A hI ew_1v743 (by decide)
          intro w_2v744 ew_2v744
          have hIw_2v744 := ixs_A hIw_1v743 ew_2v744 (by decide)
          intro w_3v745 ew_3v745
          have hIw_3v745 := ixs_A hIw_2v744 ew_3v745 (by decide)
          obtain ⟨z1717, t1718, f1719⟩ := t_mul tx4_1v685 lit_104
          first | replace f1719 := f1719 (by omega) | clear f1719
          exact hp _ _ _  t1718 hIw_3v745 (by omega)
        · replace c1716 := c_neq t1715 tx5_1v740 c1716
          refine sX7_isUsed   (hI := hI) (tx1 := tx1) (tx2 := lit_4)  (hp := fun r_3v741 zr_3v741 tr_3v741 p1720 => ?_)
          refine ⟨fun c1721 => ?_, fun c1721 => ?_⟩
          · replace c1721 := c_eq tr_3v741 lit_0 c1721
            unfold pX1_setUp_113
            obtain ⟨z1722, t1723, f1724⟩ := t_mul tx4_1v685 lit_104
            first | replace f1724 := f1724 (by omega) | clear f1724
            refine sX1_forget   (hI := hI) (tx1 := t1723) (tx2 := lit_8)  (hp := fun  w_1v746   hIw_1v746  => ?_)
            refine ⟨vp_of tx4_1v685 (by omega) (by omega), ?_⟩
            intro w_2v747 ew_2v747
            have hIw_2v747 := ixs_A hIw_1v746 ew_2v747 (by decide)
            unfold pX1_setUp_125
            intro w_1v748 ew_1v748
            have hIw_1v748 := ixs_A hIw_2v747 ew_1v748 (by decide)
            intro w_2v749 ew_2v749
            have hIw_2v749 := ixs_A hIw_1v748 ew_2v749 (by decide)
            intro w_3v750 ew_3v750
            have hIw_3v750 := ixs_A hIw_2v749 ew_3v750 (by decide)
            exact hp _ _ _  t1723 hIw_3v750 (by omega)
          · replace c1721 := c_neq tr_3v741 lit_0 c1721
            unfold pX1_setUp_113
            obtain ⟨z1725, t1726, f1727⟩ := t_mul tx4_1v685 lit_104
            first | replace f1727 := f1727 (by omega) | clear f1727
            refine sX1_forget   (hI := hI) (tx1 := t1726) (tx2 := lit_104)  (hp := fun  w_1v751   hIw_1v751  => ?_)
            refine ⟨vp_of tx4_1v685 (by omega) (by omega), ?_⟩
            intro w_2v752 ew_2v752
            have hIw_2v752 := ixs_A hIw_1v751 ew_2v752 (by decide)
            unfold pX1_setUp_125
            intro w_1v753 ew_1v753
            have hIw_1v753 := ixs_A hIw_2v752 ew_1v753 (by decide)
            intro w_2v754 ew_2v754
            have hIw_2v754 := ixs_A hIw_1v753 ew_2v754 (by decide)
            intro w_3v755 ew_3v755
            have hIw_3v755 := ixs_A hIw_2v754 ew_3v755 (by decide)
            exact hp _ _ _  t1726 hIw_3v755 (by omega)
  · replace c1637 := c_neq tr_1v683 lit_0 c1637
    unfold pX1_setUp_22
    obtain ⟨z1728, t1729, f1730⟩ := t_mul tx1 lit_10
    first | replace f1730 := f1730 (by omega) | clear f1730
    obtain ⟨z1731, t1732, f1733⟩ := t_add t1729 tx2
    first | replace f1733 := f1733 (by omega) | clear f1733
    intro x4_1v756 ex4_1v756
    have tx4_1v756 : Ti x4_1v756 z1731 := by rw [ex4_1v756]; exact t1732
    refine sX7_isUsed   (hI := hI) (tx1 := tx1) (tx2 := lit_5)  (hp := fun r_2v757 zr_2v757 tr_2v757 p1734 => ?_)
    refine ⟨fun c1735 => ?_, fun c1735 => ?_⟩
    · replace c1735 := c_eq tr_2v757 lit_0 c1735
      unfold pX1_setUp_51
      refine sX7_isUsed   (hI := hI) (tx1 := tx1) (tx2 := lit_7)  (hp := fun r_1v759 zr_1v759 tr_1v759 p1736 => ?_)
      refine ⟨fun c1737 => ?_, fun c1737 => ?_⟩
      · replace c1737 := c_eq tr_1v759 lit_0 c1737
        unfold pX1_setUp_73
        obtain ⟨z1738, t1739, f1740⟩ := t_add lit_0 lit_0
        first | replace f1740 := f1740 (by omega) | clear f1740
        intro x5_1v761 ex5_1v761
        have tx5_1v761 : Ti x5_1v761 z1738 := by rw [ex5_1v761]; exact t1739
        refine ⟨vp_of tx4_1v756 (by omega) (by omega), ?_⟩
        obtain ⟨z1741, t1742⟩ := t_any (w.2.1 45 x4_1v756.toNatClampNeg)
        refine ⟨fun c1743 => ?_, fun c1743 => ?_⟩
        · replace c1743 := c_eq t1742 tx5_1v761 c1743
          unfold pX1_setUp_125
          intro w_1v764 ew_1v764
          have hIw_1v764 := ixs_A hI ew_1v764 (by decide)
          intro w_2v765 ew_2v765
          have hIw_2v765 := ixs_A hIw_1v764 ew_2v765 (by decide)
          intro w_3v766 ew_3v766
          have hIw_3v766 := ixs_A hIw_2v765 ew_3v766 (by decide)
          obtain ⟨z1744, t1745, f1746⟩ := t_mul tx4_1v756 lit_104
          first | replace f1746 := f1746 (by omega) | clear f1746
          exact hp _ _ _  t1745 hIw_3v766 (by omega)
        · replace c1743 := c_neq t1742 tx5_1v761 c1743
          refine sX7_isUsed   (hI := hI) (tx1 := tx1) (tx2 := lit_4)  (hp := fun r_3v762 zr_3v762 tr_3v762 p1747 => ?_)
          refine ⟨fun c1748 => ?_, fun c1748 => ?_⟩
          · replace c1748 := c_eq tr_3v762 lit_0 c1748
            unfold pX1_setUp_113
            obtain ⟨z1749, t1750, f1751⟩ := t_mul tx4_1v756 lit_104
            first | replace f1751 := f1751 (by omega) | clear f1751
            refine sX1_forget   (hI := hI) (tx1 := t1750) (tx2 := lit_8)  (hp := fun  w_1v767   hIw_1v767  => ?_)
            refine ⟨vp_of tx4_1v756 (by omega) (by omega), ?_⟩
            intro w_2v768 ew_2v768
            have hIw_2v768 := ixs_A hIw_1v767 ew_2v768 (by decide)
            unfold pX1_setUp_125
            intro w_1v769 ew_1v769
            have hIw_1v769 := ixs_A hIw_2v768 ew_1v769 (by decide)
            intro w_2v770 ew_2v770
            have hIw_2v770 := ixs_A hIw_1v769 ew_2v770 (by decide)
            intro w_3v771 ew_3v771
            have hIw_3v771 := ixs_A hIw_2v770 ew_3v771 (by decide)
            exact hp _ _ _  t1750 hIw_3v771 (by omega)
          · replace c1748 := c_neq tr_3v762 lit_0 c1748
            unfold pX1_setUp_113
            obtain ⟨z1752, t1753, f1754⟩ := t_mul tx4_1v756 lit_104
            first | replace f1754 := f1754 (by omega) | clear f1754
            refine sX1_forget   (hI := hI) (tx1 := t1753) (tx2 := lit_104)  (hp := fun  w_1v772   hIw_1v772  => ?_)
            refine ⟨vp_of tx4_1v756 (by omega) (by omega), ?_⟩
            intro w_2v773 ew_2v773
            have hIw_2v773 := ixs_A hIw_1v772 ew_2v773 (by decide)
            unfold pX1_setUp_125
            intro w_1v774 ew_1v774
            have hIw_1v774 := ixs_A hIw_2v773 ew_1v774 (by decide)
            intro w_2v775 ew_2v775
            have hIw_2v775 := ixs_A hIw_1v774 ew_2v775 (by decide)
            intro w_3v776 ew_3v776
            have hIw_3v776 := ixs_A hIw_2v775 ew_3v776 (by decide)
            exact hp _ _ _  t1753 hIw_3v776 (by omega)
      · replace c1737 := c_neq tr_1v759 lit_0 c1737
        unfold pX1_setUp_73
        obtain ⟨z1755, t1756, f1757⟩ := t_add lit_0 tx3
        first | replace f1757 := f1757 (by omega) | clear f1757
        intro x5_1v777 ex5_1v777
        have tx5_1v777 : Ti x5_1v777 z1755 := by rw [ex5_1v777]; exact t1756
        refine ⟨vp_of tx4_1v756 (by omega) (by omega), ?_⟩
        obtain ⟨z1758, t1759⟩ := t_any (w.2.1 45 x4_1v756.toNatClampNeg)
        refine ⟨fun c1760 => ?_, fun c1760 => ?_⟩
        · replace c1760 := c_eq t1759 tx5_1v777 c1760
          unfold pX1_setUp_125
          intro w_1v780 ew_1v780
          have hIw_1v780 := ixs_A hI ew_1v780 (by decide)
          intro w_2v781 ew_2v781
          have hIw_2v781 := ixs_A hIw_1v780 ew_2v781 (by decide)
          intro w_3v782 ew_3v782
          have hIw_3v782 := ixs_A hIw_2v781 ew_3v782 (by decide)
          obtain ⟨z1761, t1762, f1763⟩ := t_mul tx4_1v756 lit_104
          first | replace f1763 := f1763 (by omega) | clear f1763
          exact hp _ _ _  t1762 hIw_3v782 (by omega)
        · replace c1760 := c_neq t1759 tx5_1v777 c1760
          refine sX7_isUsed   (hI := hI) (tx1 := tx1) (tx2 := lit_4)  (hp := fun r_3v778 zr_3v778 tr_3v778 p1764 => ?_)
          refine ⟨fun c1765 => ?_, fun c1765 => ?_⟩
          · replace c1765 := c_eq tr_3v778 lit_0 c1765
            unfold pX1_setUp_113
            obtain ⟨z1766, t1767, f1768⟩ := t_mul tx4_1v756 lit_104
            first | replace f1768 := f1768 (by omega) | clear f1768
            refine sX1_forget   (hI := hI) (tx1 := t1767) (tx2 := lit_8)  (hp := fun  w_1v783   hIw_1v783  => ?_)
            refine ⟨vp_of tx4_1v756 (by omega) (by omega), ?_⟩
            intro w_2v784 ew_2v784
            have hIw_2v784 := ixs_A hIw_1v783 ew_2v784 (by decide)
            unfold pX1_setUp_125
            intro w_1v785 ew_1v785
            have hIw_1v785 := ixs_A hIw_2v784 ew_1v785 (by decide)
            intro w_2v786 ew_2v786
            have hIw_2v786 := ixs_A hIw_1v785 ew_2v786 (by decide)
            intro w_3v787 ew_3v787
            have hIw_3v787 := ixs_A hIw_2v786 ew_3v787 (by decide)
            exact hp _ _ _  t1767 hIw_3v787 (by omega)
          · replace c1765 := c_neq tr_3v778 lit_0 c1765
            unfold pX1_setUp_113
            obtain ⟨z1769, t1770, f1771⟩ := t_mul tx4_1v756 lit_104
            first | replace f1771 := f1771 (by omega) | clear f1771
            refine sX1_forget   (hI := hI) (tx1 := t1770) (tx2 := lit_104)  (hp := fun  w_1v788   hIw_1v788  => ?_)
            refine ⟨vp_of tx4_1v756 (by omega) (by omega), ?_⟩
            intro w_2v789 ew_2v789
            have hIw_2v789 := ixs_A hIw_1v788 ew_2v789 (by decide)
            unfold pX1_setUp_125
            intro w_1v790 ew_1v790
            have hIw_1v790 := ixs_A hIw_2v789 ew_1v790 (by decide)
            intro w_2v791 ew_2v791
            have hIw_2v791 := ixs_A hIw_1v790 ew_2v791 (by decide)
            intro w_3v792 ew_3v792
            have hIw_3v792 := ixs_A hIw_2v791 ew_3v792 (by decide)
            exact hp _ _ _  t1770 hIw_3v792 (by omega)
    · replace c1735 := c_neq tr_2v757 lit_0 c1735
      unfold pX1_setUp_51
      refine sX7_isUsed   (hI := hI) (tx1 := tx1) (tx2 := lit_7)  (hp := fun r_1v793 zr_1v793 tr_1v793 p1772 => ?_)
      refine ⟨fun c1773 => ?_, fun c1773 => ?_⟩
      · replace c1773 := c_eq tr_1v793 lit_0 c1773
        unfold pX1_setUp_73
        obtain ⟨z1774, t1775⟩ := t_any (w.1 160 12)
        obtain ⟨z1776, t1777, f1778⟩ := t_mul t1775 lit_100
        first | replace f1778 := f1778 (by omega) | clear f1778
        obtain ⟨z1779, t1780, f1781⟩ := t_add t1777 lit_0
        first | replace f1781 := f1781 (by omega) | clear f1781
        intro x5_1v795 ex5_1v795
        have tx5_1v795 : Ti x5_1v795 z1779 := by rw [ex5_1v795]; exact t1780
        refine ⟨vp_of tx4_1v756 (by omega) (by omega), ?_⟩
        obtain ⟨z1782, t1783⟩ := t_any (w.2.1 45 x4_1v756.toNatClampNeg)
        refine ⟨fun c1784 => ?_, fun c1784 => ?_⟩
        · replace c1784 := c_eq t1783 tx5_1v795 c1784
          unfold pX1_setUp_125
          intro w_1v798 ew_1v798
          have hIw_1v798 := ixs_A hI ew_1v798 (by decide)
          intro w_2v799 ew_2v799
          have hIw_2v799 := ixs_A hIw_1v798 ew_2v799 (by decide)
          intro w_3v800 ew_3v800
          have hIw_3v800 := ixs_A hIw_2v799 ew_3v800 (by decide)
          obtain ⟨z1785, t1786, f1787⟩ := t_mul tx4_1v756 lit_104
          first | replace f1787 := f1787 (by omega) | clear f1787
          exact hp _ _ _  t1786 hIw_3v800 (by omega)
        · replace c1784 := c_neq t1783 tx5_1v795 c1784
          refine sX7_isUsed   (hI := hI) (tx1 := tx1) (tx2 := lit_4)  (hp := fun r_3v796 zr_3v796 tr_3v796 p1788 => ?_)
          refine ⟨fun c1789 => ?_, fun c1789 => ?_⟩
          · replace c1789 := c_eq tr_3v796 lit_0 c1789
            unfold pX1_setUp_113
            obtain ⟨z1790, t1791, f1792⟩ := t_mul tx4_1v756 lit_104
            first | replace f1792 := f1792 (by omega) | clear f1792
            refine sX1_forget   (hI := hI) (tx1 := t1791) (tx2 := lit_8)  (hp := fun  w_1v801   hIw_1v801  => ?_)
            refine ⟨vp_of tx4_1v756 (by omega) (by omega), ?_⟩
            intro w_2v802 ew_2v802
            have hIw_2v802 := ixs_A hIw_1v801 ew_2v802 (by decide)
            unfold pX1_setUp_125
            intro w_1v803 ew_1v803
            have hIw_1v803 := ixs_A hIw_2v802 ew_1v803 (by decide)
            intro w_2v804 ew_2v804
            have hIw_2v804 := ixs_A hIw_1v803 ew_2v804 (by decide)
            intro w_3v805 ew_3v805
            have hIw_3v805 := ixs_A hIw_2v804 ew_3v805 (by decide)
            exact hp _ _ _  t1791 hIw_3v805 (by omega)
          · replace c1789 := c_neq tr_3v796 lit_0 c1789
            unfold pX1_setUp_113
            obtain ⟨z1793, t1794, f1795⟩ := t_mul tx4_1v756 lit_104
            first | replace f1795 := f1795 (by omega) | clear f1795
            refine sX1_forget   (hI := hI) (tx1 := t1794) (tx2 := lit_104)  (hp := fun  w_1v806   hIw_1v806  => ?_)
            refine ⟨vp_of tx4_1v756 (by omega) (by omega), ?_⟩
            intro w_2v807 ew_2v807
            have hIw_2v807 := ixs_A hIw_1v806 ew_2v807 (by decide)
            unfold pX1_setUp_125
            intro w_1v808 ew_1v808
            have hIw_1v808 := ixs_A hIw_2v807 ew_1v808 (by decide)
            intro w_2v809 ew_2v809
            have hIw_2v809 := ixs_A hIw_1v808 ew_2v809 (by decide)
            intro w_3v810 ew_3v810
            have hIw_3v810 := ixs_A hIw_2v809 ew_3v810 (by decide)
            exact hp _ _ _  t1794 hIw_3v810 (by omega)
      · replace c1773 := c_neq tr_1v793 lit_0 c1773
        unfold pX1_setUp_73
        obtain ⟨z1796, t1797⟩ := t_any (w.1 160 12)
        obtain ⟨z1798, t1799, f1800⟩ := t_mul t1797 lit_100
        first | replace f1800 := f1800 (by omega) | clear f1800
        obtain ⟨z1801, t1802, f1803⟩ := t_add t1799 tx3
        first | replace f1803 := f1803 (by omega) | clear f1803
        intro x5_1v811 ex5_1v811
        have tx5_1v811 : Ti x5_1v811 z1801 := by rw [ex5_1v811]; exact t1802
        refine ⟨vp_of tx4_1v756 (by omega) (by omega), ?_⟩
        obtain ⟨z1804, t1805⟩ := t_any (w.2.1 45 x4_1v756.toNatClampNeg)
        refine ⟨fun c1806 => ?_, fun c1806 => ?_⟩
        · replace c1806 := c_eq t1805 tx5_1v811 c1806
          unfold pX1_setUp_125
          intro w_1v814 ew_1v814
          have hIw_1v814 := ixs_A hI ew_1v814 (by decide)
          intro w_2v815 ew_2v815
          have hIw_2v815 := ixs_A hIw_1v814 ew_2v815 (by decide)
          intro w_3v816 ew_3v816
          have hIw_3v816 := ixs_A hIw_2v815 ew_3v816 (by decide)
          obtain ⟨z1807, t1808, f1809⟩ := t_mul tx4_1v756 lit_104
          first | replace f1809 := f1809 (by omega) | clear f1809
          exact hp _ _ _  t1808 hIw_3v816 (by omega)
        · replace c1806 := c_neq t1805 tx5_1v811 c1806
          refine sX7_isUsed   (hI := hI) (tx1 := tx1) (tx2 := lit_4)  (hp := fun r_3v812 zr_3v812 tr_3v812 p1810 => ?_)
          refine ⟨fun c1811 => ?_, fun c1811 => ?_⟩
          · replace c1811 := c_eq tr_3v812 lit_0 c1811
            unfold pX1_setUp_113
            obtain ⟨z1812, t1813, f1814⟩ := t_mul tx4_1v756 lit_104
            first | replace f1814 := f1814 (by omega) | clear f1814
            refine sX1_forget   (hI := hI) (tx1 := t1813) (tx2 := lit_8)  (hp := fun  w_1v817   hIw_1v817  => ?_)
            refine ⟨vp_of tx4_1v756 (by omega) (by omega), ?_⟩
            intro w_2v818 ew_2v818
            have hIw_2v818 := ixs_A hIw_1v817 ew_2v818 (by decide)
            unfold pX1_setUp_125
            intro w_1v819 ew_1v819
            have hIw_1v819 := ixs_A hIw_2v818 ew_1v819 (by decide)
            intro w_2v820 ew_2v820
            have hIw_2v820 := ixs_A hIw_1v819 ew_2v820 (by decide)
            intro w_3v821 ew_3v821
            have hIw_3v821 := ixs_A hIw_2v820 ew_3v821 (by decide)
            exact hp _ _ _  t1813 hIw_3v821 (by omega)
          · replace c1811 := c_neq tr_3v812 lit_0 c1811
            unfold pX1_setUp_113
            obtain ⟨z1815, t1816, f1817⟩ := t_mul tx4_1v756 lit_104
            first | replace f1817 := f1817 (by omega) | clear f1817
            refine sX1_forget   (hI := hI) (tx1 := t1816) (tx2 := lit_104)  (hp := fun  w_1v822   hIw_1v822  => ?_)
            refine ⟨vp_of tx4_1v756 (by omega) (by omega), ?_⟩
            intro w_2v823 ew_2v823
            have hIw_2v823 := ixs_A hIw_1v822 ew_2v823 (by decide)
            unfold pX1_setUp_125
            intro w_1v824 ew_1v824
            have hIw_1v824 := ixs_A hIw_2v823 ew_1v824 (by decide)
            intro w_2v825 ew_2v825
            have hIw_2v825 := ixs_A hIw_1v824 ew_2v825 (by decide)
            intro w_3v826 ew_3v826
            have hIw_3v826 := ixs_A hIw_2v825 ew_3v826 (by decide)
            exact hp _ _ _  t1816 hIw_3v826 (by omega)
set_option maxHeartbeats 4000000 in
set_option maxRecDepth 100000 in
theorem sX1_rowAfter_112 {T D : Int} {k : Nat} {post : Int32 → Wd → Prop}   (hp : ∀ (r : Int32) (zr : Int) (w9 : Wd), Ti r zr → IX k T D w9 → post r w9) : ∀ (n : Nat) (x2 : Int32) (x7 : Int32) (x8 : Int32) (x9 : Int32) (x10 : Int32) (x11 : Int32) (zx2 : Int) (zx7 : Int) (zx8 : Int) (zx9 : Int) (zx10 : Int) (zx11 : Int) (w : Wd), Ti x2 zx2 → Ti x7 zx7 → Ti x8 zx8 → Ti x9 zx9 → Ti x10 zx10 → Ti x11 zx11 → IX k T D w → (0 ≤ zx11 ∧ zx11 ≤ 12) → (zx8 ≤ 12) → (0 ≤ zx7 ∧ zx7 ≤ 4152) → (13 - zx11) < (n : Int) → pX1_rowAfter_112   post  n x2 x7 x8 x9 x10 x11 w := by
  intro n
  induction n with
  | zero =>
    intro x2 x7 x8 x9 x10 x11 zx2 zx7 zx8 zx9 zx10 zx11 w tx2 tx7 tx8 tx9 tx10 tx11 hI h0 h1 h2 hm
    exact absurd hm (by omega)
  | succ n ih =>
    intro x2 x7 x8 x9 x10 x11 zx2 zx7 zx8 zx9 zx10 zx11 w tx2 tx7 tx8 tx9 tx10 tx11 hI h0 h1 h2 hm
    unfold pX1_rowAfter_112
    have hk := ix_k hI
    refine ⟨fun c1818 => ?_, fun c1818 => ?_⟩
    · replace c1818 := c_le tx8 tx11 c1818
      exact hp _ _ _  tx10 hI 
    · replace c1818 := c_nle tx8 tx11 c1818
      obtain ⟨z1819, t1820, f1821⟩ := t_and (x := ((x9.toUInt32 >>> (x11.toUInt32 &&& Int32.toUInt32 31)).toInt32)) lit_7 (by decide)
      intro x12_2v827 ex12_2v827
      have tx12_2v827 : Ti x12_2v827 z1819 := by rw [ex12_2v827]; exact t1820
      obtain ⟨z1822, t1823, f1824⟩ := t_shl tx11
      first | replace f1824 := f1824 (by omega) | clear f1824
      intro x13_3v828 ex13_3v828
      have tx13_3v828 : Ti x13_3v828 z1822 := by rw [ex13_3v828]; exact t1823
      obtain ⟨z1825, t1826, f1827⟩ := t_add tx7 tx12_2v827
      first | replace f1827 := f1827 (by omega) | clear f1827
      refine ⟨vp_of t1826 (by omega) (by omega), ?_⟩
      obtain ⟨z1828, t1829⟩ := t_any ((w.2.1 43 (x7 + x12_2v827).toNatClampNeg) &&& x13_3v828)
      refine ⟨fun c1830 => ?_, fun c1830 => ?_⟩
      · replace c1830 := c_neq t1829 lit_0 c1830
        unfold pX1_rowAfter_162
        refine ⟨vp_of t1826 (by omega) (by omega), ?_⟩
        obtain ⟨z1831, t1832⟩ := t_any (x10 ||| ((w.2.1 44 (x7 + x12_2v827).toNatClampNeg) &&& x13_3v828))
        intro x10_1v830 ex10_1v830
        have tx10_1v830 : Ti x10_1v830 z1831 := by rw [ex10_1v830]; exact t1832
        obtain ⟨z1833, t1834, f1835⟩ := t_add tx11 lit_1
        first | replace f1835 := f1835 (by omega) | clear f1835
        intro x11_2v831 ex11_2v831
        have tx11_2v831 : Ti x11_2v831 z1833 := by rw [ex11_2v831]; exact t1834
        exact ih _ _ _ _ _ _ _ _ _ _ _ _ _ tx2 tx7 tx8 tx9 tx10_1v830 tx11_2v831 hI (by omega) (by omega) (by omega) (by omega)
      · replace c1830 := c_eq t1829 lit_0 c1830
        refine sX1_learn   (hI := hI) (tx1 := tx2) (tx2 := tx7) (tx3 := tx12_2v827) (tx4 := tx11)  (hp := fun  w_5v829   hIw_5v829  => ?_)
        unfold pX1_rowAfter_162
        refine ⟨vp_of t1826 (by omega) (by omega), ?_⟩
        obtain ⟨z1836, t1837⟩ := t_any (x10 ||| ((w_5v829.2.1 44 (x7 + x12_2v827).toNatClampNeg) &&& x13_3v828))
        intro x10_1v832 ex10_1v832
        have tx10_1v832 : Ti x10_1v832 z1836 := by rw [ex10_1v832]; exact t1837
        obtain ⟨z1838, t1839, f1840⟩ := t_add tx11 lit_1
        first | replace f1840 := f1840 (by omega) | clear f1840
        intro x11_2v833 ex11_2v833
        have tx11_2v833 : Ti x11_2v833 z1838 := by rw [ex11_2v833]; exact t1839
        exact ih _ _ _ _ _ _ _ _ _ _ _ _ _ tx2 tx7 tx8 tx9 tx10_1v832 tx11_2v833 hIw_5v829 (by omega) (by omega) (by omega) (by omega)
set_option maxHeartbeats 4000000 in
set_option maxRecDepth 100000 in
theorem sX1_rowAfter {T D : Int} {k : Nat} {post : Int32 → Wd → Prop} {x1 : Int32} {zx1 : Int} {x2 : Int32} {zx2 : Int} {x3 : Int32} {zx3 : Int} {x4 : Int32} {zx4 : Int} {w : Wd}  (tx1 : Ti x1 zx1) (tx2 : Ti x2 zx2) (tx3 : Ti x3 zx3) (tx4 : Ti x4 zx4) (hI : IX k T D w)  (hp : ∀ (r : Int32) (zr : Int) (w9 : Wd), Ti r zr → IX k T D w9 → post r w9) : pX1_rowAfter   post  x1 x2 x3 x4 w := by
  unfold pX1_rowAfter
  have hk := ix_k hI
  refine ⟨fun c1841 => ?_, fun c1841 => ?_⟩
  · replace c1841 := c_lt tx2 lit_0 c1841
    exact hp _ _ _  tx1 hI 
  · replace c1841 := c_nlt tx2 lit_0 c1841
    obtain ⟨z1842, t1843⟩ := t_any (w.1 (rl (w.2.2.2.2 3)) 2)
    have f1844 := ixg_r2 hI t1843
    refine ⟨fun c1845 => ?_, fun c1845 => ?_⟩
    · replace c1845 := c_le t1843 tx2 c1845
      exact hp _ _ _  tx1 hI 
    · replace c1845 := c_nle t1843 tx2 c1845
      refine sX10_isHeat   (hI := hI) (tx0 := tx3)  (hp := fun r_3v834 zr_3v834 tr_3v834 p1846 => ?_)
      refine ⟨fun c1847 => ?_, fun c1847 => ?_⟩
      · replace c1847 := c_neq tr_3v834 lit_0 c1847
        obtain ⟨z1848, t1849⟩ := t_any (w.1 (rl (w.2.2.2.2 3)) 0)
        have f1850 := ixg_r0 hI t1849
        refine sX10_turn   (hI := hI) (tx0 := tx1) (tx1 := t1849)  (hp := fun r_6v846 zr_6v846 tr_6v846 => ?_)
        refine sJ6_bitCount_0f7a4   (hI := hI) (tx0 := tr_6v846)  (hp := fun r_8v856 zr_8v856 tr_8v856 p1851 => ?_)
        refine sX1_setUp   (hI := hI) (tx1 := tx2) (tx2 := tx3) (tx3 := tx4) (h0 := (by omega)) (h1 := (by omega)) (hp := fun r_10v864 zr_10v864 w_11v865  tr_10v864 hIw_11v865 p1852 => ?_)
        refine sX7_isUsed   (hI := hIw_11v865) (tx1 := tx2) (tx2 := lit_4)  (hp := fun r_12v866 zr_12v866 tr_12v866 p1853 => ?_)
        refine ⟨fun c1854 => ?_, fun c1854 => ?_⟩
        · replace c1854 := c_eq tr_12v866 lit_0 c1854
          unfold pX1_rowAfter_91
          obtain ⟨z1855, t1856⟩ := t_any (w_11v865.1 (rl (w_11v865.2.2.2.2 3)) 0)
          have f1857 := ixg_r0 hIw_11v865 t1856
          intro x8_1v872 ex8_1v872
          have tx8_1v872 : Ti x8_1v872 z1855 := by rw [ex8_1v872]; exact t1856
          obtain ⟨z1858, t1859⟩ := t_any (r_6v846 <<< ((1 : Int32) &&& 31))
          intro x9_2v873 ex9_2v873
          have tx9_2v873 : Ti x9_2v873 z1858 := by rw [ex9_2v873]; exact t1859
          exact ⟨70000, sX1_rowAfter_112    (hp := hp) 70000 _ _ _ _ _ _ _ _ _ _ _ _ _ tx2 tr_10v864 tx8_1v872 tx9_2v873 lit_0 lit_0 hIw_11v865 (by omega) (by omega) (by omega) (by omega)⟩
        · replace c1854 := c_neq tr_12v866 lit_0 c1854
          refine ⟨fun c1860 => ?_, fun c1860 => ?_⟩
          · replace c1860 := c_lt lit_12 tr_8v856 c1860
            unfold pX1_rowAfter_91
            obtain ⟨z1861, t1862⟩ := t_any (w_11v865.1 (rl (w_11v865.2.2.2.2 3)) 0)
            have f1863 := ixg_r0 hIw_11v865 t1862
            intro x8_1v874 ex8_1v874
            have tx8_1v874 : Ti x8_1v874 z1861 := by rw [ex8_1v874]; exact t1862
            obtain ⟨z1864, t1865⟩ := t_any (r_6v846 <<< ((1 : Int32) &&& 31))
            intro x9_2v875 ex9_2v875
            have tx9_2v875 : Ti x9_2v875 z1864 := by rw [ex9_2v875]; exact t1865
            exact ⟨70000, sX1_rowAfter_112    (hp := hp) 70000 _ _ _ _ _ _ _ _ _ _ _ _ _ tx2 tr_10v864 tx8_1v874 tx9_2v875 lit_0 lit_0 hIw_11v865 (by omega) (by omega) (by omega) (by omega)⟩
          · replace c1860 := c_nlt lit_12 tr_8v856 c1860
            obtain ⟨z1866, t1867, f1868⟩ := t_mul tr_8v856 lit_8
            first | replace f1868 := f1868 (by omega) | clear f1868
            obtain ⟨z1869, t1870, f1871⟩ := t_add tr_10v864 t1867
            first | replace f1871 := f1871 (by omega) | clear f1871
            intro x7_16v870 ex7_16v870
            have tx7_16v870 : Ti x7_16v870 z1869 := by rw [ex7_16v870]; exact t1870
            intro w_17v871 ew_17v871
            have hIw_17v871 := ixs_A hIw_11v865 ew_17v871 (by decide)
            unfold pX1_rowAfter_91
            obtain ⟨z1872, t1873⟩ := t_any (w_17v871.1 (rl (w_17v871.2.2.2.2 3)) 0)
            have f1874 := ixg_r0 hIw_17v871 t1873
            intro x8_1v876 ex8_1v876
            have tx8_1v876 : Ti x8_1v876 z1872 := by rw [ex8_1v876]; exact t1873
            obtain ⟨z1875, t1876⟩ := t_any (r_6v846 <<< ((1 : Int32) &&& 31))
            intro x9_2v877 ex9_2v877
            have tx9_2v877 : Ti x9_2v877 z1875 := by rw [ex9_2v877]; exact t1876
            exact ⟨70000, sX1_rowAfter_112    (hp := hp) 70000 _ _ _ _ _ _ _ _ _ _ _ _ _ tx2 tx7_16v870 tx8_1v876 tx9_2v877 lit_0 lit_0 hIw_17v871 (by omega) (by omega) (by omega) (by omega)⟩
      · replace c1847 := c_eq tr_3v834 lit_0 c1847
        exact hp _ _ _  tx1 hI 
set_option maxHeartbeats 4000000 in
set_option maxRecDepth 100000 in
theorem sX10_would {T D : Int} {k : Nat} {post : Int32 → Wd → Prop} {x1 : Int32} {zx1 : Int} {x2 : Int32} {zx2 : Int} {x3 : Int32} {zx3 : Int} {x4 : Int32} {zx4 : Int} {w : Wd}  (tx1 : Ti x1 zx1) (tx2 : Ti x2 zx2) (tx3 : Ti x3 zx3) (tx4 : Ti x4 zx4) (hI : IX k T D w)  (hp : ∀ (r : Int32) (zr : Int) (w9 : Wd), Ti r zr → IX k T D w9 → post r w9) : pX10_would   post  x1 x2 x3 x4 w := by
  unfold pX10_would
  have hk := ix_k hI
  refine sX10_isRow   (hI := hI) (tx1 := tx1)  (hp := fun r_1v878 zr_1v878 tr_1v878 p1877 => ?_)
  refine ⟨fun c1878 => ?_, fun c1878 => ?_⟩
  · replace c1878 := c_eq tr_1v878 lit_0 c1878
    exact hp _ _ _  lit_m1 hI 
  · replace c1878 := c_neq tr_1v878 lit_0 c1878
    refine sX10_isHand   (hI := hI) (tx1 := tx2)  (hp := fun r_4v886 zr_4v886 tr_4v886 p1879 => ?_)
    refine ⟨fun c1880 => ?_, fun c1880 => ?_⟩
    · replace c1880 := c_eq tr_4v886 lit_0 c1880
      exact hp _ _ _  lit_m1 hI 
    · replace c1880 := c_neq tr_4v886 lit_0 c1880
      refine sX10_isHeat   (hI := hI) (tx0 := tx3)  (hp := fun r_7v892 zr_7v892 tr_7v892 p1881 => ?_)
      refine ⟨fun c1882 => ?_, fun c1882 => ?_⟩
      · replace c1882 := c_eq tr_7v892 lit_0 c1882
        exact hp _ _ _  lit_m1 hI 
      · replace c1882 := c_neq tr_7v892 lit_0 c1882
        refine ⟨fun c1883 => ?_, fun c1883 => ?_⟩
        · replace c1883 := c_lt tx4 lit_0 c1883
          exact hp _ _ _  lit_m1 hI 
        · replace c1883 := c_nlt tx4 lit_0 c1883
          refine ⟨fun c1884 => ?_, fun c1884 => ?_⟩
          · replace c1884 := c_lt tx4 lit_100 c1884
            refine sX1_rowAfter   (hI := hI) (tx1 := tx1) (tx2 := tx2) (tx3 := tx3) (tx4 := tx4)  (hp := fun r_12v896 zr_12v896 w_13v897  tr_12v896 hIw_13v897  => ?_)
            exact hp _ _ _  tr_12v896 hIw_13v897 
          · replace c1884 := c_nlt tx4 lit_100 c1884
            exact hp _ _ _  lit_m1 hI 
set_option maxHeartbeats 4000000 in
set_option maxRecDepth 100000 in
theorem sX0_dropOldest {T D : Int} {k : Nat} {post : Wd → Prop}  {w : Wd}   (hI : IX k T D w)  (hp : ∀ (w9 : Wd), IX k T 39 w9 → post w9) : pX0_dropOldest   post   w := by
  unfold pX0_dropOldest
  have hk := ix_k hI
  intro w_1v898 ew_1v898
  have hIw_1v898 := ixs_C hI ew_1v898 (by decide)
  intro w_2v899 ew_2v899
  have hIw_2v899 := ixs_C hIw_1v898 ew_2v899 (by decide)
  intro w_3v900 ew_3v900
  have hIw_3v900 := ixs_C hIw_2v899 ew_3v900 (by decide)
  intro w_4v901 ew_4v901
  have hIw_4v901 := ixs_C hIw_3v900 ew_4v901 (by decide)
  intro w_5v902 ew_5v902
  have hIw_5v902 := ixs_C hIw_4v901 ew_5v902 (by decide)
  intro w_6v903 ew_6v903
  have hIw_6v903 := ixs_50_7 hIw_5v902 ew_6v903 lit_39 (by omega) (by omega)
  exact hp  _   hIw_6v903 
set_option maxHeartbeats 4000000 in
set_option maxRecDepth 100000 in
theorem sX2_addSeal {T D : Int} {k : Nat} {post : Wd → Prop} {x1 : Int32} {zx1 : Int} {x2 : Int32} {zx2 : Int} {x3 : Int32} {zx3 : Int} {w : Wd}  (tx1 : Ti x1 zx1) (tx2 : Ti x2 zx2) (tx3 : Ti x3 zx3) (hI : IX k T D w)  (hp : ∀ (w9 : Wd), IX k T D w9 → post w9) : pX2_addSeal   post  x1 x2 x3 w := by
  unfold pX2_addSeal
  have hk := ix_k hI
  obtain ⟨z1885, t1886⟩ := t_any (w.1 160 0)
  have f1887 := ixg_c0 hI t1886
  refine ⟨fun c1888 => ?_, fun c1888 => ?_⟩
  · replace c1888 := c_lt t1886 lit_0 c1888
    exact hp  _   hI 
  · replace c1888 := c_nlt t1886 lit_0 c1888
    refine ⟨fun c1889 => ?_, fun c1889 => ?_⟩
    · replace c1889 := c_le lit_24 t1886 c1889
      exact hp  _   hI 
    · replace c1889 := c_nle lit_24 t1886 c1889
      refine ⟨fun c1890 => ?_, fun c1890 => ?_⟩
      · replace c1890 := c_lt tx2 lit_0 c1890
        exact hp  _   hI 
      · replace c1890 := c_nlt tx2 lit_0 c1890
        refine ⟨fun c1891 => ?_, fun c1891 => ?_⟩
        · replace c1891 := c_lt tx2 t1886 c1891
          refine ⟨vp_of t1886 (by omega) (by omega), ?_⟩
          intro w_5v904 ew_5v904
          have hIw_5v904 := ixs_A hI ew_5v904 (by decide)
          have t1892 : Ti (w_5v904.1 160 0) z1885 := by rw [e1_A ew_5v904]; exact t1886
          refine ⟨vp_of t1892 (by omega) (by omega), ?_⟩
          intro w_6v905 ew_6v905
          have hIw_6v905 := ixs_A hIw_5v904 ew_6v905 (by decide)
          have t1893 : Ti (w_6v905.1 160 0) z1885 := by rw [e1_A ew_6v905]; exact t1892
          refine ⟨vp_of t1893 (by omega) (by omega), ?_⟩
          intro w_7v906 ew_7v906
          have hIw_7v906 := ixs_A hIw_6v905 ew_7v906 (by decide)
          have t1894 : Ti (w_7v906.1 160 0) z1885 := by rw [e1_A ew_7v906]; exact t1893
          refine ⟨vp_of t1894 (by omega) (by omega), ?_⟩
          intro w_8v907 ew_8v907
          have hIw_8v907 := ixs_A hIw_7v906 ew_8v907 (by decide)
          refine ⟨vp_of tx2 (by omega) (by omega), ?_⟩
          have t1895 : Ti (w_8v907.1 160 0) z1885 := by rw [e1_A ew_8v907]; exact t1894
          refine ⟨vp_of t1895 (by omega) (by omega), ?_⟩
          intro w_9v908 ew_9v908
          have hIw_9v908 := ixs_A hIw_8v907 ew_9v908 (by decide)
          intro w_10v909 ew_10v909
          have t1896 : Ti (w_9v908.1 160 0) z1885 := by rw [e1_A ew_9v908]; exact t1895
          obtain ⟨z1897, t1898, f1899⟩ := t_add t1896 lit_1
          first | replace f1899 := f1899 (by omega) | clear f1899
          have hIw_10v909 := ixs_c0 (c := 0) hIw_9v908 ew_10v909 t1898 (by omega) (by omega)
          exact hp  _   hIw_10v909 
        · replace c1891 := c_nlt tx2 t1886 c1891
          exact hp  _   hI 
set_option maxHeartbeats 4000000 in
set_option maxRecDepth 100000 in
theorem sX0_makeCast {T D : Int} {k : Nat} {post : Wd → Prop} {x1 : Int32} {zx1 : Int} {x2 : Int32} {zx2 : Int} {x3 : Int32} {zx3 : Int} {w : Wd}  (tx1 : Ti x1 zx1) (tx2 : Ti x2 zx2) (tx3 : Ti x3 zx3) (hI : IX k T D w)  (hp : ∀ (w9 : Wd), IX k T D w9 → post w9) : pX0_makeCast   post  x1 x2 x3 w := by
  unfold pX0_makeCast
  have hk := ix_k hI
  refine ⟨fun c1900 => ?_, fun c1900 => ?_⟩
  · replace c1900 := c_lt tx1 lit_0 c1900
    exact hp  _   hI 
  · replace c1900 := c_nlt tx1 lit_0 c1900
    obtain ⟨z1901, t1902⟩ := t_any (w.1 160 0)
    have f1903 := ixg_c0 hI t1902
    refine ⟨fun c1904 => ?_, fun c1904 => ?_⟩
    · replace c1904 := c_lt tx1 t1902 c1904
      intro w_3v910 ew_3v910
      have hIw_3v910 := ixs_n hI ew_3v910 (by unfold nX; omega)
      refine ⟨vp_of tx1 (by omega) (by omega), ?_⟩
      obtain ⟨z1905, t1906⟩ := t_any (w.2.1 162 x1.toNatClampNeg)
      have t1907 : Ti (w_3v910.2.1 162 x1.toNatClampNeg) z1905 := by rw [e2_I ew_3v910]; exact t1906
      obtain ⟨z1909, t1910⟩ := t_any (w.1 160 13)
      obtain ⟨z1911, t1912, f1913⟩ := t_mul t1910 lit_137
      first | replace f1913 := f1913 (by omega) | clear f1913
      obtain ⟨z1914, t1915, f1916⟩ := t_add t1912 lit_71
      first | replace f1916 := f1916 (by omega) | clear f1916
      obtain ⟨z1917, t1918, f1919⟩ := t_rem t1915 lit_1000
      first | replace f1919 := f1919 (by omega) | clear f1919
      have t1908 : Ti (w_3v910.1 160 13) z1917 := by rw [ew_3v910, sI_at]; exact t1918
      obtain ⟨z1920, t1921, f1922⟩ := t_rem t1908 lit_100
      first | replace f1922 := f1922 (by omega) | clear f1922
      refine sX1_rowAfter   (hI := hIw_3v910) (tx1 := t1907) (tx2 := tx2) (tx3 := tx3) (tx4 := t1921)  (hp := fun r_4v911 zr_4v911 w_5v912  tr_4v911 hIw_5v912  => ?_)
      refine sX2_addSeal   (hI := hIw_5v912) (tx1 := tr_4v911) (tx2 := tx1) (tx3 := tx2)  (hp := fun  w_6v913   hIw_6v913  => ?_)
      intro w_7v914 ew_7v914
      have hIw_7v914 := ixs_n hIw_6v913 ew_7v914 (by unfold nX; omega)
      exact hp  _   hIw_7v914 
    · replace c1904 := c_nlt tx1 t1902 c1904
      exact hp  _   hI 
set_option maxHeartbeats 4000000 in
set_option maxRecDepth 100000 in
theorem sX2_addPrint {T D : Int} {k : Nat} {post : Wd → Prop} {x1 : Int32} {zx1 : Int} {w : Wd}  (tx1 : Ti x1 zx1) (hI : IX k T D w)  (hp : ∀ (w9 : Wd), IX k T D w9 → post w9) : pX2_addPrint   post  x1 w := by
  unfold pX2_addPrint
  have hk := ix_k hI
  obtain ⟨z1923, t1924⟩ := t_any (w.1 160 6)
  have f1925 := ixg_c6 hI t1924
  refine ⟨fun c1926 => ?_, fun c1926 => ?_⟩
  · replace c1926 := c_lt t1924 lit_0 c1926
    exact hp  _   hI 
  · replace c1926 := c_nlt t1924 lit_0 c1926
    refine ⟨fun c1927 => ?_, fun c1927 => ?_⟩
    · replace c1927 := c_le lit_40 t1924 c1927
      exact hp  _   hI 
    · replace c1927 := c_nle lit_40 t1924 c1927
      refine ⟨fun c1928 => ?_, fun c1928 => ?_⟩
      · replace c1928 := c_lt tx1 lit_0 c1928
        exact hp  _   hI 
      · replace c1928 := c_nlt tx1 lit_0 c1928
        obtain ⟨z1929, t1930⟩ := t_any (w.1 160 0)
        have f1931 := ixg_c0 hI t1930
        refine ⟨fun c1932 => ?_, fun c1932 => ?_⟩
        · replace c1932 := c_lt tx1 t1930 c1932
          refine ⟨vp_of tx1 (by omega) (by omega), ?_⟩
          obtain ⟨z1933, t1934⟩ := t_any (w.2.1 162 x1.toNatClampNeg)
          obtain ⟨z1935, t1936⟩ := t_any (w.1 160 10)
          refine sX10_turn   (hI := hI) (tx0 := t1934) (tx1 := t1936)  (hp := fun r_5v915 zr_5v915 tr_5v915 => ?_)
          refine ⟨vp_of t1924 (by omega) (by omega), ?_⟩
          intro w_7v921 ew_7v921
          have hIw_7v921 := ixs_A hI ew_7v921 (by decide)
          have t1937 : Ti (w_7v921.1 160 6) z1923 := by rw [e1_A ew_7v921]; exact t1924
          refine ⟨vp_of t1937 (by omega) (by omega), ?_⟩
          intro w_8v922 ew_8v922
          have hIw_8v922 := ixs_A hIw_7v921 ew_8v922 (by decide)
          have t1938 : Ti (w_8v922.1 160 6) z1923 := by rw [e1_A ew_8v922]; exact t1937
          refine ⟨vp_of t1938 (by omega) (by omega), ?_⟩
          intro w_9v923 ew_9v923
          have hIw_9v923 := ixs_A hIw_8v922 ew_9v923 (by decide)
          intro w_10v924 ew_10v924
          have t1939 : Ti (w_9v923.1 160 6) z1923 := by rw [e1_A ew_9v923]; exact t1938
          obtain ⟨z1940, t1941, f1942⟩ := t_add t1939 lit_1
          first | replace f1942 := f1942 (by omega) | clear f1942
          have hIw_10v924 := ixs_c6 (c := 0) hIw_9v923 ew_10v924 t1941 (by omega) (by omega)
          exact hp  _   hIw_10v924 
        · replace c1932 := c_nlt tx1 t1930 c1932
          exact hp  _   hI 
set_option maxHeartbeats 4000000 in
set_option maxRecDepth 100000 in
theorem sX2_flip {T D : Int} {k : Nat} {post : Wd → Prop} {x1 : Int32} {zx1 : Int} {x2 : Int32} {zx2 : Int} {w : Wd}  (tx1 : Ti x1 zx1) (tx2 : Ti x2 zx2) (hI : IX k T D w)  (hp : ∀ (w9 : Wd), IX k T D w9 → post w9) : pX2_flip   post  x1 x2 w := by
  unfold pX2_flip
  have hk := ix_k hI
  refine ⟨fun c1943 => ?_, fun c1943 => ?_⟩
  · replace c1943 := c_lt tx1 lit_0 c1943
    exact hp  _   hI 
  · replace c1943 := c_nlt tx1 lit_0 c1943
    obtain ⟨z1944, t1945⟩ := t_any (w.1 160 0)
    have f1946 := ixg_c0 hI t1945
    refine ⟨fun c1947 => ?_, fun c1947 => ?_⟩
    · replace c1947 := c_le t1945 tx1 c1947
      exact hp  _   hI 
    · replace c1947 := c_nle t1945 tx1 c1947
      refine ⟨vp_of tx1 (by omega) (by omega), ?_⟩
      refine ⟨vp_of tx1 (by omega) (by omega), ?_⟩
      intro w_3v925 ew_3v925
      have hIw_3v925 := ixs_A hI ew_3v925 (by decide)
      exact hp  _   hIw_3v925 
set_option maxHeartbeats 4000000 in
set_option maxRecDepth 100000 in
theorem sX0_perform {T D : Int} {k : Nat} {post : Wd → Prop} {x1 : Int32} {zx1 : Int} {w : Wd}  (tx1 : Ti x1 zx1) (hI : IX k T D w) (h0 : 0 ≤ zx1 ∧ zx1 ≤ 39) (hp : ∀ (w9 : Wd), IX k T D w9 → post w9) : pX0_perform   post  x1 w := by
  unfold pX0_perform
  have hk := ix_k hI
  refine ⟨vp_of tx1 (by omega) (by omega), ?_⟩
  obtain ⟨z1948, t1949⟩ := t_any (w.2.1 53 x1.toNatClampNeg)
  refine ⟨fun c1950 => ?_, fun c1950 => ?_, fun c1950 => ?_, fun c1950 => ?_⟩
  · rw [show (w.2.1 53 x1.toNatClampNeg).toInt = z1948 from t1949] at c1950
    intro w_2v926 ew_2v926
    have hIw_2v926 := ixs_n hI ew_2v926 (by unfold nX; omega)
    exact hp  _   hIw_2v926 
  · rw [show (w.2.1 53 x1.toNatClampNeg).toInt = z1948 from t1949] at c1950
    refine ⟨vp_of tx1 (by omega) (by omega), ?_⟩
    refine ⟨vp_of tx1 (by omega) (by omega), ?_⟩
    refine ⟨vp_of tx1 (by omega) (by omega), ?_⟩
    obtain ⟨z1951, t1952⟩ := t_any (w.2.1 54 x1.toNatClampNeg)
    obtain ⟨z1953, t1954⟩ := t_any (w.2.1 55 x1.toNatClampNeg)
    obtain ⟨z1955, t1956⟩ := t_any (w.2.1 56 x1.toNatClampNeg)
    refine sX0_makeCast   (hI := hI) (tx1 := t1952) (tx2 := t1954) (tx3 := t1956)  (hp := fun  w_3v927   hIw_3v927  => ?_)
    exact hp  _   hIw_3v927 
  · rw [show (w.2.1 53 x1.toNatClampNeg).toInt = z1948 from t1949] at c1950
    refine ⟨vp_of tx1 (by omega) (by omega), ?_⟩
    obtain ⟨z1957, t1958⟩ := t_any (w.2.1 54 x1.toNatClampNeg)
    refine sX2_addPrint   (hI := hI) (tx1 := t1958)  (hp := fun  w_4v928   hIw_4v928  => ?_)
    intro w_5v929 ew_5v929
    have hIw_5v929 := ixs_n hIw_4v928 ew_5v929 (by unfold nX; omega)
    exact hp  _   hIw_5v929 
  · rw [show (w.2.1 53 x1.toNatClampNeg).toInt = z1948 from t1949] at c1950
    refine ⟨vp_of tx1 (by omega) (by omega), ?_⟩
    refine ⟨vp_of tx1 (by omega) (by omega), ?_⟩
    obtain ⟨z1959, t1960⟩ := t_any (w.2.1 54 x1.toNatClampNeg)
    obtain ⟨z1961, t1962⟩ := t_any (w.2.1 55 x1.toNatClampNeg)
    refine sX2_flip   (hI := hI) (tx1 := t1960) (tx2 := t1962)  (hp := fun  w_6v930   hIw_6v930  => ?_)
    exact hp  _   hIw_6v930 
set_option maxHeartbeats 4000000 in
set_option maxRecDepth 100000 in
theorem sX0_add {T D : Int} {k : Nat} {post : Wd → Prop} {x1 : Int32} {zx1 : Int} {x2 : Int32} {zx2 : Int} {x3 : Int32} {zx3 : Int} {x4 : Int32} {zx4 : Int} {w : Wd}  (tx1 : Ti x1 zx1) (tx2 : Ti x2 zx2) (tx3 : Ti x3 zx3) (tx4 : Ti x4 zx4) (hI : IX k T D w)  (hp : ∀ (w9 : Wd) (D9 : Int), IX k T D9 w9 → post w9) : pX0_add   post  x1 x2 x3 x4 w := by
  unfold pX0_add
  have hk := ix_k hI
  obtain ⟨z1963, t1964⟩ := t_any (w.1 50 7)
  have f1965 := ixg_50_7 hI t1964
  refine ⟨fun c1966 => ?_, fun c1966 => ?_⟩
  · replace c1966 := c_lt t1964 lit_40 c1966
    unfold pX0_add_13
    refine ⟨fun c1967 => ?_, fun c1967 => ?_⟩
    · replace c1967 := c_lt t1964 lit_0 c1967
      exact hp  _ _  hI 
    · replace c1967 := c_nlt t1964 lit_0 c1967
      refine ⟨fun c1968 => ?_, fun c1968 => ?_⟩
      · replace c1968 := c_lt t1964 lit_40 c1968
        refine ⟨vp_of t1964 (by omega) (by omega), ?_⟩
        intro w_3v932 ew_3v932
        have hIw_3v932 := ixs_A hI ew_3v932 (by decide)
        have t1969 : Ti (w_3v932.1 50 7) z1963 := by rw [e1_A ew_3v932]; exact t1964
        refine ⟨vp_of t1969 (by omega) (by omega), ?_⟩
        intro w_4v933 ew_4v933
        have hIw_4v933 := ixs_A hIw_3v932 ew_4v933 (by decide)
        have t1970 : Ti (w_4v933.1 50 7) z1963 := by rw [e1_A ew_4v933]; exact t1969
        refine ⟨vp_of t1970 (by omega) (by omega), ?_⟩
        intro w_5v934 ew_5v934
        have hIw_5v934 := ixs_A hIw_4v933 ew_5v934 (by decide)
        have t1971 : Ti (w_5v934.1 50 7) z1963 := by rw [e1_A ew_5v934]; exact t1970
        refine ⟨vp_of t1971 (by omega) (by omega), ?_⟩
        intro w_6v935 ew_6v935
        have hIw_6v935 := ixs_A hIw_5v934 ew_6v935 (by decide)
        have t1972 : Ti (w_6v935.1 50 7) z1963 := by rw [e1_A ew_6v935]; exact t1971
        refine ⟨vp_of t1972 (by omega) (by omega), ?_⟩
        intro w_7v936 ew_7v936
        have hIw_7v936 := ixs_A hIw_6v935 ew_7v936 (by decide)
        have t1973 : Ti (w_7v936.1 50 7) z1963 := by rw [e1_A ew_7v936]; exact t1972
        refine sX0_perform   (hI := hIw_7v936) (tx1 := t1973) (h0 := (by omega)) (hp := fun  w_8v937   hIw_8v937  => ?_)
        intro w_9v938 ew_9v938
        obtain ⟨z1974, t1975⟩ := t_any (w_8v937.1 50 7)
        have f1976 := ixg_50_7 hIw_8v937 t1975
        obtain ⟨z1977, t1978, f1979⟩ := t_add t1975 lit_1
        first | replace f1979 := f1979 (by omega) | clear f1979
        have hIw_9v938 := ixs_50_7 hIw_8v937 ew_9v938 t1978 (by omega) (by omega)
        intro w_10v939 ew_10v939
        have hIw_10v939 := ixs_n hIw_9v938 ew_10v939 (by unfold nX; omega)
        exact hp  _ _  hIw_10v939 
      · replace c1968 := c_nlt t1964 lit_40 c1968
        exact hp  _ _  hI 
  · replace c1966 := c_nlt t1964 lit_40 c1966
    refine sX0_dropOldest   (hI := hI)   (hp := fun  w_2v931   hIw_2v931  => ?_)
    unfold pX0_add_13
    obtain ⟨z1980, t1981⟩ := t_any (w_2v931.1 50 7)
    have f1982 := ixg_50_7 hIw_2v931 t1981
    refine ⟨fun c1983 => ?_, fun c1983 => ?_⟩
    · replace c1983 := c_lt t1981 lit_0 c1983
      exact hp  _ _  hIw_2v931 
    · replace c1983 := c_nlt t1981 lit_0 c1983
      refine ⟨fun c1984 => ?_, fun c1984 => ?_⟩
      · replace c1984 := c_lt t1981 lit_40 c1984
        refine ⟨vp_of t1981 (by omega) (by omega), ?_⟩
        intro w_3v940 ew_3v940
        have hIw_3v940 := ixs_A hIw_2v931 ew_3v940 (by decide)
        have t1985 : Ti (w_3v940.1 50 7) z1980 := by rw [e1_A ew_3v940]; exact t1981
        refine ⟨vp_of t1985 (by omega) (by omega), ?_⟩
        intro w_4v941 ew_4v941
        have hIw_4v941 := ixs_A hIw_3v940 ew_4v941 (by decide)
        have t1986 : Ti (w_4v941.1 50 7) z1980 := by rw [e1_A ew_4v941]; exact t1985
        refine ⟨vp_of t1986 (by omega) (by omega), ?_⟩
        intro w_5v942 ew_5v942
        have hIw_5v942 := ixs_A hIw_4v941 ew_5v942 (by decide)
        have t1987 : Ti (w_5v942.1 50 7) z1980 := by rw [e1_A ew_5v942]; exact t1986
        refine ⟨vp_of t1987 (by omega) (by omega), ?_⟩
        intro w_6v943 ew_6v943
        have hIw_6v943 := ixs_A hIw_5v942 ew_6v943 (by decide)
        have t1988 : Ti (w_6v943.1 50 7) z1980 := by rw [e1_A ew_6v943]; exact t1987
        refine ⟨vp_of t1988 (by omega) (by omega), ?_⟩
        intro w_7v944 ew_7v944
        have hIw_7v944 := ixs_A hIw_6v943 ew_7v944 (by decide)
        have t1989 : Ti (w_7v944.1 50 7) z1980 := by rw [e1_A ew_7v944]; exact t1988
        refine sX0_perform   (hI := hIw_7v944) (tx1 := t1989) (h0 := (by omega)) (hp := fun  w_8v945   hIw_8v945  => ?_)
        intro w_9v946 ew_9v946
        obtain ⟨z1990, t1991⟩ := t_any (w_8v945.1 50 7)
        have f1992 := ixg_50_7 hIw_8v945 t1991
        obtain ⟨z1993, t1994, f1995⟩ := t_add t1991 lit_1
        first | replace f1995 := f1995 (by omega) | clear f1995
        have hIw_9v946 := ixs_50_7 hIw_8v945 ew_9v946 t1994 (by omega) (by omega)
        intro w_10v947 ew_10v947
        have hIw_10v947 := ixs_n hIw_9v946 ew_10v947 (by unfold nX; omega)
        exact hp  _ _  hIw_10v947 
      · replace c1984 := c_nlt t1981 lit_40 c1984
        exact hp  _ _  hIw_2v931 
