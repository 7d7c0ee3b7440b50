set_option maxHeartbeats 4000000 in
set_option maxRecDepth 100000 in
theorem sX11_common_78 {T W H P S M : Int} {post : Int32 → Wd → Prop} {w : Wd}  (hp : ∀ (r : Int32) (zr : Int), Ti r zr → post r w) : ∀ (n : Nat) (x1 : Int32) (x2 : Int32) (x3 : Int32) (zx1 : Int) (zx2 : Int) (zx3 : Int), Ti x1 zx1 → Ti x2 zx2 → Ti x3 zx3 → IM T W H P S M w → (0 ≤ zx3 ∧ zx3 ≤ 40) → (41 - zx3) < (n : Int) → pX11_common_78   post  n x1 x2 x3 w := by
  intro n
  induction n with
  | zero =>
    intro x1 x2 x3 zx1 zx2 zx3  tx1 tx2 tx3 hI h0 hm
    exact absurd hm (by omega)
  | succ n ih =>
    intro x1 x2 x3 zx1 zx2 zx3  tx1 tx2 tx3 hI h0 hm
    unfold pX11_common_78
    have hk := im_k hI
    obtain ⟨z915, t916⟩ := t_any (w.2.1 341 (217 : Int32).toNatClampNeg)
    have f917 := img_217 hI t916
    refine ⟨fun c918 => ?_, fun c918 => ?_⟩
    · replace c918 := c_le t916 tx3 c918
      exact hp _ _ tx2 
    · replace c918 := c_nle t916 tx3 c918
      refine ⟨fun c919 => ?_, fun c919 => ?_⟩
      · replace c919 := c_neq tx1 lit_2 c919
        exact hp _ _ tx2 
      · replace c919 := c_eq tx1 lit_2 c919
        obtain ⟨z920, t921, f922⟩ := t_mul lit_3 tx3
        first | replace f922 := f922 (by omega) | clear f922
        obtain ⟨z923, t924, f925⟩ := t_add lit_96 t921
        first | replace f925 := f925 (by omega) | clear f925
        refine ⟨vp_of t924 (by omega) (by omega), ?_⟩
        obtain ⟨z926, t927⟩ := t_any (x2 &&& (w.2.1 341 ((96 : Int32) + ((3 : Int32) * x3)).toNatClampNeg))
        intro x2_3v543 ex2_3v543
        have tx2_3v543 : Ti x2_3v543 z926 := by rw [ex2_3v543]; exact t927
        obtain ⟨z928, t929, f930⟩ := t_add tx3 lit_1
        first | replace f930 := f930 (by omega) | clear f930
        intro x3_4v544 ex3_4v544
        have tx3_4v544 : Ti x3_4v544 z928 := by rw [ex3_4v544]; exact t929
        exact ih _ _ _ _ _ _  tx1 tx2_3v543 tx3_4v544 hI (by omega) (by omega)
set_option maxHeartbeats 4000000 in
set_option maxRecDepth 100000 in
theorem sX11_common_31 {T W H P S M : Int} {post : Int32 → Wd → Prop} {w : Wd}  (hp : ∀ (r : Int32) (zr : Int), Ti r zr → post r w) : ∀ (n : Nat) (x1 : Int32) (x2 : Int32) (x3 : Int32) (zx1 : Int) (zx2 : Int) (zx3 : Int), Ti x1 zx1 → Ti x2 zx2 → Ti x3 zx3 → IM T W H P S M w → (0 ≤ zx3 ∧ zx3 ≤ 24) → (25 - zx3) < (n : Int) → pX11_common_31   post  n x1 x2 x3 w := by
  intro n
  induction n with
  | zero =>
    intro x1 x2 x3 zx1 zx2 zx3  tx1 tx2 tx3 hI h0 hm
    exact absurd hm (by omega)
  | succ n ih =>
    intro x1 x2 x3 zx1 zx2 zx3  tx1 tx2 tx3 hI h0 hm
    unfold pX11_common_31
    have hk := im_k hI
    obtain ⟨z931, t932⟩ := t_any (w.2.1 341 (216 : Int32).toNatClampNeg)
    have f933 := img_216 hI t932
    refine ⟨fun c934 => ?_, fun c934 => ?_⟩
    · replace c934 := c_le t932 tx3 c934
      unfold pX11_common_76
      exact ⟨70000, sX11_common_78    (hp := hp) 70000 _ _ _ _ _ _  tx1 tx2 lit_0 hI (by omega) (by omega)⟩
    · replace c934 := c_nle t932 tx3 c934
      refine ⟨fun c935 => ?_, fun c935 => ?_⟩
      · replace c935 := c_le lit_2 tx1 c935
        unfold pX11_common_76
        exact ⟨70000, sX11_common_78    (hp := hp) 70000 _ _ _ _ _ _  tx1 tx2 lit_0 hI (by omega) (by omega)⟩
      · replace c935 := c_nle lit_2 tx1 c935
        refine ⟨fun c936 => ?_, fun c936 => ?_⟩
        · replace c936 := c_neq tx1 lit_0 c936
          refine sX11_rowOf   (hI := hI) (tx1 := tx3) (h0 := (by omega)) (hp := fun r_4v545 zr_4v545 tr_4v545 p937 => ?_)
          unfold pX11_common_69
          obtain ⟨z938, t939, f940⟩ := t_add tx3 lit_1
          first | replace f940 := f940 (by omega) | clear f940
          intro x3_1v549 ex3_1v549
          have tx3_1v549 : Ti x3_1v549 z938 := by rw [ex3_1v549]; exact t939
          obtain ⟨z941, t942, f943⟩ := t_orW hI tx2 tr_4v545
          first | replace f943 := f943 (by omega) | clear f943
          exact ih _ _ _ _ _ _  tx1 t942 tx3_1v549 hI (by omega) (by omega)
        · replace c936 := c_eq tx1 lit_0 c936
          refine sX11_rowOf   (hI := hI) (tx1 := tx3) (h0 := (by omega)) (hp := fun r_6v547 zr_6v547 tr_6v547 p944 => ?_)
          unfold pX11_common_69
          obtain ⟨z945, t946, f947⟩ := t_add tx3 lit_1
          first | replace f947 := f947 (by omega) | clear f947
          intro x3_1v550 ex3_1v550
          have tx3_1v550 : Ti x3_1v550 z945 := by rw [ex3_1v550]; exact t946
          obtain ⟨z948, t949⟩ := t_any (x2 &&& r_6v547)
          exact ih _ _ _ _ _ _  tx1 t949 tx3_1v550 hI (by omega) (by omega)
set_option maxHeartbeats 4000000 in
set_option maxRecDepth 100000 in
theorem sX11_common {T W H P S M : Int} {post : Int32 → Wd → Prop} {x1 : Int32} {zx1 : Int} {w : Wd}  (tx1 : Ti x1 zx1) (hI : IM T W H P S M w)  (hp : ∀ (r : Int32) (zr : Int), Ti r zr → post r w) : pX11_common   post  x1 w := by
  unfold pX11_common
  have hk := im_k hI
  refine sX11_isIn   (hI := hI) (tx0 := tx1) (tx1 := lit_0) (tx2 := lit_2)  (hp := fun r_1v551 zr_1v551 tr_1v551 p950 p951 => ?_)
  refine ⟨fun c952 => ?_, fun c952 => ?_⟩
  · replace c952 := c_neq tr_1v551 lit_0 c952
    refine ⟨fun c953 => ?_, fun c953 => ?_⟩
    · replace c953 := c_neq tx1 lit_1 c953
      refine sX11_width   (hI := hI)   (hp := fun r_5v555 zr_5v555 tr_5v555 p954 => ?_)
      unfold pX11_common_28
      obtain ⟨z955, t956, f957⟩ := t_shlW hI tr_5v555
      first | replace f957 := f957 (by omega) | clear f957
      obtain ⟨z958, t959, f960⟩ := t_sub t956 lit_1
      first | replace f960 := f960 (by omega) | clear f960
      exact ⟨70000, sX11_common_31    (hp := hp) 70000 _ _ _ _ _ _  tx1 t959 lit_0 hI (by omega) (by omega)⟩
    · replace c953 := c_eq tx1 lit_1 c953
      unfold pX11_common_28
      exact ⟨70000, sX11_common_31    (hp := hp) 70000 _ _ _ _ _ _  tx1 lit_0 lit_0 hI (by omega) (by omega)⟩
  · replace c952 := c_eq tr_1v551 lit_0 c952
    exact hp _ _ lit_m1 
set_option maxHeartbeats 4000000 in
set_option maxRecDepth 100000 in
theorem sX11_alike_15 {T W H P S M : Int} {post : Int32 → Wd → Prop} {w : Wd}  (hp : ∀ (r : Int32) (zr : Int), Ti r zr → post r w) : ∀ (n : Nat) (x1 : Int32) (x2 : Int32) (x3 : Int32) (x4 : Int32) (zx1 : Int) (zx2 : Int) (zx3 : Int) (zx4 : Int), Ti x1 zx1 → Ti x2 zx2 → Ti x3 zx3 → Ti x4 zx4 → IM T W H P S M w → (0 ≤ zx4 ∧ zx4 ≤ 24) → (25 - zx4) < (n : Int) → pX11_alike_15   post  n x1 x2 x3 x4 w := by
  intro n
  induction n with
  | zero =>
    intro x1 x2 x3 x4 zx1 zx2 zx3 zx4  tx1 tx2 tx3 tx4 hI h0 hm
    exact absurd hm (by omega)
  | succ n ih =>
    intro x1 x2 x3 x4 zx1 zx2 zx3 zx4  tx1 tx2 tx3 tx4 hI h0 hm
    unfold pX11_alike_15
    have hk := im_k hI
    obtain ⟨z961, t962⟩ := t_any (w.2.1 341 (216 : Int32).toNatClampNeg)
    have f963 := img_216 hI t962
    refine ⟨fun c964 => ?_, fun c964 => ?_⟩
    · replace c964 := c_le t962 tx4 c964
      exact hp _ _ tx3 
    · replace c964 := c_nle t962 tx4 c964
      refine ⟨fun c965 => ?_, fun c965 => ?_⟩
      · replace c965 := c_eq tx2 lit_0 c965
        refine sX11_rowOf   (hI := hI) (tx1 := tx4) (h0 := (by omega)) (hp := fun r_3v557 zr_3v557 tr_3v557 p966 => ?_)
        unfold pX11_alike_51
        refine ⟨fun c967 => ?_, fun c967 => ?_⟩
        · replace c967 := c_neq tr_3v557 tx1 c967
          unfold pX11_alike_62
          obtain ⟨z968, t969, f970⟩ := t_add tx4 lit_1
          first | replace f970 := f970 (by omega) | clear f970
          intro x4_1v564 ex4_1v564
          have tx4_1v564 : Ti x4_1v564 z968 := by rw [ex4_1v564]; exact t969
          exact ih _ _ _ _ _ _ _ _  tx1 tx2 tx3 tx4_1v564 hI (by omega) (by omega)
        · replace c967 := c_eq tr_3v557 tx1 c967
          obtain ⟨z971, t972, f973⟩ := t_shlW hI tx4
          first | replace f973 := f973 (by omega) | clear f973
          obtain ⟨z974, t975, f976⟩ := t_orW hI tx3 t972
          first | replace f976 := f976 (by omega) | clear f976
          intro x3_2v563 ex3_2v563
          have tx3_2v563 : Ti x3_2v563 z974 := by rw [ex3_2v563]; exact t975
          unfold pX11_alike_62
          obtain ⟨z977, t978, f979⟩ := t_add tx4 lit_1
          first | replace f979 := f979 (by omega) | clear f979
          intro x4_1v565 ex4_1v565
          have tx4_1v565 : Ti x4_1v565 z977 := by rw [ex4_1v565]; exact t978
          exact ih _ _ _ _ _ _ _ _  tx1 tx2 tx3_2v563 tx4_1v565 hI (by omega) (by omega)
      · replace c965 := c_neq tx2 lit_0 c965
        refine sX11_rowOf   (hI := hI) (tx1 := tx4) (h0 := (by omega)) (hp := fun r_5v559 zr_5v559 tr_5v559 p980 => ?_)
        refine sX11_turnedRow   (hI := hI) (tx1 := tr_5v559)  (hp := fun r_7v566 zr_7v566 tr_7v566 => ?_)
        unfold pX11_alike_51
        refine ⟨fun c981 => ?_, fun c981 => ?_⟩
        · replace c981 := c_neq tr_7v566 tx1 c981
          unfold pX11_alike_62
          obtain ⟨z982, t983, f984⟩ := t_add tx4 lit_1
          first | replace f984 := f984 (by omega) | clear f984
          intro x4_1v569 ex4_1v569
          have tx4_1v569 : Ti x4_1v569 z982 := by rw [ex4_1v569]; exact t983
          exact ih _ _ _ _ _ _ _ _  tx1 tx2 tx3 tx4_1v569 hI (by omega) (by omega)
        · replace c981 := c_eq tr_7v566 tx1 c981
          obtain ⟨z985, t986, f987⟩ := t_shlW hI tx4
          first | replace f987 := f987 (by omega) | clear f987
          obtain ⟨z988, t989, f990⟩ := t_orW hI tx3 t986
          first | replace f990 := f990 (by omega) | clear f990
          intro x3_2v568 ex3_2v568
          have tx3_2v568 : Ti x3_2v568 z988 := by rw [ex3_2v568]; exact t989
          unfold pX11_alike_62
          obtain ⟨z991, t992, f993⟩ := t_add tx4 lit_1
          first | replace f993 := f993 (by omega) | clear f993
          intro x4_1v570 ex4_1v570
          have tx4_1v570 : Ti x4_1v570 z991 := by rw [ex4_1v570]; exact t992
          exact ih _ _ _ _ _ _ _ _  tx1 tx2 tx3_2v568 tx4_1v570 hI (by omega) (by omega)
set_option maxHeartbeats 4000000 in
set_option maxRecDepth 100000 in
theorem sX11_alike {T W H P S M : Int} {post : Int32 → Wd → Prop} {x1 : Int32} {zx1 : Int} {x2 : Int32} {zx2 : Int} {w : Wd}  (tx1 : Ti x1 zx1) (tx2 : Ti x2 zx2) (hI : IM T W H P S M w)  (hp : ∀ (r : Int32) (zr : Int), Ti r zr → post r w) : pX11_alike   post  x1 x2 w := by
  unfold pX11_alike
  have hk := im_k hI
  refine sX11_isRow   (hI := hI) (tx1 := tx1)  (hp := fun r_1v571 zr_1v571 tr_1v571 p994 => ?_)
  refine ⟨fun c995 => ?_, fun c995 => ?_⟩
  · replace c995 := c_neq tr_1v571 lit_0 c995
    exact ⟨70000, sX11_alike_15    (hp := hp) 70000 _ _ _ _ _ _ _ _  tx1 tx2 lit_0 lit_0 hI (by omega) (by omega)⟩
  · replace c995 := c_eq tr_1v571 lit_0 c995
    exact hp _ _ lit_m1 
set_option maxHeartbeats 4000000 in
set_option maxRecDepth 100000 in
theorem sX11_doTell_16 {T W H P S M : Int} {k2 : Int32 → Int32 → Wd → Prop} {M2 : Int} {post : Int32 → Wd → Prop} {w : Wd} (hk2 : ∀ (x1 : Int32) (x2 : Int32) (zx1 : Int) (zx2 : Int), Ti x1 zx1 → Ti x2 zx2 → IM T W H P S M w → (0 ≤ zx2 ∧ zx2 ≤ 24) → (25 - zx2) < M2 → k2 x1 x2 w) (hp : ∀ (r : Int32) (zr : Int), Ti r zr → post r w) : ∀ (n : Nat) (x1 : Int32) (x2 : Int32) (x3 : Int32) (zx1 : Int) (zx2 : Int) (zx3 : Int), Ti x1 zx1 → Ti x2 zx2 → Ti x3 zx3 → IM T W H P S M w → (0 ≤ zx3 ∧ zx3 ≤ 24) → (zx2 < S) → (0 ≤ zx2 ∧ zx2 ≤ 24) → ((25 - zx2) ≤ M2) → (25 - zx3) < (n : Int) → pX11_doTell_16 k2  post  n x1 x2 x3 w := by
  intro n
  induction n with
  | zero =>
    intro x1 x2 x3 zx1 zx2 zx3  tx1 tx2 tx3 hI h0 h1 h2 h3 hm
    exact absurd hm (by omega)
  | succ n ih =>
    intro x1 x2 x3 zx1 zx2 zx3  tx1 tx2 tx3 hI h0 h1 h2 h3 hm
    unfold pX11_doTell_16
    have hk := im_k hI
    refine ⟨fun c996 => ?_, fun c996 => ?_⟩
    · replace c996 := c_le tx2 tx3 c996
      obtain ⟨z997, t998, f999⟩ := t_add tx2 lit_1
      first | replace f999 := f999 (by omega) | clear f999
      intro x2_2v573 ex2_2v573
      have tx2_2v573 : Ti x2_2v573 z997 := by rw [ex2_2v573]; exact t998
      exact hk2 _ _ _ _  tx1 tx2_2v573 hI (by omega) (by omega)
    · replace c996 := c_nle tx2 tx3 c996
      refine sX11_rowOf   (hI := hI) (tx1 := tx2) (h0 := (by omega)) (hp := fun r_3v574 zr_3v574 tr_3v574 p1000 => ?_)
      refine sX11_rowOf   (hI := hI) (tx1 := tx3) (h0 := (by omega)) (hp := fun r_5v582 zr_5v582 tr_5v582 p1001 => ?_)
      refine ⟨fun c1002 => ?_, fun c1002 => ?_⟩
      · replace c1002 := c_eq tr_3v574 tr_5v582 c1002
        unfold pX11_doTell_52
        obtain ⟨z1003, t1004, f1005⟩ := t_add tx3 lit_1
        first | replace f1005 := f1005 (by omega) | clear f1005
        intro x3_1v592 ex3_1v592
        have tx3_1v592 : Ti x3_1v592 z1003 := by rw [ex3_1v592]; exact t1004
        exact ih _ _ _ _ _ _  tx1 tx2 tx3_1v592 hI (by omega) (by omega) (by omega) (by omega) (by omega)
      · replace c1002 := c_neq tr_3v574 tr_5v582 c1002
        refine sX11_rowOf   (hI := hI) (tx1 := tx2) (h0 := (by omega)) (hp := fun r_8v588 zr_8v588 tr_8v588 p1006 => ?_)
        refine sX11_rowOf   (hI := hI) (tx1 := tx3) (h0 := (by omega)) (hp := fun r_10v593 zr_10v593 tr_10v593 p1007 => ?_)
        obtain ⟨z1008, t1009⟩ := t_any ((r_8v588 ^^^ r_10v593) &&& x1)
        refine ⟨fun c1010 => ?_, fun c1010 => ?_⟩
        · replace c1010 := c_neq t1009 lit_0 c1010
          unfold pX11_doTell_52
          obtain ⟨z1011, t1012, f1013⟩ := t_add tx3 lit_1
          first | replace f1013 := f1013 (by omega) | clear f1013
          intro x3_1v595 ex3_1v595
          have tx3_1v595 : Ti x3_1v595 z1011 := by rw [ex3_1v595]; exact t1012
          exact ih _ _ _ _ _ _  tx1 tx2 tx3_1v595 hI (by omega) (by omega) (by omega) (by omega) (by omega)
        · replace c1010 := c_eq t1009 lit_0 c1010
          exact hp _ _ lit_0 
set_option maxHeartbeats 4000000 in
set_option maxRecDepth 100000 in
theorem sX11_doTell_2 {T W H P S M : Int} {post : Int32 → Wd → Prop} {w : Wd}  (hp : ∀ (r : Int32) (zr : Int), Ti r zr → post r w) : ∀ (n : Nat) (x1 : Int32) (x2 : Int32) (zx1 : Int) (zx2 : Int), Ti x1 zx1 → Ti x2 zx2 → IM T W H P S M w → (0 ≤ zx2 ∧ zx2 ≤ 24) → (25 - zx2) < (n : Int) → pX11_doTell_2   post  n x1 x2 w := by
  intro n
  induction n with
  | zero =>
    intro x1 x2 zx1 zx2  tx1 tx2 hI h0 hm
    exact absurd hm (by omega)
  | succ n ih =>
    intro x1 x2 zx1 zx2  tx1 tx2 hI h0 hm
    unfold pX11_doTell_2
    have hk := im_k hI
    obtain ⟨z1014, t1015⟩ := t_any (w.2.1 341 (216 : Int32).toNatClampNeg)
    have f1016 := img_216 hI t1015
    refine ⟨fun c1017 => ?_, fun c1017 => ?_⟩
    · replace c1017 := c_le t1015 tx2 c1017
      exact hp _ _ lit_1 
    · replace c1017 := c_nle t1015 tx2 c1017
      exact ⟨70000, sX11_doTell_16  (M2 := (n : Int)) (hk2 := ih)  (hp := hp) 70000 _ _ _ _ _ _  tx1 tx2 lit_0 hI (by omega) (by omega) (by omega) (by omega) (by omega)⟩
set_option maxHeartbeats 4000000 in
set_option maxRecDepth 100000 in
theorem sX11_doTell {T W H P S M : Int} {post : Int32 → Wd → Prop} {x1 : Int32} {zx1 : Int} {w : Wd}  (tx1 : Ti x1 zx1) (hI : IM T W H P S M w)  (hp : ∀ (r : Int32) (zr : Int), Ti r zr → post r w) : pX11_doTell   post  x1 w := by
  unfold pX11_doTell
  have hk := im_k hI
  exact ⟨70000, sX11_doTell_2    (hp := hp) 70000 _ _ _ _  tx1 lit_0 hI (by omega) (by omega)⟩
set_option maxHeartbeats 4000000 in
set_option maxRecDepth 100000 in
theorem sX11_tell_52 {T W H P S M : Int} {post : Int32 → Wd → Prop}   (hp : ∀ (r : Int32) (zr : Int) (w9 : Wd), Ti r zr → IM T W H P S M w9 → post r w9) : ∀ (n : Nat) (x1 : Int32) (x2 : Int32) (zx1 : Int) (zx2 : Int) (w : Wd), Ti x1 zx1 → Ti x2 zx2 → IM T W H P S M w → (0 ≤ zx2 ∧ zx2 ≤ 12) → (Rg (w.1 300 48) 0 zx2) → (13 - zx2) < (n : Int) → pX11_tell_52   post  n x1 x2 w := by
  intro n
  induction n with
  | zero =>
    intro x1 x2 zx1 zx2 w tx1 tx2 hI h0 h1 hm
    exact absurd hm (by omega)
  | succ n ih =>
    intro x1 x2 zx1 zx2 w tx1 tx2 hI h0 h1 hm
    unfold pX11_tell_52
    have hk := im_k hI
    obtain ⟨z1018, t1019⟩ := t_any (w.1 300 48)
    have f1020 := img_48 hI t1019
    have f1021 := Rg.g h1 t1019
    refine sX11_width   (hI := hI)   (hp := fun r_1v596 zr_1v596 tr_1v596 p1022 => ?_)
    refine ⟨fun c1023 => ?_, fun c1023 => ?_⟩
    · replace c1023 := c_le tr_1v596 tx2 c1023
      exact hp _ _ _  t1019 hI 
    · replace c1023 := c_nle tr_1v596 tx2 c1023
      obtain ⟨z1024, t1025, f1026⟩ := t_and (x := (x1 >>> (x2 &&& 31))) lit_1 (by decide)
      refine ⟨fun c1027 => ?_, fun c1027 => ?_⟩
      · replace c1027 := c_neq t1025 lit_0 c1027
        refine ⟨vp_of t1019 (by omega) (by omega), ?_⟩
        intro w_5v600 ew_5v600
        have hIw_5v600 := ims_A hI ew_5v600 (by decide)
        intro w_6v601 ew_6v601
        have t1028 : Ti (w_5v600.1 300 48) z1018 := by rw [e1_A ew_5v600]; exact t1019
        obtain ⟨z1029, t1030, f1031⟩ := t_add t1028 lit_1
        first | replace f1031 := f1031 (by omega) | clear f1031
        have hIw_6v601 := ims_48 hIw_5v600 ew_6v601 t1030 (by omega) (by omega)
        unfold pX11_tell_91
        obtain ⟨z1032, t1033, f1034⟩ := t_add tx2 lit_1
        first | replace f1034 := f1034 (by omega) | clear f1034
        intro x2_1v602 ex2_1v602
        have tx2_1v602 : Ti x2_1v602 z1032 := by rw [ex2_1v602]; exact t1033
        have t1035 : Ti (w_6v601.1 300 48) z1029 := by rw [ew_6v601, sI_at]; exact t1030
        exact ih _ _ _ _ _ tx1 tx2_1v602 hIw_6v601 (by omega) (Rg.m t1035 (by omega) (by omega)) (by omega)
      · replace c1027 := c_eq t1025 lit_0 c1027
        unfold pX11_tell_91
        obtain ⟨z1036, t1037, f1038⟩ := t_add tx2 lit_1
        first | replace f1038 := f1038 (by omega) | clear f1038
        intro x2_1v603 ex2_1v603
        have tx2_1v603 : Ti x2_1v603 z1036 := by rw [ex2_1v603]; exact t1037
        exact ih _ _ _ _ _ tx1 tx2_1v603 hI (by omega) (Rg.m t1019 (by omega) (by omega)) (by omega)
set_option maxHeartbeats 4000000 in
set_option maxRecDepth 100000 in
theorem sX11_tell_4 {T W H P S M : Int} {post : Int32 → Wd → Prop}   (hp : ∀ (r : Int32) (zr : Int) (w9 : Wd), Ti r zr → IM T W H P S M w9 → post r w9) : ∀ (n : Nat) (x1 : Int32) (x2 : Int32) (zx1 : Int) (zx2 : Int) (w : Wd), Ti x1 zx1 → Ti x2 zx2 → IM T W H P S M w → (0 ≤ zx2 ∧ zx2 ≤ 4096) → (4097 - zx2) < (n : Int) → pX11_tell_4   post  n x1 x2 w := by
  intro n
  induction n with
  | zero =>
    intro x1 x2 zx1 zx2 w tx1 tx2 hI h0 hm
    exact absurd hm (by omega)
  | succ n ih =>
    intro x1 x2 zx1 zx2 w tx1 tx2 hI h0 hm
    unfold pX11_tell_4
    have hk := im_k hI
    refine sX11_width   (hI := hI)   (hp := fun r_1v604 zr_1v604 tr_1v604 p1039 => ?_)
    obtain ⟨z1040, t1041, f1042⟩ := t_shlW hI tr_1v604
    first | replace f1042 := f1042 (by omega) | clear f1042
    refine ⟨fun c1043 => ?_, fun c1043 => ?_⟩
    · replace c1043 := c_le t1041 tx2 c1043
      intro w_4v611 ew_4v611
      have hIw_4v611 := ims_48 hI ew_4v611 lit_0 (by omega) (by omega)
      have t1044 : Ti (w_4v611.1 300 48) 0 := by rw [ew_4v611, sI_at]; exact lit_0
      exact ⟨70000, sX11_tell_52    (hp := hp) 70000 _ _ _ _ _ tx1 lit_0 hIw_4v611 (by omega) (Rg.m t1044 (by omega) (by omega)) (by omega)⟩
    · replace c1043 := c_nle t1041 tx2 c1043
      refine ⟨fun c1045 => ?_, fun c1045 => ?_⟩
      · replace c1045 := c_lt tx1 lit_0 c1045
        unfold pX11_tell_29
        refine sX11_doTell   (hI := hI) (tx1 := tx2)  (hp := fun r_1v616 zr_1v616 tr_1v616 => ?_)
        refine ⟨fun c1046 => ?_, fun c1046 => ?_⟩
        · replace c1046 := c_eq tr_1v616 lit_0 c1046
          unfold pX11_tell_39
          obtain ⟨z1047, t1048, f1049⟩ := t_add tx2 lit_1
          first | replace f1049 := f1049 (by omega) | clear f1049
          intro x2_1v618 ex2_1v618
          have tx2_1v618 : Ti x2_1v618 z1047 := by rw [ex2_1v618]; exact t1048
          exact ih _ _ _ _ _ tx1 tx2_1v618 hI (by omega) (by omega)
        · replace c1046 := c_neq tr_1v616 lit_0 c1046
          unfold pX11_tell_39
          obtain ⟨z1050, t1051, f1052⟩ := t_add tx2 lit_1
          first | replace f1052 := f1052 (by omega) | clear f1052
          intro x2_1v619 ex2_1v619
          have tx2_1v619 : Ti x2_1v619 z1050 := by rw [ex2_1v619]; exact t1051
          exact ih _ _ _ _ _ tx2 tx2_1v619 hI (by omega) (by omega)
      · replace c1045 := c_nlt tx1 lit_0 c1045
        refine sX11_bitsOf   (hI := hI) (tx0 := tx2)  (hp := fun r_6v612 zr_6v612 tr_6v612 => ?_)
        refine sX11_bitsOf   (hI := hI) (tx0 := tx1)  (hp := fun r_8v620 zr_8v620 tr_8v620 => ?_)
        refine ⟨fun c1053 => ?_, fun c1053 => ?_⟩
        · replace c1053 := c_le tr_8v620 tr_6v612 c1053
          unfold pX11_tell_39
          obtain ⟨z1054, t1055, f1056⟩ := t_add tx2 lit_1
          first | replace f1056 := f1056 (by omega) | clear f1056
          intro x2_1v622 ex2_1v622
          have tx2_1v622 : Ti x2_1v622 z1054 := by rw [ex2_1v622]; exact t1055
          exact ih _ _ _ _ _ tx1 tx2_1v622 hI (by omega) (by omega)
        · replace c1053 := c_nle tr_8v620 tr_6v612 c1053
          unfold pX11_tell_29
          refine sX11_doTell   (hI := hI) (tx1 := tx2)  (hp := fun r_1v623 zr_1v623 tr_1v623 => ?_)
          refine ⟨fun c1057 => ?_, fun c1057 => ?_⟩
          · replace c1057 := c_eq tr_1v623 lit_0 c1057
            unfold pX11_tell_39
            obtain ⟨z1058, t1059, f1060⟩ := t_add tx2 lit_1
            first | replace f1060 := f1060 (by omega) | clear f1060
            intro x2_1v625 ex2_1v625
            have tx2_1v625 : Ti x2_1v625 z1058 := by rw [ex2_1v625]; exact t1059
            exact ih _ _ _ _ _ tx1 tx2_1v625 hI (by omega) (by omega)
          · replace c1057 := c_neq tr_1v623 lit_0 c1057
            unfold pX11_tell_39
            obtain ⟨z1061, t1062, f1063⟩ := t_add tx2 lit_1
            first | replace f1063 := f1063 (by omega) | clear f1063
            intro x2_1v626 ex2_1v626
            have tx2_1v626 : Ti x2_1v626 z1061 := by rw [ex2_1v626]; exact t1062
            exact ih _ _ _ _ _ tx2 tx2_1v626 hI (by omega) (by omega)
set_option maxHeartbeats 4000000 in
set_option maxRecDepth 100000 in
theorem sX11_tell {T W H P S M : Int} {post : Int32 → Wd → Prop}  {w : Wd}   (hI : IM T W H P S M w)  (hp : ∀ (r : Int32) (zr : Int) (w9 : Wd), Ti r zr → IM T W H P S M w9 → post r w9) : pX11_tell   post   w := by
  unfold pX11_tell
  have hk := im_k hI
  exact ⟨70000, sX11_tell_4    (hp := hp) 70000 _ _ _ _ _ lit_m1 lit_0 hI (by omega) (by omega)⟩
set_option maxHeartbeats 4000000 in
set_option maxRecDepth 100000 in
theorem sX11_steady_35 {T W H P S M : Int} {post : Int32 → Wd → Prop}   (hp : ∀ (r : Int32) (zr : Int) (w9 : Wd), Ti r zr → IM T W H P S M w9 → post r w9) : ∀ (n : Nat) (x1 : Int32) (x2 : Int32) (x3 : Int32) (x4 : Int32) (x5 : Int32) (x6 : Int32) (zx1 : Int) (zx2 : Int) (zx3 : Int) (zx4 : Int) (zx5 : Int) (zx6 : Int) (w : Wd), Ti x1 zx1 → Ti x2 zx2 → Ti x3 zx3 → Ti x4 zx4 → Ti x5 zx5 → Ti x6 zx6 → IM T W H P S M w → (0 ≤ zx6 ∧ zx6 ≤ 4096) → (0 ≤ zx1 ∧ zx1 < H) → (4097 - zx6) < (n : Int) → pX11_steady_35   post  n x1 x2 x3 x4 x5 x6 w := by
  intro n
  induction n with
  | zero =>
    intro x1 x2 x3 x4 x5 x6 zx1 zx2 zx3 zx4 zx5 zx6 w tx1 tx2 tx3 tx4 tx5 tx6 hI h0 h1 hm
    exact absurd hm (by omega)
  | succ n ih =>
    intro x1 x2 x3 x4 x5 x6 zx1 zx2 zx3 zx4 zx5 zx6 w tx1 tx2 tx3 tx4 tx5 tx6 hI h0 h1 hm
    unfold pX11_steady_35
    have hk := im_k hI
    refine sX11_width   (hI := hI)   (hp := fun r_1v627 zr_1v627 tr_1v627 p1064 => ?_)
    obtain ⟨z1065, t1066, f1067⟩ := t_shlW hI tr_1v627
    first | replace f1067 := f1067 (by omega) | clear f1067
    refine ⟨fun c1068 => ?_, fun c1068 => ?_⟩
    · replace c1068 := c_le t1066 tx6 c1068
      refine ⟨fun c1069 => ?_, fun c1069 => ?_⟩
      · replace c1069 := c_neq tx3 lit_0 c1069
        exact hp _ _ _  tx5 hI 
      · replace c1069 := c_eq tx3 lit_0 c1069
        exact hp _ _ _  tx4 hI 
    · replace c1068 := c_nle t1066 tx6 c1068
      refine sX11_castOf   (hI := hI) (tx1 := tx6) (tx2 := tx1) (tx3 := tx2) (tx4 := lit_0) (h0 := (by omega)) (hp := fun r_5v638 zr_5v638 w_6v639  tr_5v638 hIw_6v639 p1070 => ?_)
      refine sX11_castOf   (hI := hIw_6v639) (tx1 := tr_5v638) (tx2 := tx1) (tx3 := tx2) (tx4 := lit_0) (h0 := (by omega)) (hp := fun r_7v640 zr_7v640 w_8v641  tr_7v640 hIw_8v641 p1071 => ?_)
      refine ⟨fun c1072 => ?_, fun c1072 => ?_⟩
      · replace c1072 := c_eq tr_7v640 tx6 c1072
        obtain ⟨z1073, t1074, f1075⟩ := t_add tx4 lit_1
        first | replace f1075 := f1075 (by omega) | clear f1075
        intro x4_10v642 ex4_10v642
        have tx4_10v642 : Ti x4_10v642 z1073 := by rw [ex4_10v642]; exact t1074
        refine ⟨fun c1076 => ?_, fun c1076 => ?_⟩
        · replace c1076 := c_lt tx5 lit_0 c1076
          unfold pX11_steady_91
          unfold pX11_steady_95
          obtain ⟨z1077, t1078, f1079⟩ := t_add tx6 lit_1
          first | replace f1079 := f1079 (by omega) | clear f1079
          intro x6_1v647 ex6_1v647
          have tx6_1v647 : Ti x6_1v647 z1077 := by rw [ex6_1v647]; exact t1078
          exact ih _ _ _ _ _ _ _ _ _ _ _ _ _ tx1 tx2 tx3 tx4_10v642 tx6 tx6_1v647 hIw_8v641 (by omega) (by omega) (by omega)
        · replace c1076 := c_nlt tx5 lit_0 c1076
          refine sX11_bitsOf   (hI := hIw_8v641) (tx0 := tx6)  (hp := fun r_12v643 zr_12v643 tr_12v643 => ?_)
          refine sX11_bitsOf   (hI := hIw_8v641) (tx0 := tx5)  (hp := fun r_14v648 zr_14v648 tr_14v648 => ?_)
          refine ⟨fun c1080 => ?_, fun c1080 => ?_⟩
          · replace c1080 := c_le tr_12v643 tr_14v648 c1080
            unfold pX11_steady_95
            obtain ⟨z1081, t1082, f1083⟩ := t_add tx6 lit_1
            first | replace f1083 := f1083 (by omega) | clear f1083
            intro x6_1v650 ex6_1v650
            have tx6_1v650 : Ti x6_1v650 z1081 := by rw [ex6_1v650]; exact t1082
            exact ih _ _ _ _ _ _ _ _ _ _ _ _ _ tx1 tx2 tx3 tx4_10v642 tx5 tx6_1v650 hIw_8v641 (by omega) (by omega) (by omega)
          · replace c1080 := c_nle tr_12v643 tr_14v648 c1080
            unfold pX11_steady_91
            unfold pX11_steady_95
            obtain ⟨z1084, t1085, f1086⟩ := t_add tx6 lit_1
            first | replace f1086 := f1086 (by omega) | clear f1086
            intro x6_1v651 ex6_1v651
            have tx6_1v651 : Ti x6_1v651 z1084 := by rw [ex6_1v651]; exact t1085
            exact ih _ _ _ _ _ _ _ _ _ _ _ _ _ tx1 tx2 tx3 tx4_10v642 tx6 tx6_1v651 hIw_8v641 (by omega) (by omega) (by omega)
      · replace c1072 := c_neq tr_7v640 tx6 c1072
        unfold pX11_steady_95
        obtain ⟨z1087, t1088, f1089⟩ := t_add tx6 lit_1
        first | replace f1089 := f1089 (by omega) | clear f1089
        intro x6_1v652 ex6_1v652
        have tx6_1v652 : Ti x6_1v652 z1087 := by rw [ex6_1v652]; exact t1088
        exact ih _ _ _ _ _ _ _ _ _ _ _ _ _ tx1 tx2 tx3 tx4 tx5 tx6_1v652 hIw_8v641 (by omega) (by omega) (by omega)
set_option maxHeartbeats 4000000 in
set_option maxRecDepth 100000 in
theorem sX11_steady {T W H P S M : Int} {post : Int32 → Wd → Prop} {x1 : Int32} {zx1 : Int} {x2 : Int32} {zx2 : Int} {x3 : Int32} {zx3 : Int} {w : Wd}  (tx1 : Ti x1 zx1) (tx2 : Ti x2 zx2) (tx3 : Ti x3 zx3) (hI : IM T W H P S M w)  (hp : ∀ (r : Int32) (zr : Int) (w9 : Wd), Ti r zr → IM T W H P S M w9 → post r w9) : pX11_steady   post  x1 x2 x3 w := by
  unfold pX11_steady
  have hk := im_k hI
  refine sX11_isHand   (hI := hI) (tx1 := tx1)  (hp := fun r_1v653 zr_1v653 tr_1v653 p1090 => ?_)
  refine ⟨fun c1091 => ?_, fun c1091 => ?_⟩
  · replace c1091 := c_eq tr_1v653 lit_0 c1091
    exact hp _ _ _  lit_m1 hI 
  · replace c1091 := c_neq tr_1v653 lit_0 c1091
    refine sX11_isHeat   (hI := hI) (tx0 := tx2)  (hp := fun r_4v659 zr_4v659 tr_4v659 p1092 => ?_)
    refine ⟨fun c1093 => ?_, fun c1093 => ?_⟩
    · replace c1093 := c_eq tr_4v659 lit_0 c1093
      exact hp _ _ _  lit_m1 hI 
    · replace c1093 := c_neq tr_4v659 lit_0 c1093
      refine sX11_isIn   (hI := hI) (tx0 := tx3) (tx1 := lit_0) (tx2 := lit_1)  (hp := fun r_7v663 zr_7v663 tr_7v663 p1094 p1095 => ?_)
      refine ⟨fun c1096 => ?_, fun c1096 => ?_⟩
      · replace c1096 := c_neq tr_7v663 lit_0 c1096
        exact ⟨70000, sX11_steady_35    (hp := hp) 70000 _ _ _ _ _ _ _ _ _ _ _ _ _ tx1 tx2 tx3 lit_0 lit_m1 lit_0 hI (by omega) (by omega) (by omega)⟩
      · replace c1096 := c_eq tr_7v663 lit_0 c1096
        exact hp _ _ _  lit_m1 hI 
set_option maxHeartbeats 4000000 in
set_option maxRecDepth 100000 in
theorem sX11_against_31 {T W H P S M : Int} {post : Int32 → Wd → Prop}   (hp : ∀ (r : Int32) (zr : Int) (w9 : Wd), Ti r zr → IM T W H P S M w9 → post r w9) : ∀ (n : Nat) (x1 : Int32) (x2 : Int32) (x3 : Int32) (x4 : Int32) (x5 : Int32) (zx1 : Int) (zx2 : Int) (zx3 : Int) (zx4 : Int) (zx5 : Int) (w : Wd), Ti x1 zx1 → Ti x2 zx2 → Ti x3 zx3 → Ti x4 zx4 → Ti x5 zx5 → IM T W H P S M w → (0 ≤ zx5 ∧ zx5 ≤ 4096) → (0 ≤ zx1 ∧ zx1 < H) → (0 ≤ zx2 ∧ zx2 < H) → (4097 - zx5) < (n : Int) → pX11_against_31   post  n x1 x2 x3 x4 x5 w := by
  intro n
  induction n with
  | zero =>
    intro x1 x2 x3 x4 x5 zx1 zx2 zx3 zx4 zx5 w tx1 tx2 tx3 tx4 tx5 hI h0 h1 h2 hm
    exact absurd hm (by omega)
  | succ n ih =>
    intro x1 x2 x3 x4 x5 zx1 zx2 zx3 zx4 zx5 w tx1 tx2 tx3 tx4 tx5 hI h0 h1 h2 hm
    unfold pX11_against_31
    have hk := im_k hI
    refine sX11_width   (hI := hI)   (hp := fun r_1v665 zr_1v665 tr_1v665 p1097 => ?_)
    obtain ⟨z1098, t1099, f1100⟩ := t_shlW hI tr_1v665
    first | replace f1100 := f1100 (by omega) | clear f1100
    refine ⟨fun c1101 => ?_, fun c1101 => ?_⟩
    · replace c1101 := c_le t1099 tx5 c1101
      exact hp _ _ _  tx4 hI 
    · replace c1101 := c_nle t1099 tx5 c1101
      refine sX11_castOf   (hI := hI) (tx1 := tx5) (tx2 := tx1) (tx3 := tx3) (tx4 := lit_0) (h0 := (by omega)) (hp := fun r_4v671 zr_4v671 w_5v672  tr_4v671 hIw_5v672 p1102 => ?_)
      refine sX11_castOf   (hI := hIw_5v672) (tx1 := tx5) (tx2 := tx2) (tx3 := tx3) (tx4 := lit_0) (h0 := (by omega)) (hp := fun r_6v673 zr_6v673 w_7v674  tr_6v673 hIw_7v674 p1103 => ?_)
      refine ⟨fun c1104 => ?_, fun c1104 => ?_⟩
      · replace c1104 := c_eq tr_4v671 tr_6v673 c1104
        unfold pX11_against_70
        obtain ⟨z1105, t1106, f1107⟩ := t_add tx4 lit_0
        first | replace f1107 := f1107 (by omega) | clear f1107
        intro x4_1v675 ex4_1v675
        have tx4_1v675 : Ti x4_1v675 z1105 := by rw [ex4_1v675]; exact t1106
        obtain ⟨z1108, t1109, f1110⟩ := t_add tx5 lit_1
        first | replace f1110 := f1110 (by omega) | clear f1110
        intro x5_2v676 ex5_2v676
        have tx5_2v676 : Ti x5_2v676 z1108 := by rw [ex5_2v676]; exact t1109
        exact ih _ _ _ _ _ _ _ _ _ _ _ tx1 tx2 tx3 tx4_1v675 tx5_2v676 hIw_7v674 (by omega) (by omega) (by omega) (by omega)
      · replace c1104 := c_neq tr_4v671 tr_6v673 c1104
        unfold pX11_against_70
        obtain ⟨z1111, t1112, f1113⟩ := t_add tx4 lit_1
        first | replace f1113 := f1113 (by omega) | clear f1113
        intro x4_1v677 ex4_1v677
        have tx4_1v677 : Ti x4_1v677 z1111 := by rw [ex4_1v677]; exact t1112
        obtain ⟨z1114, t1115, f1116⟩ := t_add tx5 lit_1
        first | replace f1116 := f1116 (by omega) | clear f1116
        intro x5_2v678 ex5_2v678
        have tx5_2v678 : Ti x5_2v678 z1114 := by rw [ex5_2v678]; exact t1115
        exact ih _ _ _ _ _ _ _ _ _ _ _ tx1 tx2 tx3 tx4_1v677 tx5_2v678 hIw_7v674 (by omega) (by omega) (by omega) (by omega)
set_option maxHeartbeats 4000000 in
set_option maxRecDepth 100000 in
theorem sX11_against {T W H P S M : Int} {post : Int32 → Wd → Prop} {x1 : Int32} {zx1 : Int} {x2 : Int32} {zx2 : Int} {x3 : Int32} {zx3 : Int} {w : Wd}  (tx1 : Ti x1 zx1) (tx2 : Ti x2 zx2) (tx3 : Ti x3 zx3) (hI : IM T W H P S M w)  (hp : ∀ (r : Int32) (zr : Int) (w9 : Wd), Ti r zr → IM T W H P S M w9 → post r w9) : pX11_against   post  x1 x2 x3 w := by
  unfold pX11_against
  have hk := im_k hI
  refine sX11_isHand   (hI := hI) (tx1 := tx1)  (hp := fun r_1v679 zr_1v679 tr_1v679 p1117 => ?_)
  refine ⟨fun c1118 => ?_, fun c1118 => ?_⟩
  · replace c1118 := c_eq tr_1v679 lit_0 c1118
    exact hp _ _ _  lit_m1 hI 
  · replace c1118 := c_neq tr_1v679 lit_0 c1118
    refine sX11_isHand   (hI := hI) (tx1 := tx2)  (hp := fun r_4v685 zr_4v685 tr_4v685 p1119 => ?_)
    refine ⟨fun c1120 => ?_, fun c1120 => ?_⟩
    · replace c1120 := c_eq tr_4v685 lit_0 c1120
      exact hp _ _ _  lit_m1 hI 
    · replace c1120 := c_neq tr_4v685 lit_0 c1120
      refine sX11_isHeat   (hI := hI) (tx0 := tx3)  (hp := fun r_7v689 zr_7v689 tr_7v689 p1121 => ?_)
      refine ⟨fun c1122 => ?_, fun c1122 => ?_⟩
      · replace c1122 := c_neq tr_7v689 lit_0 c1122
        exact ⟨70000, sX11_against_31    (hp := hp) 70000 _ _ _ _ _ _ _ _ _ _ _ tx1 tx2 tx3 lit_0 lit_0 hI (by omega) (by omega) (by omega) (by omega)⟩
      · replace c1122 := c_eq tr_7v689 lit_0 c1122
        exact hp _ _ _  lit_m1 hI 
set_option maxHeartbeats 4000000 in
set_option maxRecDepth 100000 in
theorem sX11_ways {T W H P S M : Int} {post : Int32 → Wd → Prop}  {w : Wd}   (hI : IM T W H P S M w)  (hp : ∀ (r : Int32) (zr : Int), Ti r zr → (zr = 4 * H) → post r w) : pX11_ways   post   w := by
  unfold pX11_ways
  have hk := im_k hI
  obtain ⟨z1123, t1124⟩ := t_any (w.1 300 29)
  have f1125 := img_29 hI t1124
  refine ⟨vp_of t1124 (by omega) (by omega), ?_⟩
  obtain ⟨z1126, t1127⟩ := t_any (w.2.1 314 (w.1 300 29).toNatClampNeg)
  have f1128 := img_314 hI t1127
  obtain ⟨z1129, t1130, f1131⟩ := t_mul lit_4 t1127
  first | replace f1131 := f1131 (by omega) | clear f1131
  exact hp _ _ t1130 (by omega)
theorem sX11_fact {T W H P S M : Int} {post : Int32 → Wd → Prop} {x1 : Int32} {zx1 : Int} {x2 : Int32} {zx2 : Int} {x3 : Int32} {zx3 : Int} {x4 : Int32} {zx4 : Int} {w : Wd} (tx1 : Ti x1 zx1) (tx2 : Ti x2 zx2) (tx3 : Ti x3 zx3) (tx4 : Ti x4 zx4) (hI : IM T W H P S M w) (h0 : zx1 ≠ 3 ∨ (0 ≤ zx2 ∧ zx2 ≤ 7 ∧ 0 ≤ zx3 ∧ zx3 ≤ 7)) (hp : ∀ (r : Int32) (zr : Int) (w9 : Wd), Ti r zr → IM T W H P S M w9 → post r w9) : pX11_fact post x1 x2 x3 x4 w := by
  sorry
set_option maxHeartbeats 4000000 in
set_option maxRecDepth 100000 in
theorem sX11_sample {T W H P S M : Int} {post : Int32 → Wd → Prop} {x1 : Int32} {zx1 : Int} {x2 : Int32} {zx2 : Int} {w : Wd}  (tx1 : Ti x1 zx1) (tx2 : Ti x2 zx2) (hI : IM T W H P S M w)  (hp : ∀ (r : Int32) (zr : Int) (w9 : Wd), Ti r zr → IM T W H P S M w9 → post r w9) : pX11_sample   post  x1 x2 w := by
  unfold pX11_sample
  have hk := im_k hI
  refine sX11_isRow   (hI := hI) (tx1 := tx1)  (hp := fun r_1v691 zr_1v691 tr_1v691 p1132 => ?_)
  refine ⟨fun c1133 => ?_, fun c1133 => ?_⟩
  · replace c1133 := c_eq tr_1v691 lit_0 c1133
    exact hp _ _ _  lit_m1 hI 
  · replace c1133 := c_neq tr_1v691 lit_0 c1133
    refine ⟨fun c1134 => ?_, fun c1134 => ?_⟩
    · replace c1134 := c_eq tx2 lit_0 c1134
      refine sX11_fact   (hI := hI) (tx1 := lit_0) (tx2 := tx1) (tx3 := lit_0) (tx4 := lit_0) (h0 := (by omega)) (hp := fun r_5v697 zr_5v697 w_6v698  tr_5v697 hIw_6v698  => ?_)
      exact hp _ _ _  tr_5v697 hIw_6v698 
    · replace c1134 := c_neq tx2 lit_0 c1134
      refine sX11_fact   (hI := hI) (tx1 := lit_0) (tx2 := tx1) (tx3 := lit_1) (tx4 := lit_0) (h0 := (by omega)) (hp := fun r_7v699 zr_7v699 w_8v700  tr_7v699 hIw_8v700  => ?_)
      exact hp _ _ _  tr_7v699 hIw_8v700 
set_option maxHeartbeats 4000000 in
set_option maxRecDepth 100000 in
theorem sX11_claim {T W H P S M : Int} {post : Int32 → Wd → Prop} {x1 : Int32} {zx1 : Int} {x2 : Int32} {zx2 : Int} {x3 : Int32} {zx3 : Int} {w : Wd}  (tx1 : Ti x1 zx1) (tx2 : Ti x2 zx2) (tx3 : Ti x3 zx3) (hI : IM T W H P S M w)  (hp : ∀ (r : Int32) (zr : Int) (w9 : Wd), Ti r zr → IM T W H P S M w9 → post r w9) : pX11_claim   post  x1 x2 x3 w := by
  unfold pX11_claim
  have hk := im_k hI
  refine sX11_isRow   (hI := hI) (tx1 := tx1)  (hp := fun r_1v701 zr_1v701 tr_1v701 p1135 => ?_)
  refine ⟨fun c1136 => ?_, fun c1136 => ?_⟩
  · replace c1136 := c_eq tr_1v701 lit_0 c1136
    exact hp _ _ _  lit_m1 hI 
  · replace c1136 := c_neq tr_1v701 lit_0 c1136
    refine sX11_isSeal   (hI := hI) (tx1 := tx2)  (hp := fun r_4v709 zr_4v709 tr_4v709 p1137 => ?_)
    refine ⟨fun c1138 => ?_, fun c1138 => ?_⟩
    · replace c1138 := c_eq tr_4v709 lit_0 c1138
      exact hp _ _ _  lit_m1 hI 
    · replace c1138 := c_neq tr_4v709 lit_0 c1138
      refine sX11_isIn   (hI := hI) (tx0 := tx3) (tx1 := lit_0) (tx2 := lit_999)  (hp := fun r_7v715 zr_7v715 tr_7v715 p1139 p1140 => ?_)
      refine ⟨fun c1141 => ?_, fun c1141 => ?_⟩
      · replace c1141 := c_eq tr_7v715 lit_0 c1141
        exact hp _ _ _  lit_m1 hI 
      · replace c1141 := c_neq tr_7v715 lit_0 c1141
        refine sX11_fact   (hI := hI) (tx1 := lit_1) (tx2 := tx1) (tx3 := tx2) (tx4 := tx3) (h0 := (by omega)) (hp := fun r_10v719 zr_10v719 w_11v720  tr_10v719 hIw_11v720  => ?_)
        exact hp _ _ _  tr_10v719 hIw_11v720 
set_option maxHeartbeats 4000000 in
set_option maxRecDepth 100000 in
theorem sX11_saw {T W H P S M : Int} {post : Int32 → Wd → Prop} {x1 : Int32} {zx1 : Int} {x2 : Int32} {zx2 : Int} {x3 : Int32} {zx3 : Int} {w : Wd}  (tx1 : Ti x1 zx1) (tx2 : Ti x2 zx2) (tx3 : Ti x3 zx3) (hI : IM T W H P S M w)  (hp : ∀ (r : Int32) (zr : Int) (w9 : Wd), Ti r zr → IM T W H P S M w9 → post r w9) : pX11_saw   post  x1 x2 x3 w := by
  unfold pX11_saw
  have hk := im_k hI
  refine sX11_width   (hI := hI)   (hp := fun r_1v721 zr_1v721 tr_1v721 p1142 => ?_)
  obtain ⟨z1143, t1144, f1145⟩ := t_sub tr_1v721 lit_1
  first | replace f1145 := f1145 (by omega) | clear f1145
  refine sX11_isIn   (hI := hI) (tx0 := tx1) (tx1 := lit_0) (tx2 := t1144)  (hp := fun r_3v731 zr_3v731 tr_3v731 p1146 p1147 => ?_)
  refine ⟨fun c1148 => ?_, fun c1148 => ?_⟩
  · replace c1148 := c_eq tr_3v731 lit_0 c1148
    exact hp _ _ _  lit_m1 hI 
  · replace c1148 := c_neq tr_3v731 lit_0 c1148
    refine sX11_isIn   (hI := hI) (tx0 := tx2) (tx1 := lit_0) (tx2 := lit_999)  (hp := fun r_6v739 zr_6v739 tr_6v739 p1149 p1150 => ?_)
    refine ⟨fun c1151 => ?_, fun c1151 => ?_⟩
    · replace c1151 := c_eq tr_6v739 lit_0 c1151
      exact hp _ _ _  lit_m1 hI 
    · replace c1151 := c_neq tr_6v739 lit_0 c1151
      refine ⟨fun c1152 => ?_, fun c1152 => ?_⟩
      · replace c1152 := c_eq tx3 lit_0 c1152
        refine sX11_fact   (hI := hI) (tx1 := lit_2) (tx2 := tx1) (tx3 := tx2) (tx4 := lit_0) (h0 := (by omega)) (hp := fun r_10v745 zr_10v745 w_11v746  tr_10v745 hIw_11v746  => ?_)
        exact hp _ _ _  tr_10v745 hIw_11v746 
      · replace c1152 := c_neq tx3 lit_0 c1152
        refine sX11_fact   (hI := hI) (tx1 := lit_2) (tx2 := tx1) (tx3 := tx2) (tx4 := lit_1) (h0 := (by omega)) (hp := fun r_12v747 zr_12v747 w_13v748  tr_12v747 hIw_13v748  => ?_)
        exact hp _ _ _  tr_12v747 hIw_13v748 
set_option maxHeartbeats 4000000 in
set_option maxRecDepth 100000 in
theorem sX11_link {T W H P S M : Int} {post : Int32 → Wd → Prop} {x1 : Int32} {zx1 : Int} {x2 : Int32} {zx2 : Int} {x3 : Int32} {zx3 : Int} {w : Wd}  (tx1 : Ti x1 zx1) (tx2 : Ti x2 zx2) (tx3 : Ti x3 zx3) (hI : IM T W H P S M w)  (hp : ∀ (r : Int32) (zr : Int) (w9 : Wd), Ti r zr → IM T W H P S M w9 → post r w9) : pX11_link   post  x1 x2 x3 w := by
  unfold pX11_link
  have hk := im_k hI
  refine sX11_isIn   (hI := hI) (tx0 := tx1) (tx1 := lit_0) (tx2 := lit_7)  (hp := fun r_1v749 zr_1v749 tr_1v749 p1153 p1154 => ?_)
  refine ⟨fun c1155 => ?_, fun c1155 => ?_⟩
  · replace c1155 := c_eq tr_1v749 lit_0 c1155
    exact hp _ _ _  lit_m1 hI 
  · replace c1155 := c_neq tr_1v749 lit_0 c1155
    refine sX11_isIn   (hI := hI) (tx0 := tx2) (tx1 := lit_0) (tx2 := lit_7)  (hp := fun r_4v757 zr_4v757 tr_4v757 p1156 p1157 => ?_)
    refine ⟨fun c1158 => ?_, fun c1158 => ?_⟩
    · replace c1158 := c_eq tr_4v757 lit_0 c1158
      exact hp _ _ _  lit_m1 hI 
    · replace c1158 := c_neq tr_4v757 lit_0 c1158
      refine ⟨fun c1159 => ?_, fun c1159 => ?_⟩
      · replace c1159 := c_eq tx1 tx2 c1159
        exact hp _ _ _  lit_m1 hI 
      · replace c1159 := c_neq tx1 tx2 c1159
        refine ⟨fun c1160 => ?_, fun c1160 => ?_⟩
        · replace c1160 := c_eq tx3 lit_0 c1160
          refine sX11_fact   (hI := hI) (tx1 := lit_3) (tx2 := tx1) (tx3 := tx2) (tx4 := lit_0) (h0 := (by omega)) (hp := fun r_9v763 zr_9v763 w_10v764  tr_9v763 hIw_10v764  => ?_)
          exact hp _ _ _  tr_9v763 hIw_10v764 
        · replace c1160 := c_neq tx3 lit_0 c1160
          refine sX11_fact   (hI := hI) (tx1 := lit_3) (tx2 := tx1) (tx3 := tx2) (tx4 := lit_1) (h0 := (by omega)) (hp := fun r_11v765 zr_11v765 w_12v766  tr_11v765 hIw_12v766  => ?_)
          exact hp _ _ _  tr_11v765 hIw_12v766 
set_option maxHeartbeats 4000000 in
set_option maxRecDepth 100000 in
theorem sX11_untell {T W H P S M : Int} {post : Int32 → Wd → Prop} {x1 : Int32} {zx1 : Int} {w : Wd}  (tx1 : Ti x1 zx1) (hI : IM T W H P S M w)  (hp : ∀ (r : Int32) (zr : Int) (w9 : Wd), Ti r zr → IM T W H P S M w9 → post r w9) : pX11_untell   post  x1 w := by
  unfold pX11_untell
  have hk := im_k hI
  obtain ⟨z1161, t1162⟩ := t_any (w.1 300 58)
  have f1163 := img_58 hI t1162
  obtain ⟨z1164, t1165, f1166⟩ := t_sub t1162 lit_1
  first | replace f1166 := f1166 (by omega) | clear f1166
  refine sX11_isIn   (hI := hI) (tx0 := tx1) (tx1 := lit_0) (tx2 := t1165)  (hp := fun r_1v767 zr_1v767 tr_1v767 p1167 p1168 => ?_)
  refine ⟨fun c1169 => ?_, fun c1169 => ?_⟩
  · replace c1169 := c_eq tr_1v767 lit_0 c1169
    exact hp _ _ _  lit_0 hI 
  · replace c1169 := c_neq tr_1v767 lit_0 c1169
    refine ⟨vp_of tx1 (by omega) (by omega), ?_⟩
    obtain ⟨z1170, t1171⟩ := t_any (w.2.1 358 x1.toNatClampNeg)
    refine ⟨fun c1173 => ?_, fun c1173 => ?_⟩
    · replace c1173 := c_lt t1171 lit_0 c1173
      refine ⟨vp_of tx1 (by omega) (by omega), ?_⟩
      intro w_5v770 ew_5v770
      have hIw_5v770 := ims_A hI ew_5v770 (by decide)
      exact hp _ _ _  lit_1 hIw_5v770 
    · replace c1173 := c_nlt t1171 lit_0 c1173
      exact hp _ _ _  lit_0 hI 
theorem sX11_changesOf {T W H P S M : Int} {post : Int32 → Wd → Prop} {x1 : Int32} {zx1 : Int} {x2 : Int32} {zx2 : Int} {w : Wd} (tx1 : Ti x1 zx1) (tx2 : Ti x2 zx2) (hI : IM T W H P S M w) (h0 : 0 ≤ zx1) (h1 : 0 ≤ zx2 ∧ zx2 < M) (hp : ∀ (r : Int32) (zr : Int) (w9 : Wd), Ti r zr → IM T W H P S M w9 → post r w9) : pX11_changesOf post x1 x2 w := by
  sorry
set_option maxHeartbeats 4000000 in
set_option maxRecDepth 100000 in
theorem sX11_counts {T W H P S M : Int} {post : Int32 → Wd → Prop} {x1 : Int32} {zx1 : Int} {x2 : Int32} {zx2 : Int} {x3 : Int32} {zx3 : Int} {w : Wd}  (tx1 : Ti x1 zx1) (tx2 : Ti x2 zx2) (tx3 : Ti x3 zx3) (hI : IM T W H P S M w) (h0 : 0 ≤ zx1 ∧ zx1 ≤ 39) (hp : ∀ (r : Int32) (zr : Int), Ti r zr → ((zr = 0 ∨ w.2.1 353 x1.toNatClampNeg = x2)) → post r w) : pX11_counts   post  x1 x2 x3 w := by
  unfold pX11_counts
  have hk := im_k hI
  refine ⟨vp_of tx1 (by omega) (by omega), ?_⟩
  obtain ⟨z1174, t1175⟩ := t_any (w.2.1 353 x1.toNatClampNeg)
  refine ⟨fun c1177 => ?_, fun c1177 => ?_⟩
  · replace c1177 := c_neq t1175 tx2 c1177
    exact hp _ _ lit_0 (Or.inl (by omega))
  · replace c1177 := c_eq t1175 tx2 c1177
    refine ⟨vp_of tx1 (by omega) (by omega), ?_⟩
    obtain ⟨z1178, t1179⟩ := t_any (w.2.1 357 x1.toNatClampNeg)
    refine ⟨fun c1181 => ?_, fun c1181 => ?_⟩
    · replace c1181 := c_lt tx3 t1179 c1181
      exact hp _ _ lit_0 (Or.inl (by omega))
    · replace c1181 := c_nlt tx3 t1179 c1181
      refine ⟨vp_of tx1 (by omega) (by omega), ?_⟩
      obtain ⟨z1182, t1183⟩ := t_any (w.2.1 358 x1.toNatClampNeg)
      refine ⟨fun c1185 => ?_, fun c1185 => ?_⟩
      · replace c1185 := c_lt t1183 lit_0 c1185
        exact hp _ _ lit_1 (Or.inr (cq_eq t1175 tx2 (by omega)))
      · replace c1185 := c_nlt t1183 lit_0 c1185
        refine ⟨vp_of tx1 (by omega) (by omega), ?_⟩
        refine ⟨fun c1186 => ?_, fun c1186 => ?_⟩
        · replace c1186 := c_le t1183 tx3 c1186
          exact hp _ _ lit_0 (Or.inl (by omega))
        · replace c1186 := c_nle t1183 tx3 c1186
          exact hp _ _ lit_1 (Or.inr (cq_eq t1175 tx2 (by omega)))
set_option maxHeartbeats 4000000 in
set_option maxRecDepth 100000 in
theorem sX11_laySamples_92 {T W H P S M : Int} {k70 : Int32 → Wd → Prop} {M70 : Int} {post : Wd → Prop}  (hk70 : ∀ (x2 : Int32) (zx2 : Int) (w : Wd), Ti x2 zx2 → IM T W H P S M w → (0 ≤ zx2 ∧ zx2 ≤ 7) → (8 - zx2) < M70 → k70 x2 w) (hp : ∀ (w9 : Wd) (M9 : Int), IM T W H P S M9 w9 → post w9) : ∀ (n : Nat) (x2 : Int32) (x3 : Int32) (x4 : Int32) (zx2 : Int) (zx3 : Int) (zx4 : Int) (w : Wd), Ti x2 zx2 → Ti x3 zx3 → Ti x4 zx4 → IM T W H P S M w → (0 ≤ zx4 ∧ zx4 ≤ 7) → (zx2 ≤ 6) → (0 ≤ zx2 ∧ zx2 ≤ 7) → ((8 - zx2) ≤ M70) → (8 - zx4) < (n : Int) → pX11_laySamples_92 k70  post  n x2 x3 x4 w := by
  intro n
  induction n with
  | zero =>
    intro x2 x3 x4 zx2 zx3 zx4 w tx2 tx3 tx4 hI h0 h1 h2 h3 hm
    exact absurd hm (by omega)
  | succ n ih =>
    intro x2 x3 x4 zx2 zx3 zx4 w tx2 tx3 tx4 hI h0 h1 h2 h3 hm
    unfold pX11_laySamples_92
    have hk := im_k hI
    obtain ⟨z1187, t1188⟩ := t_any (w.1 300 63)
    have f1189 := img_63 hI t1188
    refine ⟨fun c1190 => ?_, fun c1190 => ?_⟩
    · replace c1190 := c_le t1188 tx4 c1190
      obtain ⟨z1191, t1192, f1193⟩ := t_add tx2 lit_1
      first | replace f1193 := f1193 (by omega) | clear f1193
      intro x2_2v771 ex2_2v771
      have tx2_2v771 : Ti x2_2v771 z1191 := by rw [ex2_2v771]; exact t1192
      exact hk70 _ _ _ tx2_2v771 hI (by omega) (by omega)
    · replace c1190 := c_nle t1188 tx4 c1190
      refine ⟨vp_of tx4 (by omega) (by omega), ?_⟩
      obtain ⟨z1194, t1195⟩ := t_any (x3 &&& ((w.2.1 361 x4.toNatClampNeg) ^^^ (-1 : Int32)))
      refine sX11_bitsOf   (hI := hI) (tx0 := t1195)  (hp := fun r_3v772 zr_3v772 tr_3v772 => ?_)
      refine ⟨vp_of tx4 (by omega) (by omega), ?_⟩
      obtain ⟨z1196, t1197⟩ := t_any ((w.2.1 361 x4.toNatClampNeg) &&& (x3 ^^^ (-1 : Int32)))
      refine sX11_bitsOf   (hI := hI) (tx0 := t1197)  (hp := fun r_5v778 zr_5v778 tr_5v778 => ?_)
      obtain ⟨z1198, t1199, f1200⟩ := t_mul lit_7 tx2
      first | replace f1200 := f1200 (by omega) | clear f1200
      obtain ⟨z1201, t1202, f1203⟩ := t_add t1199 tx4
      first | replace f1203 := f1203 (by omega) | clear f1203
      refine ⟨vp_of t1202 (by omega) (by omega), ?_⟩
      intro w_7v782 ew_7v782
      have hIw_7v782 := ims_A hI ew_7v782 (by decide)
      obtain ⟨z1204, t1205, f1206⟩ := t_add tx4 lit_1
      first | replace f1206 := f1206 (by omega) | clear f1206
      intro x4_8v783 ex4_8v783
      have tx4_8v783 : Ti x4_8v783 z1204 := by rw [ex4_8v783]; exact t1205
      exact ih _ _ _ _ _ _ _ tx2 tx3 tx4_8v783 hIw_7v782 (by omega) (by omega) (by omega) (by omega) (by omega)
set_option maxHeartbeats 4000000 in
set_option maxRecDepth 100000 in
theorem sX11_laySamples_70 {T W H P S M : Int} {post : Wd → Prop}   (hp : ∀ (w9 : Wd) (M9 : Int), IM T W H P S M9 w9 → post w9) : ∀ (n : Nat) (x2 : Int32) (zx2 : Int) (w : Wd), Ti x2 zx2 → IM T W H P S M w → (0 ≤ zx2 ∧ zx2 ≤ 7) → (8 - zx2) < (n : Int) → pX11_laySamples_70   post  n x2 w := by
  intro n
  induction n with
  | zero =>
    intro x2 zx2 w tx2 hI h0 hm
    exact absurd hm (by omega)
  | succ n ih =>
    intro x2 zx2 w tx2 hI h0 hm
    unfold pX11_laySamples_70
    have hk := im_k hI
    obtain ⟨z1207, t1208⟩ := t_any (w.1 300 63)
    have f1209 := img_63 hI t1208
    refine ⟨fun c1210 => ?_, fun c1210 => ?_⟩
    · replace c1210 := c_le t1208 tx2 c1210
      exact hp  _ _  hI 
    · replace c1210 := c_nle t1208 tx2 c1210
      refine ⟨vp_of tx2 (by omega) (by omega), ?_⟩
      obtain ⟨z1211, t1212⟩ := t_any (w.2.1 361 x2.toNatClampNeg)
      refine sX11_turnedRow   (hI := hI) (tx1 := t1212)  (hp := fun r_2v784 zr_2v784 tr_2v784 => ?_)
      exact ⟨70000, sX11_laySamples_92  (M70 := (n : Int)) (hk70 := ih)  (hp := hp) 70000 _ _ _ _ _ _ _ tx2 tr_2v784 lit_0 hI (by omega) (by omega) (by omega) (by omega) (by omega)⟩
set_option maxHeartbeats 4000000 in
set_option maxRecDepth 100000 in
theorem sX11_laySamples_7 {T W H P S : Int} {post : Wd → Prop}   (hp : ∀ (w9 : Wd) (M9 : Int), IM T W H P S M9 w9 → post w9) : ∀ (n : Nat) (x1 : Int32) (x2 : Int32) (zx1 : Int) (zx2 : Int) (w : Wd), Ti x1 zx1 → Ti x2 zx2 → IMe T W H P S w → (0 ≤ zx2 ∧ zx2 ≤ 40) → (41 - zx2) < (n : Int) → pX11_laySamples_7   post  n x1 x2 w := by
  intro n
  induction n with
  | zero =>
    intro x1 x2 zx1 zx2 w tx1 tx2 hI h0 hm
    obtain ⟨M, hI⟩ := hI
    exact absurd hm (by omega)
  | succ n ih =>
    intro x1 x2 zx1 zx2 w tx1 tx2 hI h0 hm
    obtain ⟨M, hI⟩ := hI
    unfold pX11_laySamples_7
    have hk := im_k hI
    obtain ⟨z1214, t1215⟩ := t_any (w.1 300 58)
    have f1216 := img_58 hI t1215
    refine ⟨fun c1217 => ?_, fun c1217 => ?_⟩
    · replace c1217 := c_le t1215 tx2 c1217
      unfold pX11_laySamples_68
      exact ⟨70000, sX11_laySamples_70    (hp := hp) 70000 _ _ _ lit_0 hI (by omega) (by omega)⟩
    · replace c1217 := c_nle t1215 tx2 c1217
      obtain ⟨z1218, t1219⟩ := t_any (w.1 300 63)
      have f1220 := img_63 hI t1219
      refine ⟨fun c1221 => ?_, fun c1221 => ?_⟩
      · replace c1221 := c_le lit_7 t1219 c1221
        unfold pX11_laySamples_68
        exact ⟨70000, sX11_laySamples_70    (hp := hp) 70000 _ _ _ lit_0 hI (by omega) (by omega)⟩
      · replace c1221 := c_nle lit_7 t1219 c1221
        refine sX11_counts   (hI := hI) (tx1 := tx2) (tx2 := lit_0) (tx3 := tx1) (h0 := (by omega)) (hp := fun r_3v786 zr_3v786 tr_3v786 p1222 => ?_)
        refine ⟨fun c1223 => ?_, fun c1223 => ?_⟩
        · replace c1223 := c_neq tr_3v786 lit_0 c1223
          refine ⟨vp_of tx2 (by omega) (by omega), ?_⟩
          refine ⟨vp_of t1219 (by omega) (by omega), ?_⟩
          intro w_6v790 ew_6v790
          have hIw_6v790 := ims_A hI ew_6v790 (by decide)
          intro w_7v791 ew_7v791
          have t1224 : Ti (w_6v790.1 300 63) z1218 := by rw [e1_A ew_6v790]; exact t1219
          obtain ⟨z1225, t1226, f1227⟩ := t_add t1224 lit_1
          first | replace f1227 := f1227 (by omega) | clear f1227
          have hIw_7v791 := ims_63 hIw_6v790 ew_7v791 t1226 (by omega) (by omega)
          unfold pX11_laySamples_62
          obtain ⟨z1228, t1229, f1230⟩ := t_add tx2 lit_1
          first | replace f1230 := f1230 (by omega) | clear f1230
          intro x2_1v792 ex2_1v792
          have tx2_1v792 : Ti x2_1v792 z1228 := by rw [ex2_1v792]; exact t1229
          exact ih _ _ _ _ _ tx1 tx2_1v792 ⟨_, hIw_7v791⟩ (by omega) (by omega)
        · replace c1223 := c_eq tr_3v786 lit_0 c1223
          unfold pX11_laySamples_62
          obtain ⟨z1231, t1232, f1233⟩ := t_add tx2 lit_1
          first | replace f1233 := f1233 (by omega) | clear f1233
          intro x2_1v793 ex2_1v793
          have tx2_1v793 : Ti x2_1v793 z1231 := by rw [ex2_1v793]; exact t1232
          exact ih _ _ _ _ _ tx1 tx2_1v793 ⟨_, hI⟩ (by omega) (by omega)
set_option maxHeartbeats 4000000 in
set_option maxRecDepth 100000 in
theorem sX11_laySamples {T W H P S M : Int} {post : Wd → Prop} {x1 : Int32} {zx1 : Int} {w : Wd}  (tx1 : Ti x1 zx1) (hI : IM T W H P S M w)  (hp : ∀ (w9 : Wd) (M9 : Int), IM T W H P S M9 w9 → post w9) : pX11_laySamples   post  x1 w := by
  unfold pX11_laySamples
  have hk := im_k hI
  intro w_1v794 ew_1v794
  have hIw_1v794 := ims_63 hI ew_1v794 lit_0 (by omega) (by omega)
  exact ⟨70000, sX11_laySamples_7    (hp := hp) 70000 _ _ _ _ _ tx1 lit_0 ⟨_, hIw_1v794⟩ (by omega) (by omega)⟩
set_option maxHeartbeats 4000000 in
set_option maxRecDepth 100000 in
theorem sX11_tree_143 {T W H P S M : Int} {k76 : Int32 → Int32 → Int32 → Int32 → Int32 → Int32 → Wd → Prop} {M76 : Int} {post : Int32 → Wd → Prop}  (hk76 : ∀ (x1 : Int32) (x2 : Int32) (x4 : Int32) (x5 : Int32) (x6 : Int32) (x7 : Int32) (zx1 : Int) (zx2 : Int) (zx4 : Int) (zx5 : Int) (zx6 : Int) (zx7 : Int) (w : Wd), Ti x1 zx1 → Ti x2 zx2 → Ti x4 zx4 → Ti x5 zx5 → Ti x6 zx6 → Ti x7 zx7 → IM T W H P S M w → (0 ≤ zx7) → (zx7 ≤ 2147483647 ∧ zx4 ≤ 2147483647) → (0 ≤ zx1 ∧ zx1 < M) → (2147483648 - zx7) < M76 → k76 x1 x2 x4 x5 x6 x7 w) (hp : ∀ (r : Int32) (zr : Int) (w9 : Wd) (M9 : Int), Ti r zr → IM T W H P S M9 w9 → post r w9) : ∀ (n : Nat) (x1 : Int32) (x2 : Int32) (x4 : Int32) (x6 : Int32) (x7 : Int32) (x8 : Int32) (x9 : Int32) (zx1 : Int) (zx2 : Int) (zx4 : Int) (zx6 : Int) (zx7 : Int) (zx8 : Int) (zx9 : Int) (w : Wd), Ti x1 zx1 → Ti x2 zx2 → Ti x4 zx4 → Ti x6 zx6 → Ti x7 zx7 → Ti x8 zx8 → Ti x9 zx9 → IM T W H P S M w → (0 ≤ zx9 ∧ zx9 ≤ 7) → (zx7 < zx4 ∧ zx4 ≤ 2147483647) → (0 ≤ zx7) → (zx7 ≤ 2147483647 ∧ zx4 ≤ 2147483647) → (0 ≤ zx1 ∧ zx1 < M) → ((2147483648 - zx7) ≤ M76) → (8 - zx9) < (n : Int) → pX11_tree_143 k76  post  n x1 x2 x4 x6 x7 x8 x9 w := by
  intro n
  induction n with
  | zero =>
    intro x1 x2 x4 x6 x7 x8 x9 zx1 zx2 zx4 zx6 zx7 zx8 zx9 w tx1 tx2 tx4 tx6 tx7 tx8 tx9 hI h0 h1 h2 h3 h4 h5 hm
    exact absurd hm (by omega)
  | succ n ih =>
    intro x1 x2 x4 x6 x7 x8 x9 zx1 zx2 zx4 zx6 zx7 zx8 zx9 w tx1 tx2 tx4 tx6 tx7 tx8 tx9 hI h0 h1 h2 h3 h4 h5 hm
    unfold pX11_tree_143
    have hk := im_k hI
    obtain ⟨z1234, t1235⟩ := t_any (w.1 300 63)
    have f1236 := img_63 hI t1235
    refine ⟨fun c1237 => ?_, fun c1237 => ?_⟩
    · replace c1237 := c_le t1235 tx9 c1237
      unfold pX11_tree_172
      unfold pX11_tree_176
      obtain ⟨z1238, t1239, f1240⟩ := t_add tx7 lit_1
      first | replace f1240 := f1240 (by omega) | clear f1240
      intro x7_1v797 ex7_1v797
      have tx7_1v797 : Ti x7_1v797 z1238 := by rw [ex7_1v797]; exact t1239
      have f1241 := t_rng tx4
      exact hk76 _ _ _ _ _ _ _ _ _ _ _ _ _ tx1 tx2 tx4 tx8 tx6 tx7_1v797 hI (by omega) (by omega) (by omega) (by omega)
    · replace c1237 := c_nle t1235 tx9 c1237
      refine ⟨vp_of tx9 (by omega) (by omega), ?_⟩
      refine ⟨vp_of tx9 (by omega) (by omega), ?_⟩
      intro w_2v795 ew_2v795
      have hIw_2v795 := ims_A hI ew_2v795 (by decide)
      obtain ⟨z1242, t1243, f1244⟩ := t_add tx9 lit_1
      first | replace f1244 := f1244 (by omega) | clear f1244
      intro x9_3v796 ex9_3v796
      have tx9_3v796 : Ti x9_3v796 z1242 := by rw [ex9_3v796]; exact t1243
      exact ih _ _ _ _ _ _ _ _ _ _ _ _ _ _ _ tx1 tx2 tx4 tx6 tx7 tx8 tx9_3v796 hIw_2v795 (by omega) (by omega) (by omega) (by omega) (by omega) (by omega) (by omega)
set_option maxHeartbeats 4000000 in
set_option maxRecDepth 100000 in
theorem sX11_tree_76 {T W H P S M : Int} {post : Int32 → Wd → Prop}   (hp : ∀ (r : Int32) (zr : Int) (w9 : Wd) (M9 : Int), Ti r zr → IM T W H P S M9 w9 → post r w9) : ∀ (n : Nat) (x1 : Int32) (x2 : Int32) (x4 : Int32) (x5 : Int32) (x6 : Int32) (x7 : Int32) (zx1 : Int) (zx2 : Int) (zx4 : Int) (zx5 : Int) (zx6 : Int) (zx7 : Int) (w : Wd), Ti x1 zx1 → Ti x2 zx2 → Ti x4 zx4 → Ti x5 zx5 → Ti x6 zx6 → Ti x7 zx7 → IM T W H P S M w → (0 ≤ zx7) → (zx7 ≤ 2147483647 ∧ zx4 ≤ 2147483647) → (0 ≤ zx1 ∧ zx1 < M) → (2147483648 - zx7) < (n : Int) → pX11_tree_76   post  n x1 x2 x4 x5 x6 x7 w := by
  intro n
  induction n with
  | zero =>
    intro x1 x2 x4 x5 x6 x7 zx1 zx2 zx4 zx5 zx6 zx7 w tx1 tx2 tx4 tx5 tx6 tx7 hI h0 h1 h2 hm
    exact absurd hm (by omega)
  | succ n ih =>
    intro x1 x2 x4 x5 x6 x7 zx1 zx2 zx4 zx5 zx6 zx7 w tx1 tx2 tx4 tx5 tx6 tx7 hI h0 h1 h2 hm
    unfold pX11_tree_76
    have hk := im_k hI
    refine ⟨fun c1245 => ?_, fun c1245 => ?_⟩
    · replace c1245 := c_le tx4 tx7 c1245
      intro w_2v798 ew_2v798
      obtain ⟨z1246, t1247⟩ := t_any (w.1 300 63)
      have f1248 := img_63 hI t1247
      have hIw_2v798 := ims_48 hI ew_2v798 t1247 (by omega) (by omega)
      refine ⟨fun c1249 => ?_, fun c1249 => ?_⟩
      · replace c1249 := c_neq tx2 lit_0 c1249
        exact hp _ _ _ _ tx6 hIw_2v798 
      · replace c1249 := c_eq tx2 lit_0 c1249
        exact hp _ _ _ _ tx5 hIw_2v798 
    · replace c1245 := c_nle tx4 tx7 c1245
      refine sX11_changesOf   (hI := hI) (tx1 := tx7) (tx2 := tx1) (h0 := (by omega)) (h1 := (by omega)) (hp := fun r_4v799 zr_4v799 w_5v800  tr_4v799 hIw_5v800  => ?_)
      refine ⟨fun c1250 => ?_, fun c1250 => ?_⟩
      · replace c1250 := c_lt tr_4v799 lit_0 c1250
        unfold pX11_tree_176
        obtain ⟨z1251, t1252, f1253⟩ := t_add tx7 lit_1
        first | replace f1253 := f1253 (by omega) | clear f1253
        intro x7_1v801 ex7_1v801
        have tx7_1v801 : Ti x7_1v801 z1251 := by rw [ex7_1v801]; exact t1252
        have f1254 := t_rng tx4
        exact ih _ _ _ _ _ _ _ _ _ _ _ _ _ tx1 tx2 tx4 tx5 tx6 tx7_1v801 hIw_5v800 (by omega) (by omega) (by omega) (by omega)
      · replace c1250 := c_nlt tr_4v799 lit_0 c1250
        refine ⟨fun c1255 => ?_, fun c1255 => ?_⟩
        · replace c1255 := c_lt tx5 lit_0 c1255
          unfold pX11_tree_112
          refine ⟨fun c1256 => ?_, fun c1256 => ?_⟩
          · replace c1256 := c_lt tx5 lit_0 c1256
            unfold pX11_tree_124
            unfold pX11_tree_132
            refine ⟨fun c1257 => ?_, fun c1257 => ?_⟩
            · replace c1257 := c_neq lit_1 lit_1 c1257
              unfold pX11_tree_172
              unfold pX11_tree_176
              obtain ⟨z1258, t1259, f1260⟩ := t_add tx7 lit_1
              first | replace f1260 := f1260 (by omega) | clear f1260
              intro x7_1v802 ex7_1v802
              have tx7_1v802 : Ti x7_1v802 z1258 := by rw [ex7_1v802]; exact t1259
              have f1261 := t_rng tx4
              exact ih _ _ _ _ _ _ _ _ _ _ _ _ _ tx1 tx2 tx4 tr_4v799 lit_1 tx7_1v802 hIw_5v800 (by omega) (by omega) (by omega) (by omega)
            · replace c1257 := c_eq lit_1 lit_1 c1257
              exact ⟨70000, sX11_tree_143  (M76 := (n : Int)) (hk76 := ih)  (hp := hp) 70000 _ _ _ _ _ _ _ _ _ _ _ _ _ _ _ tx1 tx2 tx4 lit_1 tx7 tr_4v799 lit_0 hIw_5v800 (by omega) (by omega) (by omega) (by omega) (by omega) (by omega) (by omega)⟩
          · replace c1256 := c_nlt tx5 lit_0 c1256
            refine ⟨fun c1262 => ?_, fun c1262 => ?_⟩
            · replace c1262 := c_le tx5 tr_4v799 c1262
              unfold pX11_tree_132
              obtain ⟨z1263, t1264, f1265⟩ := t_add tx6 lit_1
              first | replace f1265 := f1265 (by omega) | clear f1265
              refine ⟨fun c1266 => ?_, fun c1266 => ?_⟩
              · replace c1266 := c_neq t1264 lit_1 c1266
                unfold pX11_tree_172
                unfold pX11_tree_176
                obtain ⟨z1267, t1268, f1269⟩ := t_add tx7 lit_1
                first | replace f1269 := f1269 (by omega) | clear f1269
                intro x7_1v803 ex7_1v803
                have tx7_1v803 : Ti x7_1v803 z1267 := by rw [ex7_1v803]; exact t1268
                have f1270 := t_rng tx4
                exact ih _ _ _ _ _ _ _ _ _ _ _ _ _ tx1 tx2 tx4 tr_4v799 t1264 tx7_1v803 hIw_5v800 (by omega) (by omega) (by omega) (by omega)
              · replace c1266 := c_eq t1264 lit_1 c1266
                exact ⟨70000, sX11_tree_143  (M76 := (n : Int)) (hk76 := ih)  (hp := hp) 70000 _ _ _ _ _ _ _ _ _ _ _ _ _ _ _ tx1 tx2 tx4 t1264 tx7 tr_4v799 lit_0 hIw_5v800 (by omega) (by omega) (by omega) (by omega) (by omega) (by omega) (by omega)⟩
            · replace c1262 := c_nle tx5 tr_4v799 c1262
              unfold pX11_tree_124
              unfold pX11_tree_132
              refine ⟨fun c1271 => ?_, fun c1271 => ?_⟩
              · replace c1271 := c_neq lit_1 lit_1 c1271
                unfold pX11_tree_172
                unfold pX11_tree_176
                obtain ⟨z1272, t1273, f1274⟩ := t_add tx7 lit_1
                first | replace f1274 := f1274 (by omega) | clear f1274
                intro x7_1v804 ex7_1v804
                have tx7_1v804 : Ti x7_1v804 z1272 := by rw [ex7_1v804]; exact t1273
                have f1275 := t_rng tx4
                exact ih _ _ _ _ _ _ _ _ _ _ _ _ _ tx1 tx2 tx4 tr_4v799 lit_1 tx7_1v804 hIw_5v800 (by omega) (by omega) (by omega) (by omega)
              · replace c1271 := c_eq lit_1 lit_1 c1271
                exact ⟨70000, sX11_tree_143  (M76 := (n : Int)) (hk76 := ih)  (hp := hp) 70000 _ _ _ _ _ _ _ _ _ _ _ _ _ _ _ tx1 tx2 tx4 lit_1 tx7 tr_4v799 lit_0 hIw_5v800 (by omega) (by omega) (by omega) (by omega) (by omega) (by omega) (by omega)⟩
        · replace c1255 := c_nlt tx5 lit_0 c1255
          refine ⟨fun c1276 => ?_, fun c1276 => ?_⟩
          · replace c1276 := c_le tr_4v799 tx5 c1276
            unfold pX11_tree_112
            refine ⟨fun c1277 => ?_, fun c1277 => ?_⟩
            · replace c1277 := c_lt tx5 lit_0 c1277
              unfold pX11_tree_124
              unfold pX11_tree_132
              refine ⟨fun c1278 => ?_, fun c1278 => ?_⟩
              · replace c1278 := c_neq lit_1 lit_1 c1278
                unfold pX11_tree_172
                unfold pX11_tree_176
                obtain ⟨z1279, t1280, f1281⟩ := t_add tx7 lit_1
                first | replace f1281 := f1281 (by omega) | clear f1281
                intro x7_1v805 ex7_1v805
                have tx7_1v805 : Ti x7_1v805 z1279 := by rw [ex7_1v805]; exact t1280
                have f1282 := t_rng tx4
                exact ih _ _ _ _ _ _ _ _ _ _ _ _ _ tx1 tx2 tx4 tr_4v799 lit_1 tx7_1v805 hIw_5v800 (by omega) (by omega) (by omega) (by omega)
              · replace c1278 := c_eq lit_1 lit_1 c1278
                exact ⟨70000, sX11_tree_143  (M76 := (n : Int)) (hk76 := ih)  (hp := hp) 70000 _ _ _ _ _ _ _ _ _ _ _ _ _ _ _ tx1 tx2 tx4 lit_1 tx7 tr_4v799 lit_0 hIw_5v800 (by omega) (by omega) (by omega) (by omega) (by omega) (by omega) (by omega)⟩
            · replace c1277 := c_nlt tx5 lit_0 c1277
              refine ⟨fun c1283 => ?_, fun c1283 => ?_⟩
              · replace c1283 := c_le tx5 tr_4v799 c1283
                unfold pX11_tree_132
                obtain ⟨z1284, t1285, f1286⟩ := t_add tx6 lit_1
                first | replace f1286 := f1286 (by omega) | clear f1286
                refine ⟨fun c1287 => ?_, fun c1287 => ?_⟩
                · replace c1287 := c_neq t1285 lit_1 c1287
                  unfold pX11_tree_172
                  unfold pX11_tree_176
                  obtain ⟨z1288, t1289, f1290⟩ := t_add tx7 lit_1
                  first | replace f1290 := f1290 (by omega) | clear f1290
                  intro x7_1v806 ex7_1v806
                  have tx7_1v806 : Ti x7_1v806 z1288 := by rw [ex7_1v806]; exact t1289
                  have f1291 := t_rng tx4
                  exact ih _ _ _ _ _ _ _ _ _ _ _ _ _ tx1 tx2 tx4 tr_4v799 t1285 tx7_1v806 hIw_5v800 (by omega) (by omega) (by omega) (by omega)
                · replace c1287 := c_eq t1285 lit_1 c1287
                  exact ⟨70000, sX11_tree_143  (M76 := (n : Int)) (hk76 := ih)  (hp := hp) 70000 _ _ _ _ _ _ _ _ _ _ _ _ _ _ _ tx1 tx2 tx4 t1285 tx7 tr_4v799 lit_0 hIw_5v800 (by omega) (by omega) (by omega) (by omega) (by omega) (by omega) (by omega)⟩
              · replace c1283 := c_nle tx5 tr_4v799 c1283
                unfold pX11_tree_124
                unfold pX11_tree_132
                refine ⟨fun c1292 => ?_, fun c1292 => ?_⟩
                · replace c1292 := c_neq lit_1 lit_1 c1292
                  unfold pX11_tree_172
                  unfold pX11_tree_176
                  obtain ⟨z1293, t1294, f1295⟩ := t_add tx7 lit_1
                  first | replace f1295 := f1295 (by omega) | clear f1295
                  intro x7_1v807 ex7_1v807
                  have tx7_1v807 : Ti x7_1v807 z1293 := by rw [ex7_1v807]; exact t1294
                  have f1296 := t_rng tx4
                  exact ih _ _ _ _ _ _ _ _ _ _ _ _ _ tx1 tx2 tx4 tr_4v799 lit_1 tx7_1v807 hIw_5v800 (by omega) (by omega) (by omega) (by omega)
                · replace c1292 := c_eq lit_1 lit_1 c1292
                  exact ⟨70000, sX11_tree_143  (M76 := (n : Int)) (hk76 := ih)  (hp := hp) 70000 _ _ _ _ _ _ _ _ _ _ _ _ _ _ _ tx1 tx2 tx4 lit_1 tx7 tr_4v799 lit_0 hIw_5v800 (by omega) (by omega) (by omega) (by omega) (by omega) (by omega) (by omega)⟩
          · replace c1276 := c_nle tr_4v799 tx5 c1276
            unfold pX11_tree_176
            obtain ⟨z1297, t1298, f1299⟩ := t_add tx7 lit_1
            first | replace f1299 := f1299 (by omega) | clear f1299
            intro x7_1v808 ex7_1v808
            have tx7_1v808 : Ti x7_1v808 z1297 := by rw [ex7_1v808]; exact t1298
            have f1300 := t_rng tx4
            exact ih _ _ _ _ _ _ _ _ _ _ _ _ _ tx1 tx2 tx4 tx5 tx6 tx7_1v808 hIw_5v800 (by omega) (by omega) (by omega) (by omega)
