set_option maxHeartbeats 4000000 in
set_option maxRecDepth 100000 in
theorem sX10_canCast {T D : Int} {k : Nat} {post : Int32 → Wd → Prop} {x1 : Int32} {zx1 : Int} {x2 : Int32} {zx2 : Int} {x3 : Int32} {zx3 : Int} {w : Wd}  (tx1 : Ti x1 zx1) (tx2 : Ti x2 zx2) (tx3 : Ti x3 zx3) (hI : IX k T D w)  (hp : ∀ (r : Int32) (zr : Int), Ti r zr → ((zr = 0 ∨ (0 ≤ zx1 ∧ zx1 ≤ 23 ∧ 0 ≤ zx2 ∧ zx2 ≤ 3 ∧ 0 ≤ zx3 ∧ zx3 ≤ 9))) → post r w) : pX10_canCast   post  x1 x2 x3 w := by
  unfold pX10_canCast
  have hk := ix_k hI
  refine sX10_isSeal   (hI := hI) (tx1 := tx1)  (hp := fun r_1v948 zr_1v948 tr_1v948 p1975 => ?_)
  refine ⟨fun c1976 => ?_, fun c1976 => ?_⟩
  · replace c1976 := c_eq tr_1v948 lit_0 c1976
    exact hp _ _ lit_0 (by omega)
  · replace c1976 := c_neq tr_1v948 lit_0 c1976
    refine sX10_isHand   (hI := hI) (tx1 := tx2)  (hp := fun r_4v954 zr_4v954 tr_4v954 p1977 => ?_)
    refine ⟨fun c1978 => ?_, fun c1978 => ?_⟩
    · replace c1978 := c_eq tr_4v954 lit_0 c1978
      exact hp _ _ lit_0 (by omega)
    · replace c1978 := c_neq tr_4v954 lit_0 c1978
      refine sX10_isHeat   (hI := hI) (tx0 := tx3)  (hp := fun r_7v958 zr_7v958 tr_7v958 p1979 => ?_)
      refine ⟨fun c1980 => ?_, fun c1980 => ?_⟩
      · replace c1980 := c_eq tr_7v958 lit_0 c1980
        exact hp _ _ lit_0 (by omega)
      · replace c1980 := c_neq tr_7v958 lit_0 c1980
        exact hp _ _ lit_1 (by omega)
set_option maxHeartbeats 4000000 in
set_option maxRecDepth 100000 in
theorem sX10_cast {T D : Int} {k : Nat} {post : Int32 → Wd → Prop} {x1 : Int32} {zx1 : Int} {x2 : Int32} {zx2 : Int} {x3 : Int32} {zx3 : Int} {w : Wd}  (tx1 : Ti x1 zx1) (tx2 : Ti x2 zx2) (tx3 : Ti x3 zx3) (hI : IX k T D w)  (hp : ∀ (r : Int32) (zr : Int) (w9 : Wd) (D9 : Int), Ti r zr → IX k T D9 w9 → post r w9) : pX10_cast   post  x1 x2 x3 w := by
  unfold pX10_cast
  have hk := ix_k hI
  refine sX10_canCast   (hI := hI) (tx1 := tx1) (tx2 := tx2) (tx3 := tx3)  (hp := fun r_1v960 zr_1v960 tr_1v960 p1981 => ?_)
  refine ⟨fun c1982 => ?_, fun c1982 => ?_⟩
  · replace c1982 := c_eq tr_1v960 lit_0 c1982
    exact hp _ _ _ _ lit_m1 hI 
  · replace c1982 := c_neq tr_1v960 lit_0 c1982
    obtain ⟨z1983, t1984⟩ := t_any (w.1 160 0)
    have f1985 := ixg_c0 hI t1984
    refine ⟨fun c1986 => ?_, fun c1986 => ?_⟩
    · replace c1986 := c_le lit_24 t1984 c1986
      exact hp _ _ _ _ lit_m1 hI 
    · replace c1986 := c_nle lit_24 t1984 c1986
      obtain ⟨z1987, t1988, f1989⟩ := t_add lit_1 tx3
      first | replace f1989 := f1989 (by omega) | clear f1989
      obtain ⟨z1990, t1991⟩ := t_any (w.1 160 11)
      refine ⟨fun c1992 => ?_, fun c1992 => ?_⟩
      · replace c1992 := c_le t1988 t1991 c1992
        refine sX0_add   (hI := hI) (tx1 := lit_0) (tx2 := tx1) (tx3 := tx2) (tx4 := tx3)  (hp := fun  w_6v963 g1993  hIw_6v963  => ?_)
        obtain ⟨z1994, t1995⟩ := t_any (w_6v963.1 160 0)
        have f1996 := ixg_c0 hIw_6v963 t1995
        obtain ⟨z1997, t1998, f1999⟩ := t_sub t1995 lit_1
        first | replace f1999 := f1999 (by omega) | clear f1999
        exact hp _ _ _ _ t1998 hIw_6v963 
      · replace c1992 := c_nle t1988 t1991 c1992
        exact hp _ _ _ _ lit_m1 hI 
set_option maxHeartbeats 4000000 in
set_option maxRecDepth 100000 in
theorem sX10_print {T D : Int} {k : Nat} {post : Int32 → Wd → Prop} {x1 : Int32} {zx1 : Int} {w : Wd}  (tx1 : Ti x1 zx1) (hI : IX k T D w)  (hp : ∀ (r : Int32) (zr : Int) (w9 : Wd) (D9 : Int), Ti r zr → IX k T D9 w9 → post r w9) : pX10_print   post  x1 w := by
  unfold pX10_print
  have hk := ix_k hI
  refine sX10_isSeal   (hI := hI) (tx1 := tx1)  (hp := fun r_1v964 zr_1v964 tr_1v964 p2000 => ?_)
  refine ⟨fun c2001 => ?_, fun c2001 => ?_⟩
  · replace c2001 := c_eq tr_1v964 lit_0 c2001
    exact hp _ _ _ _ lit_m1 hI 
  · replace c2001 := c_neq tr_1v964 lit_0 c2001
    obtain ⟨z2002, t2003⟩ := t_any (w.1 160 6)
    have f2004 := ixg_c6 hI t2003
    refine ⟨fun c2005 => ?_, fun c2005 => ?_⟩
    · replace c2005 := c_le lit_40 t2003 c2005
      exact hp _ _ _ _ lit_m1 hI 
    · replace c2005 := c_nle lit_40 t2003 c2005
      obtain ⟨z2006, t2007⟩ := t_any (w.1 160 11)
      refine ⟨fun c2008 => ?_, fun c2008 => ?_⟩
      · replace c2008 := c_le lit_1 t2007 c2008
        refine sX0_add   (hI := hI) (tx1 := lit_1) (tx2 := tx1) (tx3 := lit_0) (tx4 := lit_0)  (hp := fun  w_6v967 g2009  hIw_6v967  => ?_)
        obtain ⟨z2010, t2011⟩ := t_any (w_6v967.1 160 6)
        have f2012 := ixg_c6 hIw_6v967 t2011
        obtain ⟨z2013, t2014, f2015⟩ := t_sub t2011 lit_1
        first | replace f2015 := f2015 (by omega) | clear f2015
        exact hp _ _ _ _ t2014 hIw_6v967 
      · replace c2008 := c_nle lit_1 t2007 c2008
        exact hp _ _ _ _ lit_m1 hI 
set_option maxHeartbeats 4000000 in
set_option maxRecDepth 100000 in
theorem sX10_isMark {T D : Int} {k : Nat} {post : Int32 → Wd → Prop} {x1 : Int32} {zx1 : Int} {w : Wd}  (tx1 : Ti x1 zx1) (hI : IX k T D w)  (hp : ∀ (r : Int32) (zr : Int), Ti r zr → ((zr = 0 ∨ (0 ≤ zx1 ∧ zx1 ≤ 11))) → post r w) : pX10_isMark   post  x1 w := by
  unfold pX10_isMark
  have hk := ix_k hI
  refine ⟨fun c2016 => ?_, fun c2016 => ?_⟩
  · replace c2016 := c_lt tx1 lit_0 c2016
    exact hp _ _ lit_0 (by omega)
  · replace c2016 := c_nlt tx1 lit_0 c2016
    obtain ⟨z2017, t2018⟩ := t_any (w.1 (rl (w.2.2.2.2 0)) 0)
    have f2019 := ixg_r0 hI t2018
    refine ⟨fun c2020 => ?_, fun c2020 => ?_⟩
    · replace c2020 := c_le t2018 tx1 c2020
      exact hp _ _ lit_0 (by omega)
    · replace c2020 := c_nle t2018 tx1 c2020
      exact hp _ _ lit_1 (by omega)
set_option maxHeartbeats 4000000 in
set_option maxRecDepth 100000 in
theorem sX10_sealHas {T D : Int} {k : Nat} {post : Int32 → Wd → Prop} {x1 : Int32} {zx1 : Int} {x2 : Int32} {zx2 : Int} {w : Wd}  (tx1 : Ti x1 zx1) (tx2 : Ti x2 zx2) (hI : IX k T D w)  (hp : ∀ (r : Int32) (zr : Int), Ti r zr → ((zr = 0 ∨ (0 ≤ zx1 ∧ zx1 ≤ 23))) → post r w) : pX10_sealHas   post  x1 x2 w := by
  unfold pX10_sealHas
  have hk := ix_k hI
  refine sX10_isSeal   (hI := hI) (tx1 := tx1)  (hp := fun r_1v968 zr_1v968 tr_1v968 p2021 => ?_)
  refine ⟨fun c2022 => ?_, fun c2022 => ?_⟩
  · replace c2022 := c_eq tr_1v968 lit_0 c2022
    exact hp _ _ lit_0 (by omega)
  · replace c2022 := c_neq tr_1v968 lit_0 c2022
    refine sX10_isMark   (hI := hI) (tx1 := tx2)  (hp := fun r_4v972 zr_4v972 tr_4v972 p2023 => ?_)
    refine ⟨fun c2024 => ?_, fun c2024 => ?_⟩
    · replace c2024 := c_eq tr_4v972 lit_0 c2024
      exact hp _ _ lit_0 (by omega)
    · replace c2024 := c_neq tr_4v972 lit_0 c2024
      refine ⟨vp_of tx1 (by omega) (by omega), ?_⟩
      obtain ⟨z2025, t2026, f2027⟩ := t_and (x := ((w.2.1 162 x1.toNatClampNeg) >>> (x2 &&& 31))) lit_1 (by decide)
      refine ⟨fun c2028 => ?_, fun c2028 => ?_⟩
      · replace c2028 := c_eq t2026 lit_0 c2028
        exact hp _ _ lit_0 (by omega)
      · replace c2028 := c_neq t2026 lit_0 c2028
        exact hp _ _ lit_1 (by omega)
set_option maxHeartbeats 4000000 in
set_option maxRecDepth 100000 in
theorem sX10_crack {T D : Int} {k : Nat} {post : Int32 → Wd → Prop} {x1 : Int32} {zx1 : Int} {x2 : Int32} {zx2 : Int} {w : Wd}  (tx1 : Ti x1 zx1) (tx2 : Ti x2 zx2) (hI : IX k T D w)  (hp : ∀ (r : Int32) (zr : Int) (w9 : Wd) (D9 : Int), Ti r zr → IX k T D9 w9 → post r w9) : pX10_crack   post  x1 x2 w := by
  unfold pX10_crack
  have hk := ix_k hI
  refine sX10_sealHas   (hI := hI) (tx1 := tx1) (tx2 := tx2)  (hp := fun r_1v974 zr_1v974 tr_1v974 p2029 => ?_)
  refine ⟨fun c2030 => ?_, fun c2030 => ?_⟩
  · replace c2030 := c_neq tr_1v974 lit_0 c2030
    refine sX0_add   (hI := hI) (tx1 := lit_2) (tx2 := tx1) (tx3 := tx2) (tx4 := lit_0)  (hp := fun  w_4v977 g2031  hIw_4v977  => ?_)
    exact hp _ _ _ _ lit_1 hIw_4v977 
  · replace c2030 := c_eq tr_1v974 lit_0 c2030
    exact hp _ _ _ _ lit_0 hI 
set_option maxHeartbeats 4000000 in
set_option maxRecDepth 100000 in
theorem sX10_year {T D : Int} {k : Nat} {post : Int32 → Wd → Prop}  {w : Wd}   (hI : IX k T D w)  (hp : ∀ (r : Int32) (zr : Int) (w9 : Wd) (D9 : Int), Ti r zr → IX k T D9 w9 → post r w9) : pX10_year   post   w := by
  unfold pX10_year
  have hk := ix_k hI
  obtain ⟨z2032, t2033⟩ := t_any (w.1 160 12)
  refine ⟨fun c2034 => ?_, fun c2034 => ?_⟩
  · replace c2034 := c_lt t2033 lit_999 c2034
    refine sX0_add   (hI := hI) (tx1 := lit_3) (tx2 := lit_0) (tx3 := lit_0) (tx4 := lit_0)  (hp := fun  w_2v978 g2035  hIw_2v978  => ?_)
    obtain ⟨z2036, t2037⟩ := t_any (w_2v978.1 160 12)
    exact hp _ _ _ _ t2037 hIw_2v978 
  · replace c2034 := c_nlt t2033 lit_999 c2034
    exact hp _ _ _ _ lit_m1 hI 
theorem sX0_takeBack {T D : Int} {k : Nat} {post : Wd → Prop} {x1 : Int32} {zx1 : Int} {w : Wd} (tx1 : Ti x1 zx1) (hI : IX k T D w) (hk : k < 1000) (h0 : 0 ≤ zx1 ∧ zx1 ≤ 39) (hp : ∀ (w9 : Wd), IX (k + 1) T D w9 → post w9) : pX0_takeBack post x1 w := by
  unfold pX0_takeBack
  have hJ := ix_up hI hk
  obtain ⟨z0, t0⟩ := t_any (w.1 160 0)
  obtain ⟨z6, t6⟩ := t_any (w.1 160 6)
  have b0 := ixg_c0 hI t0
  have b6 := ixg_c6 hI t6
  obtain ⟨y0, u0, f0⟩ := t_sub t0 lit_1
  replace f0 := f0 (by omega)
  obtain ⟨y6, u6, f6⟩ := t_sub t6 lit_1
  replace f6 := f6 (by omega)
  have hv : vp_in x1 40 := vp_of tx1 (by omega) (by omega)
  refine ⟨hv, fun c => ?_, fun c => ?_, fun c => ?_, fun c => ?_⟩
  · intro w_2 e2
    exact hp _ (ixs_n hJ e2 (by unfold nX; omega))
  · intro w_3 e3
    have i3 := ixs_c0 (c := 0) hJ e3 u0 (by omega) (by omega)
    refine ⟨hv, ?_⟩
    intro w_4 e4
    have i4 := ixs_n i3 e4 (by unfold nX; omega)
    refine ⟨hv, ?_⟩
    intro w_5 e5
    exact hp _ (ixs_n i4 e5 (by unfold nX; omega))
  · intro w_6 e6
    have i6 := ixs_c6 (c := 0) hJ e6 u6 (by omega) (by omega)
    intro w_7 e7
    exact hp _ (ixs_n i6 e7 (by unfold nX; omega))
  · refine ⟨hv, hv, ?_⟩
    exact sX2_flip (tx1 := rfl) (tx2 := rfl) (hI := hJ) (hp := fun w_8 i8 => hp _ i8)
theorem sX0_goBack {T D : Int} {k : Nat} {post : Int32 → Wd → Prop} {w : Wd} (hI : IX k T D w) (hk : k < 1000) (hp : ∀ (r : Int32) (zr : Int) (w9 : Wd) (D9 : Int), Ti r zr → IX (k + 1) T D9 w9 → (zr = 0 ∨ zr = 1) → post r w9) : pX0_goBack post w := by
  unfold pX0_goBack
  have hJ := ix_up hI hk
  obtain ⟨z, t⟩ := t_any (w.1 50 7)
  have b := ixg_50_7 hI t
  have b2 := ix_k hI
  obtain ⟨y, u, f⟩ := t_sub t lit_1
  replace f := f (by omega)
  refine ⟨fun c => hp _ _ _ _ lit_0 hJ (by omega), fun c => ⟨fun c2 => ?_, fun c2 => hp _ _ _ _ lit_0 hJ (by omega)⟩⟩
  replace c := c_nlt t lit_1 c
  replace c2 := c_le t lit_40 c2
  intro w_3 e3
  have i3 := ixs_50_7 hI e3 u (by omega) (by omega)
  intro w_4 e4
  have i4 := ixs_n i3 e4 (by unfold nX; omega)
  obtain ⟨z4, t4⟩ := t_any (w_4.1 50 7)
  have b4 := ixg_50_7 i4 t4
  exact sX0_takeBack t4 i4 hk (by omega) (fun w_5 i5 => hp _ _ _ _ lit_1 i5 (by omega))
theorem sX10_undo {T D : Int} {k : Nat} {post : Int32 → Wd → Prop} {w : Wd} (hI : IX k T D w) (hk : k < 1000) (hp : ∀ (r : Int32) (zr : Int) (w9 : Wd) (D9 : Int), Ti r zr → IX (k + 1) T D9 w9 → post r w9) : pX10_undo post w := by
  unfold pX10_undo
  exact sX0_goBack hI hk (fun r zr w9 D9 t i9 h => ⟨nar_ok t h, hp _ _ _ _ t i9⟩)
set_option maxHeartbeats 4000000 in
set_option maxRecDepth 100000 in
theorem sX0_goOn {T D : Int} {k : Nat} {post : Int32 → Wd → Prop}  {w : Wd}   (hI : IX k T D w)  (hp : ∀ (r : Int32) (zr : Int) (w9 : Wd) (D9 : Int), Ti r zr → IX k T D9 w9 → ((zr = 0 ∨ zr = 1)) → post r w9) : pX0_goOn   post   w := by
  unfold pX0_goOn
  have hk := ix_k hI
  obtain ⟨z2038, t2039⟩ := t_any (w.1 50 8)
  refine ⟨fun c2040 => ?_, fun c2040 => ?_⟩
  · replace c2040 := c_lt t2039 lit_1 c2040
    exact hp _ _ _ _ lit_0 hI (by omega)
  · replace c2040 := c_nlt t2039 lit_1 c2040
    obtain ⟨z2041, t2042⟩ := t_any (w.1 50 7)
    have f2043 := ixg_50_7 hI t2042
    refine ⟨fun c2044 => ?_, fun c2044 => ?_⟩
    · replace c2044 := c_lt t2042 lit_0 c2044
      exact hp _ _ _ _ lit_0 hI (by omega)
    · replace c2044 := c_nlt t2042 lit_0 c2044
      refine ⟨fun c2045 => ?_, fun c2045 => ?_⟩
      · replace c2045 := c_lt t2042 lit_40 c2045
        refine sX0_perform   (hI := hI) (tx1 := t2042) (h0 := (by omega)) (hp := fun  w_4v979   hIw_4v979  => ?_)
        intro w_5v980 ew_5v980
        obtain ⟨z2046, t2047⟩ := t_any (w_4v979.1 50 7)
        have f2048 := ixg_50_7 hIw_4v979 t2047
        obtain ⟨z2049, t2050, f2051⟩ := t_add t2047 lit_1
        first | replace f2051 := f2051 (by omega) | clear f2051
        have hIw_5v980 := ixs_50_7 hIw_4v979 ew_5v980 t2050 (by omega) (by omega)
        intro w_6v981 ew_6v981
        have hIw_6v981 := ixs_n hIw_5v980 ew_6v981 (by unfold nX; omega)
        exact hp _ _ _ _ lit_1 hIw_6v981 (by omega)
      · replace c2045 := c_nlt t2042 lit_40 c2045
        exact hp _ _ _ _ lit_0 hI (by omega)
set_option maxHeartbeats 4000000 in
set_option maxRecDepth 100000 in
theorem sX10_redo {T D : Int} {k : Nat} {post : Int32 → Wd → Prop}  {w : Wd}   (hI : IX k T D w)  (hp : ∀ (r : Int32) (zr : Int) (w9 : Wd) (D9 : Int), Ti r zr → IX k T D9 w9 → post r w9) : pX10_redo   post   w := by
  unfold pX10_redo
  have hk := ix_k hI
  refine sX0_goOn   (hI := hI)   (hp := fun r_1v982 zr_1v982 w_2v983 g2053 tr_1v982 hIw_2v983 p2052 => ?_)
  refine ⟨nar_ok tr_1v982 (by omega), ?_⟩
  exact hp _ _ _ _ tr_1v982 hIw_2v983 
set_option maxHeartbeats 4000000 in
set_option maxRecDepth 100000 in
theorem sX10_whose_31 {T D : Int} {k : Nat} {post : Int32 → Wd → Prop}   (hp : ∀ (r : Int32) (zr : Int) (w9 : Wd), Ti r zr → IX k T D w9 → post r w9) : ∀ (n : Nat) (x1 : Int32) (x2 : Int32) (x3 : Int32) (x4 : Int32) (x5 : Int32) (zx1 : Int) (zx2 : Int) (zx3 : Int) (zx4 : Int) (zx5 : Int) (w : Wd), Ti x1 zx1 → Ti x2 zx2 → Ti x3 zx3 → Ti x4 zx4 → Ti x5 zx5 → IX k T D w → (0 ≤ zx5 ∧ zx5 ≤ 4) → (0 ≤ zx1 ∧ zx1 ≤ 23) → (5 - zx5) < (n : Int) → pX10_whose_31   post  n x1 x2 x3 x4 x5 w := by
  intro n
  induction n with
  | zero =>
    intro x1 x2 x3 x4 x5 zx1 zx2 zx3 zx4 zx5 w tx1 tx2 tx3 tx4 tx5 hI h0 h1 hm
    exact absurd hm (by omega)
  | succ n ih =>
    intro x1 x2 x3 x4 x5 zx1 zx2 zx3 zx4 zx5 w tx1 tx2 tx3 tx4 tx5 hI h0 h1 hm
    unfold pX10_whose_31
    have hk := ix_k hI
    obtain ⟨z2054, t2055⟩ := t_any (w.1 (rl (w.2.2.2.2 0)) 2)
    have f2056 := ixg_r2 hI t2055
    refine ⟨fun c2057 => ?_, fun c2057 => ?_⟩
    · replace c2057 := c_le t2055 tx5 c2057
      exact hp _ _ _  tx4 hI 
    · replace c2057 := c_nle t2055 tx5 c2057
      refine ⟨vp_of tx1 (by omega) (by omega), ?_⟩
      obtain ⟨z2058, t2059⟩ := t_any (w.2.1 162 x1.toNatClampNeg)
      refine sX1_rowAfter   (hI := hI) (tx1 := t2059) (tx2 := tx5) (tx3 := tx2) (tx4 := lit_0)  (hp := fun r_2v984 zr_2v984 w_3v985  tr_2v984 hIw_3v985  => ?_)
      refine ⟨fun c2060 => ?_, fun c2060 => ?_⟩
      · replace c2060 := c_neq tr_2v984 tx3 c2060
        unfold pX10_whose_76
        obtain ⟨z2061, t2062, f2063⟩ := t_add tx5 lit_1
        first | replace f2063 := f2063 (by omega) | clear f2063
        intro x5_1v987 ex5_1v987
        have tx5_1v987 : Ti x5_1v987 z2061 := by rw [ex5_1v987]; exact t2062
        exact ih _ _ _ _ _ _ _ _ _ _ _ tx1 tx2 tx3 tx4 tx5_1v987 hIw_3v985 (by omega) (by omega) (by omega)
      · replace c2060 := c_eq tr_2v984 tx3 c2060
        obtain ⟨z2064, t2065⟩ := t_any (x4 ||| ((1 : Int32) <<< (x5 &&& 31)))
        intro x4_5v986 ex4_5v986
        have tx4_5v986 : Ti x4_5v986 z2064 := by rw [ex4_5v986]; exact t2065
        unfold pX10_whose_76
        obtain ⟨z2066, t2067, f2068⟩ := t_add tx5 lit_1
        first | replace f2068 := f2068 (by omega) | clear f2068
        intro x5_1v988 ex5_1v988
        have tx5_1v988 : Ti x5_1v988 z2066 := by rw [ex5_1v988]; exact t2067
        exact ih _ _ _ _ _ _ _ _ _ _ _ tx1 tx2 tx3 tx4_5v986 tx5_1v988 hIw_3v985 (by omega) (by omega) (by omega)
set_option maxHeartbeats 4000000 in
set_option maxRecDepth 100000 in
theorem sX10_whose {T D : Int} {k : Nat} {post : Int32 → Wd → Prop} {x1 : Int32} {zx1 : Int} {x2 : Int32} {zx2 : Int} {x3 : Int32} {zx3 : Int} {w : Wd}  (tx1 : Ti x1 zx1) (tx2 : Ti x2 zx2) (tx3 : Ti x3 zx3) (hI : IX k T D w)  (hp : ∀ (r : Int32) (zr : Int) (w9 : Wd), Ti r zr → IX k T D w9 → post r w9) : pX10_whose   post  x1 x2 x3 w := by
  unfold pX10_whose
  have hk := ix_k hI
  refine sX10_isSeal   (hI := hI) (tx1 := tx1)  (hp := fun r_1v989 zr_1v989 tr_1v989 p2069 => ?_)
  refine ⟨fun c2070 => ?_, fun c2070 => ?_⟩
  · replace c2070 := c_eq tr_1v989 lit_0 c2070
    exact hp _ _ _  lit_m1 hI 
  · replace c2070 := c_neq tr_1v989 lit_0 c2070
    refine sX10_isHeat   (hI := hI) (tx0 := tx2)  (hp := fun r_4v995 zr_4v995 tr_4v995 p2071 => ?_)
    refine ⟨fun c2072 => ?_, fun c2072 => ?_⟩
    · replace c2072 := c_eq tr_4v995 lit_0 c2072
      exact hp _ _ _  lit_m1 hI 
    · replace c2072 := c_neq tr_4v995 lit_0 c2072
      refine sX10_isRow   (hI := hI) (tx1 := tx3)  (hp := fun r_7v999 zr_7v999 tr_7v999 p2073 => ?_)
      refine ⟨fun c2074 => ?_, fun c2074 => ?_⟩
      · replace c2074 := c_neq tr_7v999 lit_0 c2074
        exact ⟨70000, sX10_whose_31   (hp := hp) 70000 _ _ _ _ _ _ _ _ _ _ _ tx1 tx2 tx3 lit_0 lit_0 hI (by omega) (by omega) (by omega)⟩
      · replace c2074 := c_eq tr_7v999 lit_0 c2074
        exact hp _ _ _  lit_m1 hI 
set_option maxHeartbeats 4000000 in
set_option maxRecDepth 100000 in
theorem sX10_printOf {T D : Int} {k : Nat} {post : Int32 → Wd → Prop} {x1 : Int32} {zx1 : Int} {w : Wd}  (tx1 : Ti x1 zx1) (hI : IX k T D w)  (hp : ∀ (r : Int32) (zr : Int), Ti r zr → post r w) : pX10_printOf   post  x1 w := by
  unfold pX10_printOf
  have hk := ix_k hI
  refine sX10_isSeal   (hI := hI) (tx1 := tx1)  (hp := fun r_1v1001 zr_1v1001 tr_1v1001 p2075 => ?_)
  refine ⟨fun c2076 => ?_, fun c2076 => ?_⟩
  · replace c2076 := c_eq tr_1v1001 lit_0 c2076
    exact hp _ _ lit_0 
  · replace c2076 := c_neq tr_1v1001 lit_0 c2076
    refine ⟨vp_of tx1 (by omega) (by omega), ?_⟩
    obtain ⟨z2077, t2078⟩ := t_any (w.2.1 162 x1.toNatClampNeg)
    obtain ⟨z2079, t2080⟩ := t_any (w.1 (rl (w.2.2.2.2 0)) 0)
    have f2081 := ixg_r0 hI t2080
    refine sX10_turn   (hI := hI) (tx0 := t2078) (tx1 := t2080)  (hp := fun r_4v1005 zr_4v1005 tr_4v1005 => ?_)
    exact hp _ _ tr_4v1005 
set_option maxHeartbeats 4000000 in
set_option maxRecDepth 100000 in
theorem sX10_made_25 {T D : Int} {k : Nat} {post : Int32 → Wd → Prop} {w : Wd}  (hp : ∀ (r : Int32) (zr : Int), Ti r zr → post r w) : ∀ (n : Nat) (x1 : Int32) (x2 : Int32) (x3 : Int32) (x4 : Int32) (zx1 : Int) (zx2 : Int) (zx3 : Int) (zx4 : Int), Ti x1 zx1 → Ti x2 zx2 → Ti x3 zx3 → Ti x4 zx4 → IX k T D w → (0 ≤ zx4 ∧ zx4 ≤ 24) → (25 - zx4) < (n : Int) → pX10_made_25   post  n x1 x2 x3 x4 w := by
  intro n
  induction n with
  | zero =>
    intro x1 x2 x3 x4 zx1 zx2 zx3 zx4  tx1 tx2 tx3 tx4 hI h0 hm
    exact absurd hm (by omega)
  | succ n ih =>
    intro x1 x2 x3 x4 zx1 zx2 zx3 zx4  tx1 tx2 tx3 tx4 hI h0 hm
    unfold pX10_made_25
    have hk := ix_k hI
    obtain ⟨z2082, t2083⟩ := t_any (w.1 160 0)
    have f2084 := ixg_c0 hI t2083
    refine ⟨fun c2085 => ?_, fun c2085 => ?_⟩
    · replace c2085 := c_le t2083 tx4 c2085
      exact hp _ _ tx3 
    · replace c2085 := c_nle t2083 tx4 c2085
      refine sX10_printOf   (hI := hI) (tx1 := tx4)  (hp := fun r_2v1007 zr_2v1007 tr_2v1007 => ?_)
      obtain ⟨z2086, t2087⟩ := t_any (x1 &&& (r_2v1007 ^^^ (-1 : Int32)))
      refine ⟨fun c2088 => ?_, fun c2088 => ?_⟩
      · replace c2088 := c_neq t2087 lit_0 c2088
        unfold pX10_made_74
        obtain ⟨z2089, t2090, f2091⟩ := t_add tx4 lit_1
        first | replace f2091 := f2091 (by omega) | clear f2091
        intro x4_1v1015 ex4_1v1015
        have tx4_1v1015 : Ti x4_1v1015 z2089 := by rw [ex4_1v1015]; exact t2090
        exact ih _ _ _ _ _ _ _ _  tx1 tx2 tx3 tx4_1v1015 hI (by omega) (by omega)
      · replace c2088 := c_eq t2087 lit_0 c2088
        obtain ⟨z2092, t2093⟩ := t_any (r_2v1007 &&& (x1 ^^^ (-1 : Int32)))
        refine sJ6_bitCount_0f7a4   (hI := hI) (tx0 := t2093)  (hp := fun r_5v1012 zr_5v1012 tr_5v1012 p2094 => ?_)
        refine ⟨fun c2095 => ?_, fun c2095 => ?_⟩
        · replace c2095 := c_lt tx2 tr_5v1012 c2095
          unfold pX10_made_74
          obtain ⟨z2096, t2097, f2098⟩ := t_add tx4 lit_1
          first | replace f2098 := f2098 (by omega) | clear f2098
          intro x4_1v1017 ex4_1v1017
          have tx4_1v1017 : Ti x4_1v1017 z2096 := by rw [ex4_1v1017]; exact t2097
          exact ih _ _ _ _ _ _ _ _  tx1 tx2 tx3 tx4_1v1017 hI (by omega) (by omega)
        · replace c2095 := c_nlt tx2 tr_5v1012 c2095
          obtain ⟨z2099, t2100⟩ := t_any (x3 ||| ((1 : Int32) <<< (x4 &&& 31)))
          intro x3_8v1016 ex3_8v1016
          have tx3_8v1016 : Ti x3_8v1016 z2099 := by rw [ex3_8v1016]; exact t2100
          unfold pX10_made_74
          obtain ⟨z2101, t2102, f2103⟩ := t_add tx4 lit_1
          first | replace f2103 := f2103 (by omega) | clear f2103
          intro x4_1v1018 ex4_1v1018
          have tx4_1v1018 : Ti x4_1v1018 z2101 := by rw [ex4_1v1018]; exact t2102
          exact ih _ _ _ _ _ _ _ _  tx1 tx2 tx3_8v1016 tx4_1v1018 hI (by omega) (by omega)
set_option maxHeartbeats 4000000 in
set_option maxRecDepth 100000 in
theorem sX10_made {T D : Int} {k : Nat} {post : Int32 → Wd → Prop} {x1 : Int32} {zx1 : Int} {x2 : Int32} {zx2 : Int} {w : Wd}  (tx1 : Ti x1 zx1) (tx2 : Ti x2 zx2) (hI : IX k T D w)  (hp : ∀ (r : Int32) (zr : Int), Ti r zr → post r w) : pX10_made   post  x1 x2 w := by
  unfold pX10_made
  have hk := ix_k hI
  refine sX10_isRow   (hI := hI) (tx1 := tx1)  (hp := fun r_1v1019 zr_1v1019 tr_1v1019 p2104 => ?_)
  refine ⟨fun c2105 => ?_, fun c2105 => ?_⟩
  · replace c2105 := c_eq tr_1v1019 lit_0 c2105
    exact hp _ _ lit_m1 
  · replace c2105 := c_neq tr_1v1019 lit_0 c2105
    refine ⟨fun c2106 => ?_, fun c2106 => ?_⟩
    · replace c2106 := c_lt tx2 lit_0 c2106
      exact hp _ _ lit_m1 
    · replace c2106 := c_nlt tx2 lit_0 c2106
      refine ⟨fun c2107 => ?_, fun c2107 => ?_⟩
      · replace c2107 := c_le tx2 lit_12 c2107
        exact ⟨70000, sX10_made_25   (hp := hp) 70000 _ _ _ _ _ _ _ _  tx1 tx2 lit_0 lit_0 hI (by omega) (by omega)⟩
      · replace c2107 := c_nle tx2 lit_12 c2107
        exact hp _ _ lit_m1 
set_option maxHeartbeats 4000000 in
set_option maxRecDepth 100000 in
theorem sX10_apart {T D : Int} {k : Nat} {post : Int32 → Wd → Prop} {x1 : Int32} {zx1 : Int} {x2 : Int32} {zx2 : Int} {x3 : Int32} {zx3 : Int} {w : Wd}  (tx1 : Ti x1 zx1) (tx2 : Ti x2 zx2) (tx3 : Ti x3 zx3) (hI : IX k T D w)  (hp : ∀ (r : Int32) (zr : Int), Ti r zr → post r w) : pX10_apart   post  x1 x2 x3 w := by
  unfold pX10_apart
  have hk := ix_k hI
  refine sX10_isSeal   (hI := hI) (tx1 := tx1)  (hp := fun r_1v1021 zr_1v1021 tr_1v1021 p2108 => ?_)
  refine ⟨fun c2109 => ?_, fun c2109 => ?_⟩
  · replace c2109 := c_eq tr_1v1021 lit_0 c2109
    exact hp _ _ lit_m1 
  · replace c2109 := c_neq tr_1v1021 lit_0 c2109
    refine sX10_isSeal   (hI := hI) (tx1 := tx2)  (hp := fun r_4v1027 zr_4v1027 tr_4v1027 p2110 => ?_)
    refine ⟨fun c2111 => ?_, fun c2111 => ?_⟩
    · replace c2111 := c_neq tr_4v1027 lit_0 c2111
      refine ⟨fun c2112 => ?_, fun c2112 => ?_⟩
      · replace c2112 := c_eq tx3 lit_0 c2112
        refine ⟨vp_of tx2 (by omega) (by omega), ?_⟩
        unfold pX10_apart_39
        refine ⟨vp_of tx1 (by omega) (by omega), ?_⟩
        obtain ⟨z2113, t2114⟩ := t_any ((w.2.1 162 x1.toNatClampNeg) ^^^ (w.2.1 162 x2.toNatClampNeg))
        refine sJ6_bitCount_0f7a4   (hI := hI) (tx0 := t2114)  (hp := fun r_1v1033 zr_1v1033 tr_1v1033 p2115 => ?_)
        exact hp _ _ tr_1v1033 
      · replace c2112 := c_neq tx3 lit_0 c2112
        refine sX10_printOf   (hI := hI) (tx1 := tx2)  (hp := fun r_8v1031 zr_8v1031 tr_8v1031 => ?_)
        unfold pX10_apart_39
        refine ⟨vp_of tx1 (by omega) (by omega), ?_⟩
        obtain ⟨z2116, t2117⟩ := t_any ((w.2.1 162 x1.toNatClampNeg) ^^^ r_8v1031)
        refine sJ6_bitCount_0f7a4   (hI := hI) (tx0 := t2117)  (hp := fun r_1v1035 zr_1v1035 tr_1v1035 p2118 => ?_)
        exact hp _ _ tr_1v1035 
    · replace c2111 := c_eq tr_4v1027 lit_0 c2111
      exact hp _ _ lit_m1 
set_option maxHeartbeats 4000000 in
set_option maxRecDepth 100000 in
theorem sX10_heats_32 {T D : Int} {k : Nat} {post : Int32 → Wd → Prop}   (hp : ∀ (r : Int32) (zr : Int) (w9 : Wd), Ti r zr → IX k T D w9 → post r w9) : ∀ (n : Nat) (x1 : Int32) (x2 : Int32) (x3 : Int32) (x4 : Int32) (x5 : Int32) (zx1 : Int) (zx2 : Int) (zx3 : Int) (zx4 : Int) (zx5 : Int) (w : Wd), Ti x1 zx1 → Ti x2 zx2 → Ti x3 zx3 → Ti x4 zx4 → Ti x5 zx5 → IX k T D w → (0 ≤ zx5 ∧ zx5 ≤ 10) → (0 ≤ zx1 ∧ zx1 ≤ 23) → (11 - zx5) < (n : Int) → pX10_heats_32   post  n x1 x2 x3 x4 x5 w := by
  intro n
  induction n with
  | zero =>
    intro x1 x2 x3 x4 x5 zx1 zx2 zx3 zx4 zx5 w tx1 tx2 tx3 tx4 tx5 hI h0 h1 hm
    exact absurd hm (by omega)
  | succ n ih =>
    intro x1 x2 x3 x4 x5 zx1 zx2 zx3 zx4 zx5 w tx1 tx2 tx3 tx4 tx5 hI h0 h1 hm
    unfold pX10_heats_32
    have hk := ix_k hI
    refine ⟨fun c2119 => ?_, fun c2119 => ?_⟩
    · replace c2119 := c_le lit_10 tx5 c2119
      exact hp _ _ _  tx4 hI 
    · replace c2119 := c_nle lit_10 tx5 c2119
      refine ⟨vp_of tx1 (by omega) (by omega), ?_⟩
      obtain ⟨z2120, t2121⟩ := t_any (w.2.1 162 x1.toNatClampNeg)
      refine sX1_rowAfter   (hI := hI) (tx1 := t2121) (tx2 := tx2) (tx3 := tx5) (tx4 := lit_0)  (hp := fun r_2v1037 zr_2v1037 w_3v1038  tr_2v1037 hIw_3v1038  => ?_)
      refine ⟨fun c2122 => ?_, fun c2122 => ?_⟩
      · replace c2122 := c_neq tr_2v1037 tx3 c2122
        unfold pX10_heats_72
        obtain ⟨z2123, t2124, f2125⟩ := t_add tx5 lit_1
        first | replace f2125 := f2125 (by omega) | clear f2125
        intro x5_1v1040 ex5_1v1040
        have tx5_1v1040 : Ti x5_1v1040 z2123 := by rw [ex5_1v1040]; exact t2124
        exact ih _ _ _ _ _ _ _ _ _ _ _ tx1 tx2 tx3 tx4 tx5_1v1040 hIw_3v1038 (by omega) (by omega) (by omega)
      · replace c2122 := c_eq tr_2v1037 tx3 c2122
        obtain ⟨z2126, t2127⟩ := t_any (x4 ||| ((1 : Int32) <<< (x5 &&& 31)))
        intro x4_5v1039 ex4_5v1039
        have tx4_5v1039 : Ti x4_5v1039 z2126 := by rw [ex4_5v1039]; exact t2127
        unfold pX10_heats_72
        obtain ⟨z2128, t2129, f2130⟩ := t_add tx5 lit_1
        first | replace f2130 := f2130 (by omega) | clear f2130
        intro x5_1v1041 ex5_1v1041
        have tx5_1v1041 : Ti x5_1v1041 z2128 := by rw [ex5_1v1041]; exact t2129
        exact ih _ _ _ _ _ _ _ _ _ _ _ tx1 tx2 tx3 tx4_5v1039 tx5_1v1041 hIw_3v1038 (by omega) (by omega) (by omega)
set_option maxHeartbeats 4000000 in
set_option maxRecDepth 100000 in
theorem sX10_heats {T D : Int} {k : Nat} {post : Int32 → Wd → Prop} {x1 : Int32} {zx1 : Int} {x2 : Int32} {zx2 : Int} {x3 : Int32} {zx3 : Int} {w : Wd}  (tx1 : Ti x1 zx1) (tx2 : Ti x2 zx2) (tx3 : Ti x3 zx3) (hI : IX k T D w)  (hp : ∀ (r : Int32) (zr : Int) (w9 : Wd), Ti r zr → IX k T D w9 → post r w9) : pX10_heats   post  x1 x2 x3 w := by
  unfold pX10_heats
  have hk := ix_k hI
  refine sX10_isSeal   (hI := hI) (tx1 := tx1)  (hp := fun r_1v1042 zr_1v1042 tr_1v1042 p2131 => ?_)
  refine ⟨fun c2132 => ?_, fun c2132 => ?_⟩
  · replace c2132 := c_eq tr_1v1042 lit_0 c2132
    exact hp _ _ _  lit_m1 hI 
  · replace c2132 := c_neq tr_1v1042 lit_0 c2132
    refine sX10_isHand   (hI := hI) (tx1 := tx2)  (hp := fun r_4v1048 zr_4v1048 tr_4v1048 p2133 => ?_)
    refine ⟨fun c2134 => ?_, fun c2134 => ?_⟩
    · replace c2134 := c_eq tr_4v1048 lit_0 c2134
      exact hp _ _ _  lit_m1 hI 
    · replace c2134 := c_neq tr_4v1048 lit_0 c2134
      refine sX10_isRow   (hI := hI) (tx1 := tx3)  (hp := fun r_7v1052 zr_7v1052 tr_7v1052 p2135 => ?_)
      refine ⟨fun c2136 => ?_, fun c2136 => ?_⟩
      · replace c2136 := c_neq tr_7v1052 lit_0 c2136
        exact ⟨70000, sX10_heats_32   (hp := hp) 70000 _ _ _ _ _ _ _ _ _ _ _ tx1 tx2 tx3 lit_0 lit_0 hI (by omega) (by omega) (by omega)⟩
      · replace c2136 := c_eq tr_7v1052 lit_0 c2136
        exact hp _ _ _  lit_m1 hI 
set_option maxHeartbeats 4000000 in
set_option maxRecDepth 100000 in
theorem sX10_luck_27 {T D : Int} {k : Nat} {post : Int32 → Wd → Prop}   (hp : ∀ (r : Int32) (zr : Int) (w9 : Wd), Ti r zr → IX k T D w9 → post r w9) : ∀ (n : Nat) (x1 : Int32) (x2 : Int32) (x3 : Int32) (x4 : Int32) (x5 : Int32) (x6 : Int32) (zx1 : Int) (zx2 : Int) (zx3 : Int) (zx4 : Int) (zx5 : Int) (zx6 : Int) (w : Wd), Ti x1 zx1 → Ti x2 zx2 → Ti x3 zx3 → Ti x4 zx4 → Ti x5 zx5 → Ti x6 zx6 → IX k T D w → (0 ≤ zx6 ∧ zx6 ≤ 100) → (0 ≤ zx1 ∧ zx1 ≤ 23) → (101 - zx6) < (n : Int) → pX10_luck_27   post  n x1 x2 x3 x4 x5 x6 w := by
  intro n
  induction n with
  | zero =>
    intro x1 x2 x3 x4 x5 x6 zx1 zx2 zx3 zx4 zx5 zx6 w tx1 tx2 tx3 tx4 tx5 tx6 hI h0 h1 hm
    exact absurd hm (by omega)
  | succ n ih =>
    intro x1 x2 x3 x4 x5 x6 zx1 zx2 zx3 zx4 zx5 zx6 w tx1 tx2 tx3 tx4 tx5 tx6 hI h0 h1 hm
    unfold pX10_luck_27
    have hk := ix_k hI
    refine ⟨fun c2137 => ?_, fun c2137 => ?_⟩
    · replace c2137 := c_le lit_100 tx6 c2137
      exact hp _ _ _  tx5 hI 
    · replace c2137 := c_nle lit_100 tx6 c2137
      refine ⟨vp_of tx1 (by omega) (by omega), ?_⟩
      obtain ⟨z2138, t2139⟩ := t_any (w.2.1 162 x1.toNatClampNeg)
      refine sX1_rowAfter   (hI := hI) (tx1 := t2139) (tx2 := tx2) (tx3 := tx3) (tx4 := tx6)  (hp := fun r_2v1054 zr_2v1054 w_3v1055  tr_2v1054 hIw_3v1055  => ?_)
      refine ⟨fun c2140 => ?_, fun c2140 => ?_⟩
      · replace c2140 := c_neq tr_2v1054 tx4 c2140
        unfold pX10_luck_62
        obtain ⟨z2141, t2142, f2143⟩ := t_add tx6 lit_1
        first | replace f2143 := f2143 (by omega) | clear f2143
        intro x6_1v1057 ex6_1v1057
        have tx6_1v1057 : Ti x6_1v1057 z2141 := by rw [ex6_1v1057]; exact t2142
        exact ih _ _ _ _ _ _ _ _ _ _ _ _ _ tx1 tx2 tx3 tx4 tx5 tx6_1v1057 hIw_3v1055 (by omega) (by omega) (by omega)
      · replace c2140 := c_eq tr_2v1054 tx4 c2140
        obtain ⟨z2144, t2145, f2146⟩ := t_add tx5 lit_1
        first | replace f2146 := f2146 (by omega) | clear f2146
        intro x5_5v1056 ex5_5v1056
        have tx5_5v1056 : Ti x5_5v1056 z2144 := by rw [ex5_5v1056]; exact t2145
        unfold pX10_luck_62
        obtain ⟨z2147, t2148, f2149⟩ := t_add tx6 lit_1
        first | replace f2149 := f2149 (by omega) | clear f2149
        intro x6_1v1058 ex6_1v1058
        have tx6_1v1058 : Ti x6_1v1058 z2147 := by rw [ex6_1v1058]; exact t2148
        exact ih _ _ _ _ _ _ _ _ _ _ _ _ _ tx1 tx2 tx3 tx4 tx5_5v1056 tx6_1v1058 hIw_3v1055 (by omega) (by omega) (by omega)
set_option maxHeartbeats 4000000 in
set_option maxRecDepth 100000 in
theorem sX10_luck {T D : Int} {k : Nat} {post : Int32 → Wd → Prop} {x1 : Int32} {zx1 : Int} {x2 : Int32} {zx2 : Int} {x3 : Int32} {zx3 : Int} {x4 : Int32} {zx4 : Int} {w : Wd}  (tx1 : Ti x1 zx1) (tx2 : Ti x2 zx2) (tx3 : Ti x3 zx3) (tx4 : Ti x4 zx4) (hI : IX k T D w)  (hp : ∀ (r : Int32) (zr : Int) (w9 : Wd), Ti r zr → IX k T D w9 → post r w9) : pX10_luck   post  x1 x2 x3 x4 w := by
  unfold pX10_luck
  have hk := ix_k hI
  refine sX10_canCast   (hI := hI) (tx1 := tx1) (tx2 := tx2) (tx3 := tx3)  (hp := fun r_1v1059 zr_1v1059 tr_1v1059 p2150 => ?_)
  refine ⟨fun c2151 => ?_, fun c2151 => ?_⟩
  · replace c2151 := c_eq tr_1v1059 lit_0 c2151
    exact hp _ _ _  lit_m1 hI 
  · replace c2151 := c_neq tr_1v1059 lit_0 c2151
    refine sX10_isRow   (hI := hI) (tx1 := tx4)  (hp := fun r_4v1063 zr_4v1063 tr_4v1063 p2152 => ?_)
    refine ⟨fun c2153 => ?_, fun c2153 => ?_⟩
    · replace c2153 := c_neq tr_4v1063 lit_0 c2153
      exact ⟨70000, sX10_luck_27   (hp := hp) 70000 _ _ _ _ _ _ _ _ _ _ _ _ _ tx1 tx2 tx3 tx4 lit_0 lit_0 hI (by omega) (by omega) (by omega)⟩
    · replace c2153 := c_eq tr_4v1063 lit_0 c2153
      exact hp _ _ _  lit_m1 hI 
set_option maxHeartbeats 4000000 in
set_option maxRecDepth 100000 in
theorem sX10_clearByRow_2 {T D : Int} {k : Nat} {post : Wd → Prop}   (hp : ∀ (w9 : Wd), IX k T D w9 → post w9) : ∀ (n : Nat) (x1 : Int32) (zx1 : Int) (w : Wd), Ti x1 zx1 → IX k T D w → (0 ≤ zx1 ∧ zx1 ≤ 4096) → (4097 - zx1) < (n : Int) → pX10_clearByRow_2   post  n x1 w := by
  intro n
  induction n with
  | zero =>
    intro x1 zx1 w tx1 hI h0 hm
    exact absurd hm (by omega)
  | succ n ih =>
    intro x1 zx1 w tx1 hI h0 hm
    unfold pX10_clearByRow_2
    have hk := ix_k hI
    refine sX7_rows   (hI := hI)   (hp := fun r_1v1065 zr_1v1065 tr_1v1065 p2154 => ?_)
    refine ⟨fun c2155 => ?_, fun c2155 => ?_⟩
    · replace c2155 := c_le tr_1v1065 tx1 c2155
      exact hp  _   hI 
    · replace c2155 := c_nle tr_1v1065 tx1 c2155
      refine ⟨vp_of tx1 (by omega) (by omega), ?_⟩
      intro w_4v1069 ew_4v1069
      have hIw_4v1069 := ixs_A hI ew_4v1069 (by decide)
      obtain ⟨z2156, t2157, f2158⟩ := t_add tx1 lit_1
      first | replace f2158 := f2158 (by omega) | clear f2158
      intro x1_5v1070 ex1_5v1070
      have tx1_5v1070 : Ti x1_5v1070 z2156 := by rw [ex1_5v1070]; exact t2157
      exact ih _ _ _ tx1_5v1070 hIw_4v1069 (by omega) (by omega)
set_option maxHeartbeats 4000000 in
set_option maxRecDepth 100000 in
theorem sX10_clearByRow {T D : Int} {k : Nat} {post : Wd → Prop}  {w : Wd}   (hI : IX k T D w)  (hp : ∀ (w9 : Wd), IX k T D w9 → post w9) : pX10_clearByRow   post   w := by
  unfold pX10_clearByRow
  have hk := ix_k hI
  exact ⟨70000, sX10_clearByRow_2   (hp := hp) 70000 _ _ _ lit_0 hI (by omega) (by omega)⟩
set_option maxHeartbeats 4000000 in
set_option maxRecDepth 100000 in
theorem sX10_likely_91 {T D : Int} {k : Nat} {post : Int32 → Wd → Prop}   (hp : ∀ (r : Int32) (zr : Int) (w9 : Wd), Ti r zr → IX k T D w9 → post r w9) : ∀ (n : Nat) (x4 : Int32) (x5 : Int32) (x6 : Int32) (zx4 : Int) (zx5 : Int) (zx6 : Int) (w : Wd), Ti x4 zx4 → Ti x5 zx5 → Ti x6 zx6 → IX k T D w → (0 ≤ zx6 ∧ zx6 ≤ 4096) → (0 ≤ zx5 ∧ zx5 ≤ 4095) → (4097 - zx6) < (n : Int) → pX10_likely_91   post  n x4 x5 x6 w := by
  intro n
  induction n with
  | zero =>
    intro x4 x5 x6 zx4 zx5 zx6 w tx4 tx5 tx6 hI h0 h1 hm
    exact absurd hm (by omega)
  | succ n ih =>
    intro x4 x5 x6 zx4 zx5 zx6 w tx4 tx5 tx6 hI h0 h1 hm
    unfold pX10_likely_91
    have hk := ix_k hI
    refine sX7_rows   (hI := hI)   (hp := fun r_1v1071 zr_1v1071 tr_1v1071 p2159 => ?_)
    refine ⟨fun c2160 => ?_, fun c2160 => ?_⟩
    · replace c2160 := c_le tr_1v1071 tx6 c2160
      refine ⟨fun c2161 => ?_, fun c2161 => ?_⟩
      · replace c2161 := c_neq tx4 lit_0 c2161
        refine ⟨vp_of tx5 (by omega) (by omega), ?_⟩
        obtain ⟨z2162, t2163⟩ := t_any (w.2.1 13 x5.toNatClampNeg)
        exact hp _ _ _  t2163 hI 
      · replace c2161 := c_eq tx4 lit_0 c2161
        exact hp _ _ _  tx5 hI 
    · replace c2160 := c_nle tr_1v1071 tx6 c2160
      refine ⟨vp_of tx6 (by omega) (by omega), ?_⟩
      refine ⟨vp_of tx5 (by omega) (by omega), ?_⟩
      obtain ⟨z2164, t2165⟩ := t_any (w.2.1 13 x6.toNatClampNeg)
      obtain ⟨z2166, t2167⟩ := t_any (w.2.1 13 x5.toNatClampNeg)
      refine ⟨fun c2168 => ?_, fun c2168 => ?_⟩
      · replace c2168 := c_le t2165 t2167 c2168
        unfold pX10_likely_124
        obtain ⟨z2169, t2170, f2171⟩ := t_add tx6 lit_1
        first | replace f2171 := f2171 (by omega) | clear f2171
        intro x6_1v1073 ex6_1v1073
        have tx6_1v1073 : Ti x6_1v1073 z2169 := by rw [ex6_1v1073]; exact t2170
        exact ih _ _ _ _ _ _ _ tx4 tx5 tx6_1v1073 hI (by omega) (by omega) (by omega)
      · replace c2168 := c_nle t2165 t2167 c2168
        unfold pX10_likely_124
        obtain ⟨z2172, t2173, f2174⟩ := t_add tx6 lit_1
        first | replace f2174 := f2174 (by omega) | clear f2174
        intro x6_1v1074 ex6_1v1074
        have tx6_1v1074 : Ti x6_1v1074 z2172 := by rw [ex6_1v1074]; exact t2173
        exact ih _ _ _ _ _ _ _ tx4 tx6 tx6_1v1074 hI (by omega) (by omega) (by omega)
set_option maxHeartbeats 4000000 in
set_option maxRecDepth 100000 in
theorem sX10_likely_30 {T D : Int} {k : Nat} {post : Int32 → Wd → Prop}   (hp : ∀ (r : Int32) (zr : Int) (w9 : Wd), Ti r zr → IX k T D w9 → post r w9) : ∀ (n : Nat) (x1 : Int32) (x2 : Int32) (x3 : Int32) (x4 : Int32) (x5 : Int32) (zx1 : Int) (zx2 : Int) (zx3 : Int) (zx4 : Int) (zx5 : Int) (w : Wd), Ti x1 zx1 → Ti x2 zx2 → Ti x3 zx3 → Ti x4 zx4 → Ti x5 zx5 → IX k T D w → (0 ≤ zx5 ∧ zx5 ≤ 100) → (0 ≤ zx1 ∧ zx1 ≤ 23) → (101 - zx5) < (n : Int) → pX10_likely_30   post  n x1 x2 x3 x4 x5 w := by
  intro n
  induction n with
  | zero =>
    intro x1 x2 x3 x4 x5 zx1 zx2 zx3 zx4 zx5 w tx1 tx2 tx3 tx4 tx5 hI h0 h1 hm
    exact absurd hm (by omega)
  | succ n ih =>
    intro x1 x2 x3 x4 x5 zx1 zx2 zx3 zx4 zx5 w tx1 tx2 tx3 tx4 tx5 hI h0 h1 hm
    unfold pX10_likely_30
    have hk := ix_k hI
    refine ⟨fun c2175 => ?_, fun c2175 => ?_⟩
    · replace c2175 := c_le lit_100 tx5 c2175
      exact ⟨70000, sX10_likely_91   (hp := hp) 70000 _ _ _ _ _ _ _ tx4 lit_0 lit_1 hI (by omega) (by omega) (by omega)⟩
    · replace c2175 := c_nle lit_100 tx5 c2175
      refine ⟨vp_of tx1 (by omega) (by omega), ?_⟩
      obtain ⟨z2176, t2177⟩ := t_any (w.2.1 162 x1.toNatClampNeg)
      refine sX1_rowAfter   (hI := hI) (tx1 := t2177) (tx2 := tx2) (tx3 := tx3) (tx4 := tx5)  (hp := fun r_2v1075 zr_2v1075 w_3v1076  tr_2v1075 hIw_3v1076  => ?_)
      refine sX10_isRow   (hI := hIw_3v1076) (tx1 := tr_2v1075)  (hp := fun r_4v1077 zr_4v1077 tr_4v1077 p2178 => ?_)
      refine ⟨fun c2179 => ?_, fun c2179 => ?_⟩
      · replace c2179 := c_eq tr_4v1077 lit_0 c2179
        unfold pX10_likely_79
        obtain ⟨z2180, t2181, f2182⟩ := t_add tx5 lit_1
        first | replace f2182 := f2182 (by omega) | clear f2182
        intro x5_1v1081 ex5_1v1081
        have tx5_1v1081 : Ti x5_1v1081 z2180 := by rw [ex5_1v1081]; exact t2181
        exact ih _ _ _ _ _ _ _ _ _ _ _ tx1 tx2 tx3 tx4 tx5_1v1081 hIw_3v1076 (by omega) (by omega) (by omega)
      · replace c2179 := c_neq tr_4v1077 lit_0 c2179
        refine ⟨vp_of tr_2v1075 (by omega) (by omega), ?_⟩
        refine ⟨vp_of tr_2v1075 (by omega) (by omega), ?_⟩
        intro w_7v1080 ew_7v1080
        have hIw_7v1080 := ixs_A hIw_3v1076 ew_7v1080 (by decide)
        unfold pX10_likely_79
        obtain ⟨z2183, t2184, f2185⟩ := t_add tx5 lit_1
        first | replace f2185 := f2185 (by omega) | clear f2185
        intro x5_1v1082 ex5_1v1082
        have tx5_1v1082 : Ti x5_1v1082 z2183 := by rw [ex5_1v1082]; exact t2184
        exact ih _ _ _ _ _ _ _ _ _ _ _ tx1 tx2 tx3 tx4 tx5_1v1082 hIw_7v1080 (by omega) (by omega) (by omega)
set_option maxHeartbeats 4000000 in
set_option maxRecDepth 100000 in
theorem sX10_likely {T D : Int} {k : Nat} {post : Int32 → Wd → Prop} {x1 : Int32} {zx1 : Int} {x2 : Int32} {zx2 : Int} {x3 : Int32} {zx3 : Int} {x4 : Int32} {zx4 : Int} {w : Wd}  (tx1 : Ti x1 zx1) (tx2 : Ti x2 zx2) (tx3 : Ti x3 zx3) (tx4 : Ti x4 zx4) (hI : IX k T D w)  (hp : ∀ (r : Int32) (zr : Int) (w9 : Wd), Ti r zr → IX k T D w9 → post r w9) : pX10_likely   post  x1 x2 x3 x4 w := by
  unfold pX10_likely
  have hk := ix_k hI
  refine sX10_canCast   (hI := hI) (tx1 := tx1) (tx2 := tx2) (tx3 := tx3)  (hp := fun r_1v1083 zr_1v1083 tr_1v1083 p2186 => ?_)
  refine ⟨fun c2187 => ?_, fun c2187 => ?_⟩
  · replace c2187 := c_eq tr_1v1083 lit_0 c2187
    exact hp _ _ _  lit_m1 hI 
  · replace c2187 := c_neq tr_1v1083 lit_0 c2187
    refine ⟨fun c2188 => ?_, fun c2188 => ?_⟩
    · replace c2188 := c_lt tx4 lit_0 c2188
      exact hp _ _ _  lit_m1 hI 
    · replace c2188 := c_nlt tx4 lit_0 c2188
      refine ⟨fun c2189 => ?_, fun c2189 => ?_⟩
      · replace c2189 := c_le tx4 lit_1 c2189
        refine sX10_clearByRow   (hI := hI)   (hp := fun  w_6v1086   hIw_6v1086  => ?_)
        exact ⟨70000, sX10_likely_30   (hp := hp) 70000 _ _ _ _ _ _ _ _ _ _ _ tx1 tx2 tx3 tx4 lit_0 hIw_6v1086 (by omega) (by omega) (by omega)⟩
      · replace c2189 := c_nle tx4 lit_1 c2189
        exact hp _ _ _  lit_m1 hI 
set_option maxHeartbeats 4000000 in
set_option maxRecDepth 100000 in
theorem sX10_goRound_10 {T D : Int} {k : Nat} {post : Int32 → Wd → Prop}   (hp : ∀ (r : Int32) (zr : Int) (w9 : Wd), Ti r zr → IX k T D w9 → post r w9) : ∀ (n : Nat) (x2 : Int32) (x3 : Int32) (x4 : Int32) (x5 : Int32) (zx2 : Int) (zx3 : Int) (zx4 : Int) (zx5 : Int) (w : Wd), Ti x2 zx2 → Ti x3 zx3 → Ti x4 zx4 → Ti x5 zx5 → IX k T D w → (0 ≤ zx5 ∧ zx5 ≤ 4097) → (4098 - zx5) < (n : Int) → pX10_goRound_10   post  n x2 x3 x4 x5 w := by
  intro n
  induction n with
  | zero =>
    intro x2 x3 x4 x5 zx2 zx3 zx4 zx5 w tx2 tx3 tx4 tx5 hI h0 hm
    exact absurd hm (by omega)
  | succ n ih =>
    intro x2 x3 x4 x5 zx2 zx3 zx4 zx5 w tx2 tx3 tx4 tx5 hI h0 hm
    unfold pX10_goRound_10
    have hk := ix_k hI
    refine sX7_rows   (hI := hI)   (hp := fun r_1v1087 zr_1v1087 tr_1v1087 p2190 => ?_)
    refine ⟨fun c2191 => ?_, fun c2191 => ?_⟩
    · replace c2191 := c_lt tr_1v1087 tx5 c2191
      exact hp _ _ _  tx4 hI 
    · replace c2191 := c_nlt tr_1v1087 tx5 c2191
      refine sX10_isRow   (hI := hI) (tx1 := tx4)  (hp := fun r_4v1095 zr_4v1095 tr_4v1095 p2192 => ?_)
      refine ⟨fun c2193 => ?_, fun c2193 => ?_⟩
      · replace c2193 := c_eq tr_4v1095 lit_0 c2193
        exact hp _ _ _  tx4 hI 
      · replace c2193 := c_neq tr_4v1095 lit_0 c2193
        refine ⟨vp_of tx4 (by omega) (by omega), ?_⟩
        obtain ⟨z2194, t2195⟩ := t_any (w.2.1 13 x4.toNatClampNeg)
        refine ⟨fun c2196 => ?_, fun c2196 => ?_⟩
        · replace c2196 := c_neq t2195 lit_0 c2196
          exact hp _ _ _  tx4 hI 
        · replace c2196 := c_eq t2195 lit_0 c2196
          refine ⟨vp_of tx4 (by omega) (by omega), ?_⟩
          intro w_8v1101 ew_8v1101
          have hIw_8v1101 := ixs_A hI ew_8v1101 (by decide)
          refine sX1_rowAfter   (hI := hIw_8v1101) (tx1 := tx4) (tx2 := tx2) (tx3 := tx3) (tx4 := lit_0)  (hp := fun r_9v1102 zr_9v1102 w_10v1103  tr_9v1102 hIw_10v1103  => ?_)
          obtain ⟨z2197, t2198, f2199⟩ := t_add tx5 lit_1
          first | replace f2199 := f2199 (by omega) | clear f2199
          intro x5_11v1104 ex5_11v1104
          have tx5_11v1104 : Ti x5_11v1104 z2197 := by rw [ex5_11v1104]; exact t2198
          exact ih _ _ _ _ _ _ _ _ _ tx2 tx3 tr_9v1102 tx5_11v1104 hIw_10v1103 (by omega) (by omega)
set_option maxHeartbeats 4000000 in
set_option maxRecDepth 100000 in
theorem sX10_goRound {T D : Int} {k : Nat} {post : Int32 → Wd → Prop} {x1 : Int32} {zx1 : Int} {x2 : Int32} {zx2 : Int} {x3 : Int32} {zx3 : Int} {w : Wd}  (tx1 : Ti x1 zx1) (tx2 : Ti x2 zx2) (tx3 : Ti x3 zx3) (hI : IX k T D w)  (hp : ∀ (r : Int32) (zr : Int) (w9 : Wd), Ti r zr → IX k T D w9 → post r w9) : pX10_goRound   post  x1 x2 x3 w := by
  unfold pX10_goRound
  have hk := ix_k hI
  refine sX10_clearByRow   (hI := hI)   (hp := fun  w_1v1105   hIw_1v1105  => ?_)
  exact ⟨70000, sX10_goRound_10   (hp := hp) 70000 _ _ _ _ _ _ _ _ _ tx2 tx3 tx1 lit_1 hIw_1v1105 (by omega) (by omega)⟩
set_option maxHeartbeats 4000000 in
set_option maxRecDepth 100000 in
theorem sX10_fades {T D : Int} {k : Nat} {post : Int32 → Wd → Prop} {x1 : Int32} {zx1 : Int} {x2 : Int32} {zx2 : Int} {x3 : Int32} {zx3 : Int} {w : Wd}  (tx1 : Ti x1 zx1) (tx2 : Ti x2 zx2) (tx3 : Ti x3 zx3) (hI : IX k T D w)  (hp : ∀ (r : Int32) (zr : Int) (w9 : Wd), Ti r zr → IX k T D w9 → post r w9) : pX10_fades   post  x1 x2 x3 w := by
  unfold pX10_fades
  have hk := ix_k hI
  refine sX10_canCast   (hI := hI) (tx1 := tx1) (tx2 := tx2) (tx3 := tx3)  (hp := fun r_1v1106 zr_1v1106 tr_1v1106 p2200 => ?_)
  refine ⟨fun c2201 => ?_, fun c2201 => ?_⟩
  · replace c2201 := c_neq tr_1v1106 lit_0 c2201
    refine ⟨vp_of tx1 (by omega) (by omega), ?_⟩
    obtain ⟨z2202, t2203⟩ := t_any (w.2.1 162 x1.toNatClampNeg)
    refine sX10_goRound   (hI := hI) (tx1 := t2203) (tx2 := tx2) (tx3 := tx3)  (hp := fun r_4v1110 zr_4v1110 w_5v1111  tr_4v1110 hIw_5v1111  => ?_)
    obtain ⟨z2204, t2205⟩ := t_any (w_5v1111.2.1 13 (0 : Int32).toNatClampNeg)
    obtain ⟨z2206, t2207, f2208⟩ := t_sub t2205 lit_1
    first | replace f2208 := f2208 (by omega) | clear f2208
    exact hp _ _ _  t2207 hIw_5v1111 
  · replace c2201 := c_eq tr_1v1106 lit_0 c2201
    exact hp _ _ _  lit_m1 hI 
set_option maxHeartbeats 4000000 in
set_option maxRecDepth 100000 in
theorem sX10_kin_36 {T D : Int} {k : Nat} {post : Int32 → Wd → Prop} {w : Wd}  (hp : ∀ (r : Int32) (zr : Int), Ti r zr → post r w) : ∀ (n : Nat) (x1 : Int32) (x2 : Int32) (x3 : Int32) (x4 : Int32) (x5 : Int32) (x6 : Int32) (zx1 : Int) (zx2 : Int) (zx3 : Int) (zx4 : Int) (zx5 : Int) (zx6 : Int), Ti x1 zx1 → Ti x2 zx2 → Ti x3 zx3 → Ti x4 zx4 → Ti x5 zx5 → Ti x6 zx6 → IX k T D w → (0 ≤ zx6 ∧ zx6 ≤ 48) → (0 ≤ zx1 ∧ zx1 ≤ 23) → (0 ≤ zx2 ∧ zx2 ≤ 23) → (49 - zx6) < (n : Int) → pX10_kin_36   post  n x1 x2 x3 x4 x5 x6 w := by
  intro n
  induction n with
  | zero =>
    intro x1 x2 x3 x4 x5 x6 zx1 zx2 zx3 zx4 zx5 zx6  tx1 tx2 tx3 tx4 tx5 tx6 hI h0 h1 h2 hm
    exact absurd hm (by omega)
  | succ n ih =>
    intro x1 x2 x3 x4 x5 x6 zx1 zx2 zx3 zx4 zx5 zx6  tx1 tx2 tx3 tx4 tx5 tx6 hI h0 h1 h2 hm
    unfold pX10_kin_36
    have hk := ix_k hI
    refine ⟨fun c2209 => ?_, fun c2209 => ?_⟩
    · replace c2209 := c_le lit_48 tx6 c2209
      unfold pX10_kin_108
      refine ⟨fun c2210 => ?_, fun c2210 => ?_⟩
      · replace c2210 := c_eq tx3 lit_0 c2210
        exact hp _ _ tx4 
      · replace c2210 := c_neq tx3 lit_0 c2210
        refine sX10_isSeal   (hI := hI) (tx1 := tx4)  (hp := fun r_2v1118 zr_2v1118 tr_2v1118 p2211 => ?_)
        refine ⟨fun c2212 => ?_, fun c2212 => ?_⟩
        · replace c2212 := c_neq tr_2v1118 lit_0 c2212
          refine ⟨vp_of tx1 (by omega) (by omega), ?_⟩
          refine ⟨vp_of tx2 (by omega) (by omega), ?_⟩
          refine ⟨vp_of tx4 (by omega) (by omega), ?_⟩
          obtain ⟨z2213, t2214⟩ := t_any (w.2.1 166 x1.toNatClampNeg)
          obtain ⟨z2215, t2216⟩ := t_any (w.2.1 166 x2.toNatClampNeg)
          obtain ⟨z2217, t2218, f2219⟩ := t_add t2214 t2216
          first | replace f2219 := f2219 (by omega) | clear f2219
          obtain ⟨z2220, t2221⟩ := t_any (w.2.1 166 x4.toNatClampNeg)
          obtain ⟨z2222, t2223, f2224⟩ := t_mul lit_2 t2221
          first | replace f2224 := f2224 (by omega) | clear f2224
          obtain ⟨z2225, t2226, f2227⟩ := t_sub t2218 t2223
          first | replace f2227 := f2227 (by omega) | clear f2227
          exact hp _ _ t2226 
        · replace c2212 := c_eq tr_2v1118 lit_0 c2212
          exact hp _ _ tx4 
    · replace c2209 := c_nle lit_48 tx6 c2209
      refine ⟨fun c2228 => ?_, fun c2228 => ?_⟩
      · replace c2228 := c_eq tx4 tx5 c2228
        unfold pX10_kin_108
        refine ⟨fun c2229 => ?_, fun c2229 => ?_⟩
        · replace c2229 := c_eq tx3 lit_0 c2229
          exact hp _ _ tx4 
        · replace c2229 := c_neq tx3 lit_0 c2229
          refine sX10_isSeal   (hI := hI) (tx1 := tx4)  (hp := fun r_2v1120 zr_2v1120 tr_2v1120 p2230 => ?_)
          refine ⟨fun c2231 => ?_, fun c2231 => ?_⟩
          · replace c2231 := c_neq tr_2v1120 lit_0 c2231
            refine ⟨vp_of tx1 (by omega) (by omega), ?_⟩
            refine ⟨vp_of tx2 (by omega) (by omega), ?_⟩
            refine ⟨vp_of tx4 (by omega) (by omega), ?_⟩
            obtain ⟨z2232, t2233⟩ := t_any (w.2.1 166 x1.toNatClampNeg)
            obtain ⟨z2234, t2235⟩ := t_any (w.2.1 166 x2.toNatClampNeg)
            obtain ⟨z2236, t2237, f2238⟩ := t_add t2233 t2235
            first | replace f2238 := f2238 (by omega) | clear f2238
            obtain ⟨z2239, t2240⟩ := t_any (w.2.1 166 x4.toNatClampNeg)
            obtain ⟨z2241, t2242, f2243⟩ := t_mul lit_2 t2240
            first | replace f2243 := f2243 (by omega) | clear f2243
            obtain ⟨z2244, t2245, f2246⟩ := t_sub t2237 t2242
            first | replace f2246 := f2246 (by omega) | clear f2246
            exact hp _ _ t2245 
          · replace c2231 := c_eq tr_2v1120 lit_0 c2231
            exact hp _ _ tx4 
      · replace c2228 := c_neq tx4 tx5 c2228
        refine sX10_isSeal   (hI := hI) (tx1 := tx4)  (hp := fun r_3v1112 zr_3v1112 tr_3v1112 p2247 => ?_)
        refine ⟨fun c2248 => ?_, fun c2248 => ?_⟩
        · replace c2248 := c_eq tr_3v1112 lit_0 c2248
          unfold pX10_kin_108
          refine ⟨fun c2249 => ?_, fun c2249 => ?_⟩
          · replace c2249 := c_eq tx3 lit_0 c2249
            exact hp _ _ tx4 
          · replace c2249 := c_neq tx3 lit_0 c2249
            refine sX10_isSeal   (hI := hI) (tx1 := tx4)  (hp := fun r_2v1126 zr_2v1126 tr_2v1126 p2250 => ?_)
            refine ⟨fun c2251 => ?_, fun c2251 => ?_⟩
            · replace c2251 := c_neq tr_2v1126 lit_0 c2251
              refine ⟨vp_of tx1 (by omega) (by omega), ?_⟩
              refine ⟨vp_of tx2 (by omega) (by omega), ?_⟩
              refine ⟨vp_of tx4 (by omega) (by omega), ?_⟩
              obtain ⟨z2252, t2253⟩ := t_any (w.2.1 166 x1.toNatClampNeg)
              obtain ⟨z2254, t2255⟩ := t_any (w.2.1 166 x2.toNatClampNeg)
              obtain ⟨z2256, t2257, f2258⟩ := t_add t2253 t2255
              first | replace f2258 := f2258 (by omega) | clear f2258
              obtain ⟨z2259, t2260⟩ := t_any (w.2.1 166 x4.toNatClampNeg)
              obtain ⟨z2261, t2262, f2263⟩ := t_mul lit_2 t2260
              first | replace f2263 := f2263 (by omega) | clear f2263
              obtain ⟨z2264, t2265, f2266⟩ := t_sub t2257 t2262
              first | replace f2266 := f2266 (by omega) | clear f2266
              exact hp _ _ t2265 
            · replace c2251 := c_eq tr_2v1126 lit_0 c2251
              exact hp _ _ tx4 
        · replace c2248 := c_neq tr_3v1112 lit_0 c2248
          refine sX10_isSeal   (hI := hI) (tx1 := tx5)  (hp := fun r_6v1122 zr_6v1122 tr_6v1122 p2267 => ?_)
          refine ⟨fun c2268 => ?_, fun c2268 => ?_⟩
          · replace c2268 := c_eq tr_6v1122 lit_0 c2268
            unfold pX10_kin_108
            refine ⟨fun c2269 => ?_, fun c2269 => ?_⟩
            · replace c2269 := c_eq tx3 lit_0 c2269
              exact hp _ _ tx4 
            · replace c2269 := c_neq tx3 lit_0 c2269
              refine sX10_isSeal   (hI := hI) (tx1 := tx4)  (hp := fun r_2v1130 zr_2v1130 tr_2v1130 p2270 => ?_)
              refine ⟨fun c2271 => ?_, fun c2271 => ?_⟩
              · replace c2271 := c_neq tr_2v1130 lit_0 c2271
                refine ⟨vp_of tx1 (by omega) (by omega), ?_⟩
                refine ⟨vp_of tx2 (by omega) (by omega), ?_⟩
                refine ⟨vp_of tx4 (by omega) (by omega), ?_⟩
                obtain ⟨z2272, t2273⟩ := t_any (w.2.1 166 x1.toNatClampNeg)
                obtain ⟨z2274, t2275⟩ := t_any (w.2.1 166 x2.toNatClampNeg)
                obtain ⟨z2276, t2277, f2278⟩ := t_add t2273 t2275
                first | replace f2278 := f2278 (by omega) | clear f2278
                obtain ⟨z2279, t2280⟩ := t_any (w.2.1 166 x4.toNatClampNeg)
                obtain ⟨z2281, t2282, f2283⟩ := t_mul lit_2 t2280
                first | replace f2283 := f2283 (by omega) | clear f2283
                obtain ⟨z2284, t2285, f2286⟩ := t_sub t2277 t2282
                first | replace f2286 := f2286 (by omega) | clear f2286
                exact hp _ _ t2285 
              · replace c2271 := c_eq tr_2v1130 lit_0 c2271
                exact hp _ _ tx4 
          · replace c2268 := c_neq tr_6v1122 lit_0 c2268
            refine ⟨fun c2287 => ?_, fun c2287 => ?_⟩
            · replace c2287 := c_le tx4 tx5 c2287
              refine ⟨vp_of tx5 (by omega) (by omega), ?_⟩
              obtain ⟨z2288, t2289⟩ := t_any (w.2.1 163 x5.toNatClampNeg)
              intro x5_10v1128 ex5_10v1128
              have tx5_10v1128 : Ti x5_10v1128 z2288 := by rw [ex5_10v1128]; exact t2289
              unfold pX10_kin_102
              obtain ⟨z2290, t2291, f2292⟩ := t_add tx6 lit_1
              first | replace f2292 := f2292 (by omega) | clear f2292
              intro x6_1v1132 ex6_1v1132
              have tx6_1v1132 : Ti x6_1v1132 z2290 := by rw [ex6_1v1132]; exact t2291
              exact ih _ _ _ _ _ _ _ _ _ _ _ _  tx1 tx2 tx3 tx4 tx5_10v1128 tx6_1v1132 hI (by omega) (by omega) (by omega) (by omega)
            · replace c2287 := c_nle tx4 tx5 c2287
              refine ⟨vp_of tx4 (by omega) (by omega), ?_⟩
              obtain ⟨z2293, t2294⟩ := t_any (w.2.1 163 x4.toNatClampNeg)
              intro x4_11v1129 ex4_11v1129
              have tx4_11v1129 : Ti x4_11v1129 z2293 := by rw [ex4_11v1129]; exact t2294
              unfold pX10_kin_102
              obtain ⟨z2295, t2296, f2297⟩ := t_add tx6 lit_1
              first | replace f2297 := f2297 (by omega) | clear f2297
              intro x6_1v1133 ex6_1v1133
              have tx6_1v1133 : Ti x6_1v1133 z2295 := by rw [ex6_1v1133]; exact t2296
              exact ih _ _ _ _ _ _ _ _ _ _ _ _  tx1 tx2 tx3 tx4_11v1129 tx5 tx6_1v1133 hI (by omega) (by omega) (by omega) (by omega)
set_option maxHeartbeats 4000000 in
set_option maxRecDepth 100000 in
theorem sX10_kin {T D : Int} {k : Nat} {post : Int32 → Wd → Prop} {x1 : Int32} {zx1 : Int} {x2 : Int32} {zx2 : Int} {x3 : Int32} {zx3 : Int} {w : Wd}  (tx1 : Ti x1 zx1) (tx2 : Ti x2 zx2) (tx3 : Ti x3 zx3) (hI : IX k T D w)  (hp : ∀ (r : Int32) (zr : Int), Ti r zr → post r w) : pX10_kin   post  x1 x2 x3 w := by
  unfold pX10_kin
  have hk := ix_k hI
  refine sX10_isSeal   (hI := hI) (tx1 := tx1)  (hp := fun r_1v1134 zr_1v1134 tr_1v1134 p2298 => ?_)
  refine ⟨fun c2299 => ?_, fun c2299 => ?_⟩
  · replace c2299 := c_eq tr_1v1134 lit_0 c2299
    exact hp _ _ lit_m1 
  · replace c2299 := c_neq tr_1v1134 lit_0 c2299
    refine sX10_isSeal   (hI := hI) (tx1 := tx2)  (hp := fun r_4v1138 zr_4v1138 tr_4v1138 p2300 => ?_)
    refine ⟨fun c2301 => ?_, fun c2301 => ?_⟩
    · replace c2301 := c_eq tr_4v1138 lit_0 c2301
      exact hp _ _ lit_m1 
    · replace c2301 := c_neq tr_4v1138 lit_0 c2301
      refine ⟨fun c2302 => ?_, fun c2302 => ?_⟩
      · replace c2302 := c_lt tx3 lit_0 c2302
        exact hp _ _ lit_m1 
      · replace c2302 := c_nlt tx3 lit_0 c2302
        refine ⟨fun c2303 => ?_, fun c2303 => ?_⟩
        · replace c2303 := c_le tx3 lit_1 c2303
          exact ⟨70000, sX10_kin_36   (hp := hp) 70000 _ _ _ _ _ _ _ _ _ _ _ _  tx1 tx2 tx3 tx1 tx2 lit_0 hI (by omega) (by omega) (by omega) (by omega)⟩
        · replace c2303 := c_nle tx3 lit_1 c2303
          exact hp _ _ lit_m1 
set_option maxHeartbeats 4000000 in
set_option maxRecDepth 100000 in
theorem sX10_thumb_20 {T D : Int} {k : Nat} {post : Int32 → Wd → Prop} {w : Wd}  (hp : ∀ (r : Int32) (zr : Int), Ti r zr → post r w) : ∀ (n : Nat) (x3 : Int32) (x4 : Int32) (x5 : Int32) (zx3 : Int) (zx4 : Int) (zx5 : Int), Ti x3 zx3 → Ti x4 zx4 → Ti x5 zx5 → IX k T D w → (0 ≤ zx5 ∧ zx5 ≤ 24) → (zx3 ≤ 23) → (25 - zx5) < (n : Int) → pX10_thumb_20   post  n x3 x4 x5 w := by
  intro n
  induction n with
  | zero =>
    intro x3 x4 x5 zx3 zx4 zx5  tx3 tx4 tx5 hI h0 h1 hm
    exact absurd hm (by omega)
  | succ n ih =>
    intro x3 x4 x5 zx3 zx4 zx5  tx3 tx4 tx5 hI h0 h1 hm
    unfold pX10_thumb_20
    have hk := ix_k hI
    refine ⟨fun c2304 => ?_, fun c2304 => ?_⟩
    · replace c2304 := c_le lit_24 tx5 c2304
      exact hp _ _ lit_m1 
    · replace c2304 := c_nle lit_24 tx5 c2304
      refine ⟨fun c2305 => ?_, fun c2305 => ?_⟩
      · replace c2305 := c_le tx3 lit_0 c2305
        exact hp _ _ lit_m1 
      · replace c2305 := c_nle tx3 lit_0 c2305
        refine ⟨vp_of tx3 (by omega) (by omega), ?_⟩
        obtain ⟨z2306, t2307⟩ := t_any (w.2.1 163 x3.toNatClampNeg)
        intro x6_3v1140 ex6_3v1140
        have tx6_3v1140 : Ti x6_3v1140 z2306 := by rw [ex6_3v1140]; exact t2307
        obtain ⟨z2308, t2309⟩ := t_any (w.1 (rl (w.2.2.2.2 0)) 0)
        have f2310 := ixg_r0 hI t2309
        obtain ⟨z2311, t2312, f2313⟩ := t_sub t2309 lit_1
        first | replace f2313 := f2313 (by omega) | clear f2313
        obtain ⟨z2314, t2315, f2316⟩ := t_sub t2312 tx4
        first | replace f2316 := f2316 (by omega) | clear f2316
        intro x4_4v1141 ex4_4v1141
        have tx4_4v1141 : Ti x4_4v1141 z2314 := by rw [ex4_4v1141]; exact t2315
        refine sX10_sealHas   (hI := hI) (tx1 := tx6_3v1140) (tx2 := tx4_4v1141)  (hp := fun r_5v1142 zr_5v1142 tr_5v1142 p2317 => ?_)
        refine ⟨fun c2318 => ?_, fun c2318 => ?_⟩
        · replace c2318 := c_neq tr_5v1142 lit_0 c2318
          obtain ⟨z2319, t2320, f2321⟩ := t_add tx5 lit_1
          first | replace f2321 := f2321 (by omega) | clear f2321
          intro x5_8v1145 ex5_8v1145
          have tx5_8v1145 : Ti x5_8v1145 z2319 := by rw [ex5_8v1145]; exact t2320
          exact ih _ _ _ _ _ _  tx6_3v1140 tx4_4v1141 tx5_8v1145 hI (by omega) (by omega) (by omega)
        · replace c2318 := c_eq tr_5v1142 lit_0 c2318
          refine ⟨vp_of tx3 (by omega) (by omega), ?_⟩
          obtain ⟨z2322, t2323⟩ := t_any (w.2.1 164 x3.toNatClampNeg)
          exact hp _ _ t2323 
set_option maxHeartbeats 4000000 in
set_option maxRecDepth 100000 in
theorem sX10_thumb {T D : Int} {k : Nat} {post : Int32 → Wd → Prop} {x1 : Int32} {zx1 : Int} {x2 : Int32} {zx2 : Int} {w : Wd}  (tx1 : Ti x1 zx1) (tx2 : Ti x2 zx2) (hI : IX k T D w)  (hp : ∀ (r : Int32) (zr : Int), Ti r zr → post r w) : pX10_thumb   post  x1 x2 w := by
  unfold pX10_thumb
  have hk := ix_k hI
  refine sX10_sealHas   (hI := hI) (tx1 := tx1) (tx2 := tx2)  (hp := fun r_1v1146 zr_1v1146 tr_1v1146 p2324 => ?_)
  refine ⟨fun c2325 => ?_, fun c2325 => ?_⟩
  · replace c2325 := c_neq tr_1v1146 lit_0 c2325
    exact ⟨70000, sX10_thumb_20   (hp := hp) 70000 _ _ _ _ _ _  tx1 tx2 lit_0 hI (by omega) (by omega) (by omega)⟩
  · replace c2325 := c_eq tr_1v1146 lit_0 c2325
    exact hp _ _ lit_m2 
set_option maxHeartbeats 4000000 in
set_option maxRecDepth 100000 in
theorem sX10_marksIn_6 {T D : Int} {k : Nat} {post : Int32 → Wd → Prop} {w : Wd}  (hp : ∀ (r : Int32) (zr : Int), Ti r zr → post r w) : ∀ (n : Nat) (x1 : Int32) (x2 : Int32) (x3 : Int32) (x4 : Int32) (x5 : Int32) (zx1 : Int) (zx2 : Int) (zx3 : Int) (zx4 : Int) (zx5 : Int), Ti x1 zx1 → Ti x2 zx2 → Ti x3 zx3 → Ti x4 zx4 → Ti x5 zx5 → IX k T D w → (0 ≤ zx5 ∧ zx5 ≤ 12) → (1 ≤ zx2 ∧ zx2 ≤ 4) → (13 - zx5) < (n : Int) → pX10_marksIn_6   post  n x1 x2 x3 x4 x5 w := by
  intro n
  induction n with
  | zero =>
    intro x1 x2 x3 x4 x5 zx1 zx2 zx3 zx4 zx5  tx1 tx2 tx3 tx4 tx5 hI h0 h1 hm
    exact absurd hm (by omega)
  | succ n ih =>
    intro x1 x2 x3 x4 x5 zx1 zx2 zx3 zx4 zx5  tx1 tx2 tx3 tx4 tx5 hI h0 h1 hm
    unfold pX10_marksIn_6
    have hk := ix_k hI
    obtain ⟨z2326, t2327⟩ := t_any (w.1 (rl (w.2.2.2.2 0)) 0)
    have f2328 := ixg_r0 hI t2327
    refine ⟨fun c2329 => ?_, fun c2329 => ?_⟩
    · replace c2329 := c_le t2327 tx5 c2329
      exact hp _ _ tx4 
    · replace c2329 := c_nle t2327 tx5 c2329
      obtain ⟨z2330, t2331, f2332⟩ := t_and (x := (x1 >>> (x5 &&& 31))) lit_1 (by decide)
      refine ⟨fun c2333 => ?_, fun c2333 => ?_⟩
      · replace c2333 := c_eq t2331 lit_0 c2333
        unfold pX10_marksIn_46
        obtain ⟨z2334, t2335, f2336⟩ := t_add tx5 lit_1
        first | replace f2336 := f2336 (by omega) | clear f2336
        intro x5_1v1149 ex5_1v1149
        have tx5_1v1149 : Ti x5_1v1149 z2334 := by rw [ex5_1v1149]; exact t2335
        exact ih _ _ _ _ _ _ _ _ _ _  tx1 tx2 tx3 tx4 tx5_1v1149 hI (by omega) (by omega) (by omega)
      · replace c2333 := c_neq t2331 lit_0 c2333
        refine ⟨nz_of t2327 (by omega), ?_⟩
        obtain ⟨z2337, t2338, f2339⟩ := t_mulv tx5 tx2
        first | replace f2339 := f2339 (by omega) | clear f2339
        obtain ⟨z2340, t2341, f2342⟩ := t_divv t2338 t2327
        first | replace f2342 := f2342 (by omega) | clear f2342
        refine ⟨fun c2343 => ?_, fun c2343 => ?_⟩
        · replace c2343 := c_neq t2341 tx3 c2343
          unfold pX10_marksIn_46
          obtain ⟨z2344, t2345, f2346⟩ := t_add tx5 lit_1
          first | replace f2346 := f2346 (by omega) | clear f2346
          intro x5_1v1150 ex5_1v1150
          have tx5_1v1150 : Ti x5_1v1150 z2344 := by rw [ex5_1v1150]; exact t2345
          exact ih _ _ _ _ _ _ _ _ _ _  tx1 tx2 tx3 tx4 tx5_1v1150 hI (by omega) (by omega) (by omega)
        · replace c2343 := c_eq t2341 tx3 c2343
          obtain ⟨z2347, t2348, f2349⟩ := t_add tx4 lit_1
          first | replace f2349 := f2349 (by omega) | clear f2349
          intro x4_4v1148 ex4_4v1148
          have tx4_4v1148 : Ti x4_4v1148 z2347 := by rw [ex4_4v1148]; exact t2348
          unfold pX10_marksIn_46
          obtain ⟨z2350, t2351, f2352⟩ := t_add tx5 lit_1
          first | replace f2352 := f2352 (by omega) | clear f2352
          intro x5_1v1151 ex5_1v1151
          have tx5_1v1151 : Ti x5_1v1151 z2350 := by rw [ex5_1v1151]; exact t2351
          exact ih _ _ _ _ _ _ _ _ _ _  tx1 tx2 tx3 tx4_4v1148 tx5_1v1151 hI (by omega) (by omega) (by omega)
set_option maxHeartbeats 4000000 in
set_option maxRecDepth 100000 in
theorem sX10_marksIn {T D : Int} {k : Nat} {post : Int32 → Wd → Prop} {x1 : Int32} {zx1 : Int} {x2 : Int32} {zx2 : Int} {x3 : Int32} {zx3 : Int} {w : Wd}  (tx1 : Ti x1 zx1) (tx2 : Ti x2 zx2) (tx3 : Ti x3 zx3) (hI : IX k T D w) (h0 : 1 ≤ zx2 ∧ zx2 ≤ 4) (hp : ∀ (r : Int32) (zr : Int), Ti r zr → post r w) : pX10_marksIn   post  x1 x2 x3 w := by
  unfold pX10_marksIn
  have hk := ix_k hI
  exact ⟨70000, sX10_marksIn_6   (hp := hp) 70000 _ _ _ _ _ _ _ _ _ _  tx1 tx2 tx3 lit_0 lit_0 hI (by omega) (by omega) (by omega)⟩
set_option maxHeartbeats 4000000 in
set_option maxRecDepth 100000 in
theorem sX10_share_64 {T D : Int} {k : Nat} {post : Int32 → Wd → Prop} {w : Wd}  (hp : ∀ (r : Int32) (zr : Int), Ti r zr → post r w) : ∀ (n : Nat) (x1 : Int32) (x2 : Int32) (x3 : Int32) (x4 : Int32) (x5 : Int32) (x6 : Int32) (x7 : Int32) (x8 : Int32) (zx1 : Int) (zx2 : Int) (zx3 : Int) (zx4 : Int) (zx5 : Int) (zx6 : Int) (zx7 : Int) (zx8 : Int), Ti x1 zx1 → Ti x2 zx2 → Ti x3 zx3 → Ti x4 zx4 → Ti x5 zx5 → Ti x6 zx6 → Ti x7 zx7 → Ti x8 zx8 → IX k T D w → (0 ≤ zx8 ∧ zx8 ≤ 4) → (1 ≤ zx2 ∧ zx2 ≤ 4) → (zx4 ≠ 0) → (5 - zx8) < (n : Int) → pX10_share_64   post  n x1 x2 x3 x4 x5 x6 x7 x8 w := by
  intro n
  induction n with
  | zero =>
    intro x1 x2 x3 x4 x5 x6 x7 x8 zx1 zx2 zx3 zx4 zx5 zx6 zx7 zx8  tx1 tx2 tx3 tx4 tx5 tx6 tx7 tx8 hI h0 h1 h2 hm
    exact absurd hm (by omega)
  | succ n ih =>
    intro x1 x2 x3 x4 x5 x6 x7 x8 zx1 zx2 zx3 zx4 zx5 zx6 zx7 zx8  tx1 tx2 tx3 tx4 tx5 tx6 tx7 tx8 hI h0 h1 h2 hm
    unfold pX10_share_64
    have hk := ix_k hI
    refine ⟨fun c2353 => ?_, fun c2353 => ?_⟩
    · replace c2353 := c_le tx2 tx8 c2353
      refine ⟨nz_of tx4 (by omega), ?_⟩
      refine ⟨fun c2354 => ?_, fun c2354 => ?_⟩
      · replace c2354 := c_le tx6 tx7 c2354
        obtain ⟨z2355, t2356, f2357⟩ := t_divv tx5 tx4
        first | replace f2357 := f2357 (by omega) | clear f2357
        obtain ⟨z2358, t2359, f2360⟩ := t_add t2356 lit_0
        first | replace f2360 := f2360 (by omega) | clear f2360
        exact hp _ _ t2359 
      · replace c2354 := c_nle tx6 tx7 c2354
        obtain ⟨z2361, t2362, f2363⟩ := t_divv tx5 tx4
        first | replace f2363 := f2363 (by omega) | clear f2363
        obtain ⟨z2364, t2365, f2366⟩ := t_add t2362 lit_1
        first | replace f2366 := f2366 (by omega) | clear f2366
        exact hp _ _ t2365 
    · replace c2353 := c_nle tx2 tx8 c2353
      refine sX10_marksIn   (hI := hI) (tx1 := tx1) (tx2 := tx2) (tx3 := tx8) (h0 := (by omega)) (hp := fun r_3v1152 zr_3v1152 tr_3v1152 => ?_)
      obtain ⟨z2367, t2368, f2369⟩ := t_mul lit_100 tr_3v1152
      first | replace f2369 := f2369 (by omega) | clear f2369
      intro x9_5v1156 ex9_5v1156
      have tx9_5v1156 : Ti x9_5v1156 z2367 := by rw [ex9_5v1156]; exact t2368
      refine ⟨nz_of tx4 (by omega), ?_⟩
      obtain ⟨z2370, t2371, f2372⟩ := t_divv tx9_5v1156 tx4
      first | replace f2372 := f2372 (by omega) | clear f2372
      obtain ⟨z2373, t2374, f2375⟩ := t_sub tx6 t2371
      first | replace f2375 := f2375 (by omega) | clear f2375
      intro x6_6v1157 ex6_6v1157
      have tx6_6v1157 : Ti x6_6v1157 z2373 := by rw [ex6_6v1157]; exact t2374
      refine ⟨nz_of tx4 (by omega), ?_⟩
      refine ⟨nz_of tx4 (by omega), ?_⟩
      obtain ⟨z2376, t2377, f2378⟩ := t_remv tx5 tx4
      first | replace f2378 := f2378 (by omega) | clear f2378
      obtain ⟨z2379, t2380, f2381⟩ := t_remv tx9_5v1156 tx4
      first | replace f2381 := f2381 (by omega) | clear f2381
      refine ⟨fun c2382 => ?_, fun c2382 => ?_⟩
      · replace c2382 := c_lt t2377 t2380 c2382
        unfold pX10_share_125
        unfold pX10_share_130
        refine ⟨fun c2383 => ?_, fun c2383 => ?_⟩
        · replace c2383 := c_eq lit_1 lit_0 c2383
          unfold pX10_share_144
          obtain ⟨z2384, t2385, f2386⟩ := t_add tx7 lit_0
          first | replace f2386 := f2386 (by omega) | clear f2386
          intro x7_1v1158 ex7_1v1158
          have tx7_1v1158 : Ti x7_1v1158 z2384 := by rw [ex7_1v1158]; exact t2385
          obtain ⟨z2387, t2388, f2389⟩ := t_add tx8 lit_1
          first | replace f2389 := f2389 (by omega) | clear f2389
          intro x8_2v1159 ex8_2v1159
          have tx8_2v1159 : Ti x8_2v1159 z2387 := by rw [ex8_2v1159]; exact t2388
          exact ih _ _ _ _ _ _ _ _ _ _ _ _ _ _ _ _  tx1 tx2 tx3 tx4 tx5 tx6_6v1157 tx7_1v1158 tx8_2v1159 hI (by omega) (by omega) (by omega) (by omega)
        · replace c2383 := c_neq lit_1 lit_0 c2383
          unfold pX10_share_144
          obtain ⟨z2390, t2391, f2392⟩ := t_add tx7 lit_1
          first | replace f2392 := f2392 (by omega) | clear f2392
          intro x7_1v1160 ex7_1v1160
          have tx7_1v1160 : Ti x7_1v1160 z2390 := by rw [ex7_1v1160]; exact t2391
          obtain ⟨z2393, t2394, f2395⟩ := t_add tx8 lit_1
          first | replace f2395 := f2395 (by omega) | clear f2395
          intro x8_2v1161 ex8_2v1161
          have tx8_2v1161 : Ti x8_2v1161 z2393 := by rw [ex8_2v1161]; exact t2394
          exact ih _ _ _ _ _ _ _ _ _ _ _ _ _ _ _ _  tx1 tx2 tx3 tx4 tx5 tx6_6v1157 tx7_1v1160 tx8_2v1161 hI (by omega) (by omega) (by omega) (by omega)
      · replace c2382 := c_nlt t2377 t2380 c2382
        refine ⟨nz_of tx4 (by omega), ?_⟩
        refine ⟨nz_of tx4 (by omega), ?_⟩
        refine ⟨fun c2396 => ?_, fun c2396 => ?_⟩
        · replace c2396 := c_neq t2380 t2377 c2396
          unfold pX10_share_129
          unfold pX10_share_130
          refine ⟨fun c2397 => ?_, fun c2397 => ?_⟩
          · replace c2397 := c_eq lit_0 lit_0 c2397
            unfold pX10_share_144
            obtain ⟨z2398, t2399, f2400⟩ := t_add tx7 lit_0
            first | replace f2400 := f2400 (by omega) | clear f2400
            intro x7_1v1162 ex7_1v1162
            have tx7_1v1162 : Ti x7_1v1162 z2398 := by rw [ex7_1v1162]; exact t2399
            obtain ⟨z2401, t2402, f2403⟩ := t_add tx8 lit_1
            first | replace f2403 := f2403 (by omega) | clear f2403
            intro x8_2v1163 ex8_2v1163
            have tx8_2v1163 : Ti x8_2v1163 z2401 := by rw [ex8_2v1163]; exact t2402
            exact ih _ _ _ _ _ _ _ _ _ _ _ _ _ _ _ _  tx1 tx2 tx3 tx4 tx5 tx6_6v1157 tx7_1v1162 tx8_2v1163 hI (by omega) (by omega) (by omega) (by omega)
          · replace c2397 := c_neq lit_0 lit_0 c2397
            unfold pX10_share_144
            obtain ⟨z2404, t2405, f2406⟩ := t_add tx7 lit_1
            first | replace f2406 := f2406 (by omega) | clear f2406
            intro x7_1v1164 ex7_1v1164
            have tx7_1v1164 : Ti x7_1v1164 z2404 := by rw [ex7_1v1164]; exact t2405
            obtain ⟨z2407, t2408, f2409⟩ := t_add tx8 lit_1
            first | replace f2409 := f2409 (by omega) | clear f2409
            intro x8_2v1165 ex8_2v1165
            have tx8_2v1165 : Ti x8_2v1165 z2407 := by rw [ex8_2v1165]; exact t2408
            exact ih _ _ _ _ _ _ _ _ _ _ _ _ _ _ _ _  tx1 tx2 tx3 tx4 tx5 tx6_6v1157 tx7_1v1164 tx8_2v1165 hI (by omega) (by omega) (by omega) (by omega)
        · replace c2396 := c_eq t2380 t2377 c2396
          refine ⟨fun c2410 => ?_, fun c2410 => ?_⟩
          · replace c2410 := c_le tx3 tx8 c2410
            unfold pX10_share_129
            unfold pX10_share_130
            refine ⟨fun c2411 => ?_, fun c2411 => ?_⟩
            · replace c2411 := c_eq lit_0 lit_0 c2411
              unfold pX10_share_144
              obtain ⟨z2412, t2413, f2414⟩ := t_add tx7 lit_0
              first | replace f2414 := f2414 (by omega) | clear f2414
              intro x7_1v1166 ex7_1v1166
              have tx7_1v1166 : Ti x7_1v1166 z2412 := by rw [ex7_1v1166]; exact t2413
              obtain ⟨z2415, t2416, f2417⟩ := t_add tx8 lit_1
              first | replace f2417 := f2417 (by omega) | clear f2417
              intro x8_2v1167 ex8_2v1167
              have tx8_2v1167 : Ti x8_2v1167 z2415 := by rw [ex8_2v1167]; exact t2416
              exact ih _ _ _ _ _ _ _ _ _ _ _ _ _ _ _ _  tx1 tx2 tx3 tx4 tx5 tx6_6v1157 tx7_1v1166 tx8_2v1167 hI (by omega) (by omega) (by omega) (by omega)
            · replace c2411 := c_neq lit_0 lit_0 c2411
              unfold pX10_share_144
              obtain ⟨z2418, t2419, f2420⟩ := t_add tx7 lit_1
              first | replace f2420 := f2420 (by omega) | clear f2420
              intro x7_1v1168 ex7_1v1168
              have tx7_1v1168 : Ti x7_1v1168 z2418 := by rw [ex7_1v1168]; exact t2419
              obtain ⟨z2421, t2422, f2423⟩ := t_add tx8 lit_1
              first | replace f2423 := f2423 (by omega) | clear f2423
              intro x8_2v1169 ex8_2v1169
              have tx8_2v1169 : Ti x8_2v1169 z2421 := by rw [ex8_2v1169]; exact t2422
              exact ih _ _ _ _ _ _ _ _ _ _ _ _ _ _ _ _  tx1 tx2 tx3 tx4 tx5 tx6_6v1157 tx7_1v1168 tx8_2v1169 hI (by omega) (by omega) (by omega) (by omega)
          · replace c2410 := c_nle tx3 tx8 c2410
            unfold pX10_share_125
            unfold pX10_share_130
            refine ⟨fun c2424 => ?_, fun c2424 => ?_⟩
            · replace c2424 := c_eq lit_1 lit_0 c2424
              unfold pX10_share_144
              obtain ⟨z2425, t2426, f2427⟩ := t_add tx7 lit_0
              first | replace f2427 := f2427 (by omega) | clear f2427
              intro x7_1v1170 ex7_1v1170
              have tx7_1v1170 : Ti x7_1v1170 z2425 := by rw [ex7_1v1170]; exact t2426
              obtain ⟨z2428, t2429, f2430⟩ := t_add tx8 lit_1
              first | replace f2430 := f2430 (by omega) | clear f2430
              intro x8_2v1171 ex8_2v1171
              have tx8_2v1171 : Ti x8_2v1171 z2428 := by rw [ex8_2v1171]; exact t2429
              exact ih _ _ _ _ _ _ _ _ _ _ _ _ _ _ _ _  tx1 tx2 tx3 tx4 tx5 tx6_6v1157 tx7_1v1170 tx8_2v1171 hI (by omega) (by omega) (by omega) (by omega)
            · replace c2424 := c_neq lit_1 lit_0 c2424
              unfold pX10_share_144
              obtain ⟨z2431, t2432, f2433⟩ := t_add tx7 lit_1
              first | replace f2433 := f2433 (by omega) | clear f2433
              intro x7_1v1172 ex7_1v1172
              have tx7_1v1172 : Ti x7_1v1172 z2431 := by rw [ex7_1v1172]; exact t2432
              obtain ⟨z2434, t2435, f2436⟩ := t_add tx8 lit_1
              first | replace f2436 := f2436 (by omega) | clear f2436
              intro x8_2v1173 ex8_2v1173
              have tx8_2v1173 : Ti x8_2v1173 z2434 := by rw [ex8_2v1173]; exact t2435
              exact ih _ _ _ _ _ _ _ _ _ _ _ _ _ _ _ _  tx1 tx2 tx3 tx4 tx5 tx6_6v1157 tx7_1v1172 tx8_2v1173 hI (by omega) (by omega) (by omega) (by omega)
set_option maxHeartbeats 4000000 in
set_option maxRecDepth 100000 in
theorem sX10_share {T D : Int} {k : Nat} {post : Int32 → Wd → Prop} {x1 : Int32} {zx1 : Int} {x2 : Int32} {zx2 : Int} {x3 : Int32} {zx3 : Int} {w : Wd}  (tx1 : Ti x1 zx1) (tx2 : Ti x2 zx2) (tx3 : Ti x3 zx3) (hI : IX k T D w)  (hp : ∀ (r : Int32) (zr : Int), Ti r zr → post r w) : pX10_share   post  x1 x2 x3 w := by
  unfold pX10_share
  have hk := ix_k hI
  refine sX10_isRow   (hI := hI) (tx1 := tx1)  (hp := fun r_1v1174 zr_1v1174 tr_1v1174 p2437 => ?_)
  refine ⟨fun c2438 => ?_, fun c2438 => ?_⟩
  · replace c2438 := c_eq tr_1v1174 lit_0 c2438
    exact hp _ _ lit_m1 
  · replace c2438 := c_neq tr_1v1174 lit_0 c2438
    refine ⟨fun c2439 => ?_, fun c2439 => ?_⟩
    · replace c2439 := c_lt tx2 lit_1 c2439
      exact hp _ _ lit_m1 
    · replace c2439 := c_nlt tx2 lit_1 c2439
      refine ⟨fun c2440 => ?_, fun c2440 => ?_⟩
      · replace c2440 := c_lt lit_4 tx2 c2440
        exact hp _ _ lit_m1 
      · replace c2440 := c_nlt lit_4 tx2 c2440
        refine ⟨fun c2441 => ?_, fun c2441 => ?_⟩
        · replace c2441 := c_lt tx3 lit_0 c2441
          exact hp _ _ lit_m1 
        · replace c2441 := c_nlt tx3 lit_0 c2441
          refine ⟨fun c2442 => ?_, fun c2442 => ?_⟩
          · replace c2442 := c_lt tx3 tx2 c2442
            refine sJ6_bitCount_0f7a4   (hI := hI) (tx0 := tx1)  (hp := fun r_8v1181 zr_8v1181 tr_8v1181 p2443 => ?_)
            refine ⟨fun c2444 => ?_, fun c2444 => ?_⟩
            · replace c2444 := c_neq tr_8v1181 lit_0 c2444
              refine sX10_marksIn   (hI := hI) (tx1 := tx1) (tx2 := tx2) (tx3 := tx3) (h0 := (by omega)) (hp := fun r_11v1186 zr_11v1186 tr_11v1186 => ?_)
              obtain ⟨z2445, t2446, f2447⟩ := t_mul lit_100 tr_11v1186
              first | replace f2447 := f2447 (by omega) | clear f2447
              intro x5_13v1189 ex5_13v1189
              have tx5_13v1189 : Ti x5_13v1189 z2445 := by rw [ex5_13v1189]; exact t2446
              exact ⟨70000, sX10_share_64   (hp := hp) 70000 _ _ _ _ _ _ _ _ _ _ _ _ _ _ _ _  tx1 tx2 tx3 tr_8v1181 tx5_13v1189 lit_100 lit_0 lit_0 hI (by omega) (by omega) (by omega) (by omega)⟩
            · replace c2444 := c_eq tr_8v1181 lit_0 c2444
              exact hp _ _ lit_0 
          · replace c2442 := c_nlt tx3 tx2 c2442
            exact hp _ _ lit_m1 
set_option maxHeartbeats 4000000 in
set_option maxRecDepth 100000 in
theorem sX10_forge_43 {T D : Int} {k : Nat} {post : Int32 → Wd → Prop}   (hp : ∀ (r : Int32) (zr : Int) (w9 : Wd), Ti r zr → IX k T D w9 → post r w9) : ∀ (n : Nat) (x1 : Int32) (x2 : Int32) (x3 : Int32) (x4 : Int32) (x5 : Int32) (x6 : Int32) (x7 : Int32) (x8 : Int32) (zx1 : Int) (zx2 : Int) (zx3 : Int) (zx4 : Int) (zx5 : Int) (zx6 : Int) (zx7 : Int) (zx8 : Int) (w : Wd), Ti x1 zx1 → Ti x2 zx2 → Ti x3 zx3 → Ti x4 zx4 → Ti x5 zx5 → Ti x6 zx6 → Ti x7 zx7 → Ti x8 zx8 → IX k T D w → (0 ≤ zx8 ∧ zx8 ≤ 4096) → (0 ≤ zx1 ∧ zx1 ≤ 23) → (4097 - zx8) < (n : Int) → pX10_forge_43   post  n x1 x2 x3 x4 x5 x6 x7 x8 w := by
  intro n
  induction n with
  | zero =>
    intro x1 x2 x3 x4 x5 x6 x7 x8 zx1 zx2 zx3 zx4 zx5 zx6 zx7 zx8 w tx1 tx2 tx3 tx4 tx5 tx6 tx7 tx8 hI h0 h1 hm
    exact absurd hm (by omega)
  | succ n ih =>
    intro x1 x2 x3 x4 x5 x6 x7 x8 zx1 zx2 zx3 zx4 zx5 zx6 zx7 zx8 w tx1 tx2 tx3 tx4 tx5 tx6 tx7 tx8 hI h0 h1 hm
    unfold pX10_forge_43
    have hk := ix_k hI
    refine sX7_rows   (hI := hI)   (hp := fun r_1v1190 zr_1v1190 tr_1v1190 p2448 => ?_)
    refine ⟨fun c2449 => ?_, fun c2449 => ?_⟩
    · replace c2449 := c_le tr_1v1190 tx8 c2449
      refine ⟨fun c2450 => ?_, fun c2450 => ?_⟩
      · replace c2450 := c_neq tx5 lit_0 c2450
        exact hp _ _ _  tx7 hI 
      · replace c2450 := c_eq tx5 lit_0 c2450
        refine ⟨fun c2451 => ?_, fun c2451 => ?_⟩
        · replace c2451 := c_eq tx7 lit_m1 c2451
          exact hp _ _ _  tx7 hI 
        · replace c2451 := c_neq tx7 lit_m1 c2451
          exact hp _ _ _  tx6 hI 
    · replace c2449 := c_nle tr_1v1190 tx8 c2449
      refine ⟨vp_of tx1 (by omega) (by omega), ?_⟩
      obtain ⟨z2452, t2453⟩ := t_any (x8 ^^^ (w.2.1 162 x1.toNatClampNeg))
      refine sJ6_bitCount_0f7a4   (hI := hI) (tx0 := t2453)  (hp := fun r_6v1196 zr_6v1196 tr_6v1196 p2454 => ?_)
      refine ⟨fun c2455 => ?_, fun c2455 => ?_⟩
      · replace c2455 := c_le tx6 tr_6v1196 c2455
        unfold pX10_forge_104
        obtain ⟨z2456, t2457, f2458⟩ := t_add tx8 lit_1
        first | replace f2458 := f2458 (by omega) | clear f2458
        intro x8_1v1202 ex8_1v1202
        have tx8_1v1202 : Ti x8_1v1202 z2456 := by rw [ex8_1v1202]; exact t2457
        exact ih _ _ _ _ _ _ _ _ _ _ _ _ _ _ _ _ _ tx1 tx2 tx3 tx4 tx5 tx6 tx7 tx8_1v1202 hI (by omega) (by omega) (by omega)
      · replace c2455 := c_nle tx6 tr_6v1196 c2455
        refine sX1_rowAfter   (hI := hI) (tx1 := tx8) (tx2 := tx2) (tx3 := tx3) (tx4 := lit_0)  (hp := fun r_9v1200 zr_9v1200 w_10v1201  tr_9v1200 hIw_10v1201  => ?_)
        refine ⟨fun c2459 => ?_, fun c2459 => ?_⟩
        · replace c2459 := c_neq tr_9v1200 tx4 c2459
          unfold pX10_forge_104
          obtain ⟨z2460, t2461, f2462⟩ := t_add tx8 lit_1
          first | replace f2462 := f2462 (by omega) | clear f2462
          intro x8_1v1203 ex8_1v1203
          have tx8_1v1203 : Ti x8_1v1203 z2460 := by rw [ex8_1v1203]; exact t2461
          exact ih _ _ _ _ _ _ _ _ _ _ _ _ _ _ _ _ _ tx1 tx2 tx3 tx4 tx5 tx6 tx7 tx8_1v1203 hIw_10v1201 (by omega) (by omega) (by omega)
        · replace c2459 := c_eq tr_9v1200 tx4 c2459
          unfold pX10_forge_104
          obtain ⟨z2463, t2464, f2465⟩ := t_add tx8 lit_1
          first | replace f2465 := f2465 (by omega) | clear f2465
          intro x8_1v1204 ex8_1v1204
          have tx8_1v1204 : Ti x8_1v1204 z2463 := by rw [ex8_1v1204]; exact t2464
          exact ih _ _ _ _ _ _ _ _ _ _ _ _ _ _ _ _ _ tx1 tx2 tx3 tx4 tx5 tr_6v1196 tx8 tx8_1v1204 hIw_10v1201 (by omega) (by omega) (by omega)
set_option maxHeartbeats 4000000 in
set_option maxRecDepth 100000 in
theorem sX10_forge {T D : Int} {k : Nat} {post : Int32 → Wd → Prop} {x1 : Int32} {zx1 : Int} {x2 : Int32} {zx2 : Int} {x3 : Int32} {zx3 : Int} {x4 : Int32} {zx4 : Int} {x5 : Int32} {zx5 : Int} {w : Wd}  (tx1 : Ti x1 zx1) (tx2 : Ti x2 zx2) (tx3 : Ti x3 zx3) (tx4 : Ti x4 zx4) (tx5 : Ti x5 zx5) (hI : IX k T D w)  (hp : ∀ (r : Int32) (zr : Int) (w9 : Wd), Ti r zr → IX k T D w9 → post r w9) : pX10_forge   post  x1 x2 x3 x4 x5 w := by
  unfold pX10_forge
  have hk := ix_k hI
  refine sX10_canCast   (hI := hI) (tx1 := tx1) (tx2 := tx2) (tx3 := tx3)  (hp := fun r_1v1205 zr_1v1205 tr_1v1205 p2466 => ?_)
  refine ⟨fun c2467 => ?_, fun c2467 => ?_⟩
  · replace c2467 := c_eq tr_1v1205 lit_0 c2467
    exact hp _ _ _  lit_m1 hI 
  · replace c2467 := c_neq tr_1v1205 lit_0 c2467
    refine sX10_isRow   (hI := hI) (tx1 := tx4)  (hp := fun r_4v1209 zr_4v1209 tr_4v1209 p2468 => ?_)
    refine ⟨fun c2469 => ?_, fun c2469 => ?_⟩
    · replace c2469 := c_eq tr_4v1209 lit_0 c2469
      exact hp _ _ _  lit_m1 hI 
    · replace c2469 := c_neq tr_4v1209 lit_0 c2469
      refine ⟨fun c2470 => ?_, fun c2470 => ?_⟩
      · replace c2470 := c_lt tx5 lit_0 c2470
        exact hp _ _ _  lit_m1 hI 
      · replace c2470 := c_nlt tx5 lit_0 c2470
        refine ⟨fun c2471 => ?_, fun c2471 => ?_⟩
        · replace c2471 := c_le tx5 lit_1 c2471
          exact ⟨70000, sX10_forge_43   (hp := hp) 70000 _ _ _ _ _ _ _ _ _ _ _ _ _ _ _ _ _ tx1 tx2 tx3 tx4 tx5 lit_1000 lit_m1 lit_0 hI (by omega) (by omega) (by omega)⟩
        · replace c2471 := c_nle tx5 lit_1 c2471
          exact hp _ _ _  lit_m1 hI 
