set_option maxHeartbeats 4000000 in
set_option maxRecDepth 100000 in
theorem sX10_canCast {T D : Int} {k : Nat} {post : Int32 → Wd → Prop} {x1 : Int32} {zx1 : Int} {x2 : Int32} {zx2 : Int} {x3 : Int32} {zx3 : Int} {w : Wd}  (tx1 : Ti x1 zx1) (tx2 : Ti x2 zx2) (tx3 : Ti x3 zx3) (hI : IX k T D w)  (hp : ∀ (r : Int32) (zr : Int), Ti r zr → ((zr = 0 ∨ (0 ≤ zx1 ∧ zx1 ≤ 23 ∧ 0 ≤ zx2 ∧ zx2 ≤ 3 ∧ 0 ≤ zx3 ∧ zx3 ≤ 9))) → post r w) : pX10_canCast   post  x1 x2 x3 w := by
  unfold pX10_canCast
  have hk := ix_k hI
  refine sX10_isSeal   (hI := hI) (tx1 := tx1)  (hp := fun r_1v948 zr_1v948 tr_1v948 p1994 => ?_)
  refine ⟨fun c1995 => ?_, fun c1995 => ?_⟩
  · replace c1995 := c_eq tr_1v948 lit_0 c1995
    exact hp _ _ lit_0 (by omega)
  · replace c1995 := c_neq tr_1v948 lit_0 c1995
    refine sX10_isHand   (hI := hI) (tx1 := tx2)  (hp := fun r_4v954 zr_4v954 tr_4v954 p1996 => ?_)
    refine ⟨fun c1997 => ?_, fun c1997 => ?_⟩
    · replace c1997 := c_eq tr_4v954 lit_0 c1997
      exact hp _ _ lit_0 (by omega)
    · replace c1997 := c_neq tr_4v954 lit_0 c1997
      refine sX10_isHeat   (hI := hI) (tx0 := tx3)  (hp := fun r_7v958 zr_7v958 tr_7v958 p1998 => ?_)
      refine ⟨fun c1999 => ?_, fun c1999 => ?_⟩
      · replace c1999 := c_eq tr_7v958 lit_0 c1999
        exact hp _ _ lit_0 (by omega)
      · replace c1999 := c_neq tr_7v958 lit_0 c1999
        exact hp _ _ lit_1 (by omega)
set_option maxHeartbeats 4000000 in
set_option maxRecDepth 100000 in
theorem sX10_cast {T D : Int} {k : Nat} {post : Int32 → Wd → Prop} {x1 : Int32} {zx1 : Int} {x2 : Int32} {zx2 : Int} {x3 : Int32} {zx3 : Int} {w : Wd}  (tx1 : Ti x1 zx1) (tx2 : Ti x2 zx2) (tx3 : Ti x3 zx3) (hI : IX k T D w)  (hp : ∀ (r : Int32) (zr : Int) (w9 : Wd) (D9 : Int), Ti r zr → IX k T D9 w9 → post r w9) : pX10_cast   post  x1 x2 x3 w := by
  unfold pX10_cast
  have hk := ix_k hI
  refine sX10_canCast   (hI := hI) (tx1 := tx1) (tx2 := tx2) (tx3 := tx3)  (hp := fun r_1v960 zr_1v960 tr_1v960 p2000 => ?_)
  refine ⟨fun c2001 => ?_, fun c2001 => ?_⟩
  · replace c2001 := c_eq tr_1v960 lit_0 c2001
    exact hp _ _ _ _ lit_m1 hI 
  · replace c2001 := c_neq tr_1v960 lit_0 c2001
    obtain ⟨z2002, t2003⟩ := t_any (w.1 160 0)
    have f2004 := ixg_c0 hI t2003
    refine ⟨fun c2005 => ?_, fun c2005 => ?_⟩
    · replace c2005 := c_le lit_24 t2003 c2005
      exact hp _ _ _ _ lit_m1 hI 
    · replace c2005 := c_nle lit_24 t2003 c2005
      obtain ⟨z2006, t2007, f2008⟩ := t_add lit_1 tx3
      first | replace f2008 := f2008 (by omega) | clear f2008
      obtain ⟨z2009, t2010⟩ := t_any (w.1 160 11)
      refine ⟨fun c2011 => ?_, fun c2011 => ?_⟩
      · replace c2011 := c_le t2007 t2010 c2011
        refine sX0_add   (hI := hI) (tx1 := lit_0) (tx2 := tx1) (tx3 := tx2) (tx4 := tx3)  (hp := fun  w_6v963 g2012  hIw_6v963  => ?_)
        obtain ⟨z2013, t2014⟩ := t_any (w_6v963.1 160 0)
        have f2015 := ixg_c0 hIw_6v963 t2014
        obtain ⟨z2016, t2017, f2018⟩ := t_sub t2014 lit_1
        first | replace f2018 := f2018 (by omega) | clear f2018
        exact hp _ _ _ _ t2017 hIw_6v963 
      · replace c2011 := c_nle t2007 t2010 c2011
        exact hp _ _ _ _ lit_m1 hI 
set_option maxHeartbeats 4000000 in
set_option maxRecDepth 100000 in
theorem sX10_print {T D : Int} {k : Nat} {post : Int32 → Wd → Prop} {x1 : Int32} {zx1 : Int} {w : Wd}  (tx1 : Ti x1 zx1) (hI : IX k T D w)  (hp : ∀ (r : Int32) (zr : Int) (w9 : Wd) (D9 : Int), Ti r zr → IX k T D9 w9 → post r w9) : pX10_print   post  x1 w := by
  unfold pX10_print
  have hk := ix_k hI
  refine sX10_isSeal   (hI := hI) (tx1 := tx1)  (hp := fun r_1v964 zr_1v964 tr_1v964 p2019 => ?_)
  refine ⟨fun c2020 => ?_, fun c2020 => ?_⟩
  · replace c2020 := c_eq tr_1v964 lit_0 c2020
    exact hp _ _ _ _ lit_m1 hI 
  · replace c2020 := c_neq tr_1v964 lit_0 c2020
    obtain ⟨z2021, t2022⟩ := t_any (w.1 160 6)
    have f2023 := ixg_c6 hI t2022
    refine ⟨fun c2024 => ?_, fun c2024 => ?_⟩
    · replace c2024 := c_le lit_40 t2022 c2024
      exact hp _ _ _ _ lit_m1 hI 
    · replace c2024 := c_nle lit_40 t2022 c2024
      obtain ⟨z2025, t2026⟩ := t_any (w.1 160 11)
      refine ⟨fun c2027 => ?_, fun c2027 => ?_⟩
      · replace c2027 := c_le lit_1 t2026 c2027
        refine sX0_add   (hI := hI) (tx1 := lit_1) (tx2 := tx1) (tx3 := lit_0) (tx4 := lit_0)  (hp := fun  w_6v967 g2028  hIw_6v967  => ?_)
        obtain ⟨z2029, t2030⟩ := t_any (w_6v967.1 160 6)
        have f2031 := ixg_c6 hIw_6v967 t2030
        obtain ⟨z2032, t2033, f2034⟩ := t_sub t2030 lit_1
        first | replace f2034 := f2034 (by omega) | clear f2034
        exact hp _ _ _ _ t2033 hIw_6v967 
      · replace c2027 := c_nle lit_1 t2026 c2027
        exact hp _ _ _ _ lit_m1 hI 
set_option maxHeartbeats 4000000 in
set_option maxRecDepth 100000 in
theorem sX10_isMark {T D : Int} {k : Nat} {post : Int32 → Wd → Prop} {x1 : Int32} {zx1 : Int} {w : Wd}  (tx1 : Ti x1 zx1) (hI : IX k T D w)  (hp : ∀ (r : Int32) (zr : Int), Ti r zr → ((zr = 0 ∨ (0 ≤ zx1 ∧ zx1 ≤ 11))) → post r w) : pX10_isMark   post  x1 w := by
  unfold pX10_isMark
  have hk := ix_k hI
  refine ⟨fun c2035 => ?_, fun c2035 => ?_⟩
  · replace c2035 := c_lt tx1 lit_0 c2035
    exact hp _ _ lit_0 (by omega)
  · replace c2035 := c_nlt tx1 lit_0 c2035
    obtain ⟨z2036, t2037⟩ := t_any (w.1 (rl (w.2.2.2.2 0)) 0)
    have f2038 := ixg_r0 hI t2037
    refine ⟨fun c2039 => ?_, fun c2039 => ?_⟩
    · replace c2039 := c_le t2037 tx1 c2039
      exact hp _ _ lit_0 (by omega)
    · replace c2039 := c_nle t2037 tx1 c2039
      exact hp _ _ lit_1 (by omega)
set_option maxHeartbeats 4000000 in
set_option maxRecDepth 100000 in
theorem sX10_sealHas {T D : Int} {k : Nat} {post : Int32 → Wd → Prop} {x1 : Int32} {zx1 : Int} {x2 : Int32} {zx2 : Int} {w : Wd}  (tx1 : Ti x1 zx1) (tx2 : Ti x2 zx2) (hI : IX k T D w)  (hp : ∀ (r : Int32) (zr : Int), Ti r zr → ((zr = 0 ∨ (0 ≤ zx1 ∧ zx1 ≤ 23))) → post r w) : pX10_sealHas   post  x1 x2 w := by
  unfold pX10_sealHas
  have hk := ix_k hI
  refine sX10_isSeal   (hI := hI) (tx1 := tx1)  (hp := fun r_1v968 zr_1v968 tr_1v968 p2040 => ?_)
  refine ⟨fun c2041 => ?_, fun c2041 => ?_⟩
  · replace c2041 := c_eq tr_1v968 lit_0 c2041
    exact hp _ _ lit_0 (by omega)
  · replace c2041 := c_neq tr_1v968 lit_0 c2041
    refine sX10_isMark   (hI := hI) (tx1 := tx2)  (hp := fun r_4v972 zr_4v972 tr_4v972 p2042 => ?_)
    refine ⟨fun c2043 => ?_, fun c2043 => ?_⟩
    · replace c2043 := c_eq tr_4v972 lit_0 c2043
      exact hp _ _ lit_0 (by omega)
    · replace c2043 := c_neq tr_4v972 lit_0 c2043
      refine ⟨vp_of tx1 (by omega) (by omega), ?_⟩
      obtain ⟨z2044, t2045, f2046⟩ := t_and (x := ((w.2.1 162 x1.toNatClampNeg) >>> (x2 &&& 31))) lit_1 (by decide)
      refine ⟨fun c2047 => ?_, fun c2047 => ?_⟩
      · replace c2047 := c_eq t2045 lit_0 c2047
        exact hp _ _ lit_0 (by omega)
      · replace c2047 := c_neq t2045 lit_0 c2047
        exact hp _ _ lit_1 (by omega)
set_option maxHeartbeats 4000000 in
set_option maxRecDepth 100000 in
theorem sX10_crack {T D : Int} {k : Nat} {post : Int32 → Wd → Prop} {x1 : Int32} {zx1 : Int} {x2 : Int32} {zx2 : Int} {w : Wd}  (tx1 : Ti x1 zx1) (tx2 : Ti x2 zx2) (hI : IX k T D w)  (hp : ∀ (r : Int32) (zr : Int) (w9 : Wd) (D9 : Int), Ti r zr → IX k T D9 w9 → post r w9) : pX10_crack   post  x1 x2 w := by
  unfold pX10_crack
  have hk := ix_k hI
  refine sX10_sealHas   (hI := hI) (tx1 := tx1) (tx2 := tx2)  (hp := fun r_1v974 zr_1v974 tr_1v974 p2048 => ?_)
  refine ⟨fun c2049 => ?_, fun c2049 => ?_⟩
  · replace c2049 := c_neq tr_1v974 lit_0 c2049
    refine sX0_add   (hI := hI) (tx1 := lit_2) (tx2 := tx1) (tx3 := tx2) (tx4 := lit_0)  (hp := fun  w_4v977 g2050  hIw_4v977  => ?_)
    exact hp _ _ _ _ lit_1 hIw_4v977 
  · replace c2049 := c_eq tr_1v974 lit_0 c2049
    exact hp _ _ _ _ lit_0 hI 
set_option maxHeartbeats 4000000 in
set_option maxRecDepth 100000 in
theorem sX10_year {T D : Int} {k : Nat} {post : Int32 → Wd → Prop}  {w : Wd}   (hI : IX k T D w)  (hp : ∀ (r : Int32) (zr : Int) (w9 : Wd) (D9 : Int), Ti r zr → IX k T D9 w9 → post r w9) : pX10_year   post   w := by
  unfold pX10_year
  have hk := ix_k hI
  obtain ⟨z2051, t2052⟩ := t_any (w.1 160 12)
  refine ⟨fun c2053 => ?_, fun c2053 => ?_⟩
  · replace c2053 := c_lt t2052 lit_999 c2053
    refine sX0_add   (hI := hI) (tx1 := lit_3) (tx2 := lit_0) (tx3 := lit_0) (tx4 := lit_0)  (hp := fun  w_2v978 g2054  hIw_2v978  => ?_)
    obtain ⟨z2055, t2056⟩ := t_any (w_2v978.1 160 12)
    exact hp _ _ _ _ t2056 hIw_2v978 
  · replace c2053 := c_nlt t2052 lit_999 c2053
    exact hp _ _ _ _ lit_m1 hI 
theorem sX0_takeBack {T D : Int} {k : Nat} {post : Wd → Prop} {x1 : Int32} {zx1 : Int} {w : Wd} (tx1 : Ti x1 zx1) (hI : IX k T D w) (hk : k < 1000) (h0 : 0 ≤ zx1 ∧ zx1 ≤ 39) (hp : ∀ (w9 : Wd), IX (k + 1) T D w9 → post w9) : pX0_takeBack post x1 w := by
  unfold pX0_takeBack
  have hJ := ix_up hI hk
  obtain ⟨z0, t0⟩ := t_any (w.1 160 0)
  obtain ⟨z6, t6⟩ := t_any (w.1 160 6)
  have b0 := ixg_c0 hI t0
  have b6 := ixg_c6 hI t6
  obtain ⟨y0, u0, f0⟩ := t_sub t0 lit_1
  replace f0 := f0 (by omega)
  obtain ⟨y6, u6, f6⟩ := t_sub t6 lit_1
  replace f6 := f6 (by omega)
  have hv : vp_in x1 40 := vp_of tx1 (by omega) (by omega)
  refine ⟨hv, fun c => ?_, fun c => ?_, fun c => ?_, fun c => ?_⟩
  · intro w_2 e2
    exact hp _ (ixs_n hJ e2 (by unfold nX; omega))
  · intro w_3 e3
    have i3 := ixs_c0 (c := 0) hJ e3 u0 (by omega) (by omega)
    refine ⟨hv, ?_⟩
    intro w_4 e4
    have i4 := ixs_n i3 e4 (by unfold nX; omega)
    refine ⟨hv, ?_⟩
    intro w_5 e5
    exact hp _ (ixs_n i4 e5 (by unfold nX; omega))
  · intro w_6 e6
    have i6 := ixs_c6 (c := 0) hJ e6 u6 (by omega) (by omega)
    intro w_7 e7
    exact hp _ (ixs_n i6 e7 (by unfold nX; omega))
  · refine ⟨hv, hv, ?_⟩
    exact sX2_flip (tx1 := rfl) (tx2 := rfl) (hI := hJ) (hp := fun w_8 i8 => hp _ i8)
theorem sX0_goBack {T D : Int} {k : Nat} {post : Int32 → Wd → Prop} {w : Wd} (hI : IX k T D w) (hk : k < 1000) (hp : ∀ (r : Int32) (zr : Int) (w9 : Wd) (D9 : Int), Ti r zr → IX (k + 1) T D9 w9 → (zr = 0 ∨ zr = 1) → post r w9) : pX0_goBack post w := by
  unfold pX0_goBack
  have hJ := ix_up hI hk
  obtain ⟨z, t⟩ := t_any (w.1 50 7)
  have b := ixg_50_7 hI t
  have b2 := ix_k hI
  obtain ⟨y, u, f⟩ := t_sub t lit_1
  replace f := f (by omega)
  refine ⟨fun c => hp _ _ _ _ lit_0 hJ (by omega), fun c => ⟨fun c2 => ?_, fun c2 => hp _ _ _ _ lit_0 hJ (by omega)⟩⟩
  replace c := c_nlt t lit_1 c
  replace c2 := c_le t lit_40 c2
  intro w_3 e3
  have i3 := ixs_50_7 hI e3 u (by omega) (by omega)
  intro w_4 e4
  have i4 := ixs_n i3 e4 (by unfold nX; omega)
  obtain ⟨z4, t4⟩ := t_any (w_4.1 50 7)
  have b4 := ixg_50_7 i4 t4
  exact sX0_takeBack t4 i4 hk (by omega) (fun w_5 i5 => hp _ _ _ _ lit_1 i5 (by omega))
theorem sX10_undo {T D : Int} {k : Nat} {post : Int32 → Wd → Prop} {w : Wd} (hI : IX k T D w) (hk : k < 1000) (hp : ∀ (r : Int32) (zr : Int) (w9 : Wd) (D9 : Int), Ti r zr → IX (k + 1) T D9 w9 → post r w9) : pX10_undo post w := by
  unfold pX10_undo
  exact sX0_goBack hI hk (fun r zr w9 D9 t i9 h => ⟨nar_ok t h, hp _ _ _ _ t i9⟩)
set_option maxHeartbeats 4000000 in
set_option maxRecDepth 100000 in
theorem sX0_goOn {T D : Int} {k : Nat} {post : Int32 → Wd → Prop}  {w : Wd}   (hI : IX k T D w)  (hp : ∀ (r : Int32) (zr : Int) (w9 : Wd) (D9 : Int), Ti r zr → IX k T D9 w9 → ((zr = 0 ∨ zr = 1)) → post r w9) : pX0_goOn   post   w := by
  unfold pX0_goOn
  have hk := ix_k hI
  obtain ⟨z2057, t2058⟩ := t_any (w.1 50 8)
  refine ⟨fun c2059 => ?_, fun c2059 => ?_⟩
  · replace c2059 := c_lt t2058 lit_1 c2059
    exact hp _ _ _ _ lit_0 hI (by omega)
  · replace c2059 := c_nlt t2058 lit_1 c2059
    obtain ⟨z2060, t2061⟩ := t_any (w.1 50 7)
    have f2062 := ixg_50_7 hI t2061
    refine ⟨fun c2063 => ?_, fun c2063 => ?_⟩
    · replace c2063 := c_lt t2061 lit_0 c2063
      exact hp _ _ _ _ lit_0 hI (by omega)
    · replace c2063 := c_nlt t2061 lit_0 c2063
      refine ⟨fun c2064 => ?_, fun c2064 => ?_⟩
      · replace c2064 := c_lt t2061 lit_40 c2064
        refine sX0_perform   (hI := hI) (tx1 := t2061) (h0 := (by omega)) (hp := fun  w_4v979   hIw_4v979  => ?_)
        intro w_5v980 ew_5v980
        obtain ⟨z2065, t2066⟩ := t_any (w_4v979.1 50 7)
        have f2067 := ixg_50_7 hIw_4v979 t2066
        obtain ⟨z2068, t2069, f2070⟩ := t_add t2066 lit_1
        first | replace f2070 := f2070 (by omega) | clear f2070
        have hIw_5v980 := ixs_50_7 hIw_4v979 ew_5v980 t2069 (by omega) (by omega)
        intro w_6v981 ew_6v981
        have hIw_6v981 := ixs_n hIw_5v980 ew_6v981 (by unfold nX; omega)
        exact hp _ _ _ _ lit_1 hIw_6v981 (by omega)
      · replace c2064 := c_nlt t2061 lit_40 c2064
        exact hp _ _ _ _ lit_0 hI (by omega)
set_option maxHeartbeats 4000000 in
set_option maxRecDepth 100000 in
theorem sX10_redo {T D : Int} {k : Nat} {post : Int32 → Wd → Prop}  {w : Wd}   (hI : IX k T D w)  (hp : ∀ (r : Int32) (zr : Int) (w9 : Wd) (D9 : Int), Ti r zr → IX k T D9 w9 → post r w9) : pX10_redo   post   w := by
  unfold pX10_redo
  have hk := ix_k hI
  refine sX0_goOn   (hI := hI)   (hp := fun r_1v982 zr_1v982 w_2v983 g2072 tr_1v982 hIw_2v983 p2071 => ?_)
  refine ⟨nar_ok tr_1v982 (by omega), ?_⟩
  exact hp _ _ _ _ tr_1v982 hIw_2v983 
set_option maxHeartbeats 4000000 in
set_option maxRecDepth 100000 in
theorem sX10_whose_31 {T D : Int} {k : Nat} {post : Int32 → Wd → Prop}   (hp : ∀ (r : Int32) (zr : Int) (w9 : Wd), Ti r zr → IX k T D w9 → post r w9) : ∀ (n : Nat) (x1 : Int32) (x2 : Int32) (x3 : Int32) (x4 : Int32) (x5 : Int32) (zx1 : Int) (zx2 : Int) (zx3 : Int) (zx4 : Int) (zx5 : Int) (w : Wd), Ti x1 zx1 → Ti x2 zx2 → Ti x3 zx3 → Ti x4 zx4 → Ti x5 zx5 → IX k T D w → (0 ≤ zx5 ∧ zx5 ≤ 4) → (0 ≤ zx1 ∧ zx1 ≤ 23) → (5 - zx5) < (n : Int) → pX10_whose_31   post  n x1 x2 x3 x4 x5 w := by
  intro n
  induction n with
  | zero =>
    intro x1 x2 x3 x4 x5 zx1 zx2 zx3 zx4 zx5 w tx1 tx2 tx3 tx4 tx5 hI h0 h1 hm
    exact absurd hm (by omega)
  | succ n ih =>
    intro x1 x2 x3 x4 x5 zx1 zx2 zx3 zx4 zx5 w tx1 tx2 tx3 tx4 tx5 hI h0 h1 hm
    unfold pX10_whose_31
    have hk := ix_k hI
    obtain ⟨z2073, t2074⟩ := t_any (w.1 (rl (w.2.2.2.2 0)) 2)
    have f2075 := ixg_r2 hI t2074
    refine ⟨fun c2076 => ?_, fun c2076 => ?_⟩
    · replace c2076 := c_le t2074 tx5 c2076
      exact hp _ _ _  tx4 hI 
    · replace c2076 := c_nle t2074 tx5 c2076
      refine ⟨vp_of tx1 (by omega) (by omega), ?_⟩
      obtain ⟨z2077, t2078⟩ := t_any (w.2.1 162 x1.toNatClampNeg)
      refine sX1_rowAfter   (hI := hI) (tx1 := t2078) (tx2 := tx5) (tx3 := tx2) (tx4 := lit_0)  (hp := fun r_2v984 zr_2v984 w_3v985  tr_2v984 hIw_3v985  => ?_)
      refine ⟨fun c2079 => ?_, fun c2079 => ?_⟩
      · replace c2079 := c_neq tr_2v984 tx3 c2079
        unfold pX10_whose_76
        obtain ⟨z2080, t2081, f2082⟩ := t_add tx5 lit_1
        first | replace f2082 := f2082 (by omega) | clear f2082
        intro x5_1v987 ex5_1v987
        have tx5_1v987 : Ti x5_1v987 z2080 := by rw [ex5_1v987]; exact t2081
        exact ih _ _ _ _ _ _ _ _ _ _ _ tx1 tx2 tx3 tx4 tx5_1v987 hIw_3v985 (by omega) (by omega) (by omega)
      · replace c2079 := c_eq tr_2v984 tx3 c2079
        obtain ⟨z2083, t2084⟩ := t_any (x4 ||| ((1 : Int32) <<< (x5 &&& 31)))
        intro x4_5v986 ex4_5v986
        have tx4_5v986 : Ti x4_5v986 z2083 := by rw [ex4_5v986]; exact t2084
        unfold pX10_whose_76
        obtain ⟨z2085, t2086, f2087⟩ := t_add tx5 lit_1
        first | replace f2087 := f2087 (by omega) | clear f2087
        intro x5_1v988 ex5_1v988
        have tx5_1v988 : Ti x5_1v988 z2085 := by rw [ex5_1v988]; exact t2086
        exact ih _ _ _ _ _ _ _ _ _ _ _ tx1 tx2 tx3 tx4_5v986 tx5_1v988 hIw_3v985 (by omega) (by omega) (by omega)
set_option maxHeartbeats 4000000 in
set_option maxRecDepth 100000 in
theorem sX10_whose {T D : Int} {k : Nat} {post : Int32 → Wd → Prop} {x1 : Int32} {zx1 : Int} {x2 : Int32} {zx2 : Int} {x3 : Int32} {zx3 : Int} {w : Wd}  (tx1 : Ti x1 zx1) (tx2 : Ti x2 zx2) (tx3 : Ti x3 zx3) (hI : IX k T D w)  (hp : ∀ (r : Int32) (zr : Int) (w9 : Wd), Ti r zr → IX k T D w9 → post r w9) : pX10_whose   post  x1 x2 x3 w := by
  unfold pX10_whose
  have hk := ix_k hI
  refine sX10_isSeal   (hI := hI) (tx1 := tx1)  (hp := fun r_1v989 zr_1v989 tr_1v989 p2088 => ?_)
  refine ⟨fun c2089 => ?_, fun c2089 => ?_⟩
  · replace c2089 := c_eq tr_1v989 lit_0 c2089
    exact hp _ _ _  lit_m1 hI 
  · replace c2089 := c_neq tr_1v989 lit_0 c2089
    refine sX10_isHeat   (hI := hI) (tx0 := tx2)  (hp := fun r_4v995 zr_4v995 tr_4v995 p2090 => ?_)
    refine ⟨fun c2091 => ?_, fun c2091 => ?_⟩
    · replace c2091 := c_eq tr_4v995 lit_0 c2091
      exact hp _ _ _  lit_m1 hI 
    · replace c2091 := c_neq tr_4v995 lit_0 c2091
      refine sX10_isRow   (hI := hI) (tx1 := tx3)  (hp := fun r_7v999 zr_7v999 tr_7v999 p2092 => ?_)
      refine ⟨fun c2093 => ?_, fun c2093 => ?_⟩
      · replace c2093 := c_neq tr_7v999 lit_0 c2093
        exact ⟨70000, sX10_whose_31   (hp := hp) 70000 _ _ _ _ _ _ _ _ _ _ _ tx1 tx2 tx3 lit_0 lit_0 hI (by omega) (by omega) (by omega)⟩
      · replace c2093 := c_eq tr_7v999 lit_0 c2093
        exact hp _ _ _  lit_m1 hI 
set_option maxHeartbeats 4000000 in
set_option maxRecDepth 100000 in
theorem sX10_printOf {T D : Int} {k : Nat} {post : Int32 → Wd → Prop} {x1 : Int32} {zx1 : Int} {w : Wd}  (tx1 : Ti x1 zx1) (hI : IX k T D w)  (hp : ∀ (r : Int32) (zr : Int), Ti r zr → post r w) : pX10_printOf   post  x1 w := by
  unfold pX10_printOf
  have hk := ix_k hI
  refine sX10_isSeal   (hI := hI) (tx1 := tx1)  (hp := fun r_1v1001 zr_1v1001 tr_1v1001 p2094 => ?_)
  refine ⟨fun c2095 => ?_, fun c2095 => ?_⟩
  · replace c2095 := c_eq tr_1v1001 lit_0 c2095
    exact hp _ _ lit_0 
  · replace c2095 := c_neq tr_1v1001 lit_0 c2095
    refine ⟨vp_of tx1 (by omega) (by omega), ?_⟩
    obtain ⟨z2096, t2097⟩ := t_any (w.2.1 162 x1.toNatClampNeg)
    obtain ⟨z2098, t2099⟩ := t_any (w.1 (rl (w.2.2.2.2 0)) 0)
    have f2100 := ixg_r0 hI t2099
    refine sX10_turn   (hI := hI) (tx0 := t2097) (tx1 := t2099)  (hp := fun r_4v1005 zr_4v1005 tr_4v1005 => ?_)
    exact hp _ _ tr_4v1005 
set_option maxHeartbeats 4000000 in
set_option maxRecDepth 100000 in
theorem sX10_made_25 {T D : Int} {k : Nat} {post : Int32 → Wd → Prop} {w : Wd}  (hp : ∀ (r : Int32) (zr : Int), Ti r zr → post r w) : ∀ (n : Nat) (x1 : Int32) (x2 : Int32) (x3 : Int32) (x4 : Int32) (zx1 : Int) (zx2 : Int) (zx3 : Int) (zx4 : Int), Ti x1 zx1 → Ti x2 zx2 → Ti x3 zx3 → Ti x4 zx4 → IX k T D w → (0 ≤ zx4 ∧ zx4 ≤ 24) → (25 - zx4) < (n : Int) → pX10_made_25   post  n x1 x2 x3 x4 w := by
  intro n
  induction n with
  | zero =>
    intro x1 x2 x3 x4 zx1 zx2 zx3 zx4  tx1 tx2 tx3 tx4 hI h0 hm
    exact absurd hm (by omega)
  | succ n ih =>
    intro x1 x2 x3 x4 zx1 zx2 zx3 zx4  tx1 tx2 tx3 tx4 hI h0 hm
    unfold pX10_made_25
    have hk := ix_k hI
    obtain ⟨z2101, t2102⟩ := t_any (w.1 160 0)
    have f2103 := ixg_c0 hI t2102
    refine ⟨fun c2104 => ?_, fun c2104 => ?_⟩
    · replace c2104 := c_le t2102 tx4 c2104
      exact hp _ _ tx3 
    · replace c2104 := c_nle t2102 tx4 c2104
      refine sX10_printOf   (hI := hI) (tx1 := tx4)  (hp := fun r_2v1007 zr_2v1007 tr_2v1007 => ?_)
      obtain ⟨z2105, t2106⟩ := t_any (x1 &&& (r_2v1007 ^^^ (-1 : Int32)))
      refine ⟨fun c2107 => ?_, fun c2107 => ?_⟩
      · replace c2107 := c_neq t2106 lit_0 c2107
        unfold pX10_made_74
        obtain ⟨z2108, t2109, f2110⟩ := t_add tx4 lit_1
        first | replace f2110 := f2110 (by omega) | clear f2110
        intro x4_1v1015 ex4_1v1015
        have tx4_1v1015 : Ti x4_1v1015 z2108 := by rw [ex4_1v1015]; exact t2109
        exact ih _ _ _ _ _ _ _ _  tx1 tx2 tx3 tx4_1v1015 hI (by omega) (by omega)
      · replace c2107 := c_eq t2106 lit_0 c2107
        obtain ⟨z2111, t2112⟩ := t_any (r_2v1007 &&& (x1 ^^^ (-1 : Int32)))
        refine sJ6_bitCount_0f7a4   (hI := hI) (tx0 := t2112)  (hp := fun r_5v1012 zr_5v1012 tr_5v1012 p2113 => ?_)
        refine ⟨fun c2114 => ?_, fun c2114 => ?_⟩
        · replace c2114 := c_lt tx2 tr_5v1012 c2114
          unfold pX10_made_74
          obtain ⟨z2115, t2116, f2117⟩ := t_add tx4 lit_1
          first | replace f2117 := f2117 (by omega) | clear f2117
          intro x4_1v1017 ex4_1v1017
          have tx4_1v1017 : Ti x4_1v1017 z2115 := by rw [ex4_1v1017]; exact t2116
          exact ih _ _ _ _ _ _ _ _  tx1 tx2 tx3 tx4_1v1017 hI (by omega) (by omega)
        · replace c2114 := c_nlt tx2 tr_5v1012 c2114
          obtain ⟨z2118, t2119⟩ := t_any (x3 ||| ((1 : Int32) <<< (x4 &&& 31)))
          intro x3_8v1016 ex3_8v1016
          have tx3_8v1016 : Ti x3_8v1016 z2118 := by rw [ex3_8v1016]; exact t2119
          unfold pX10_made_74
          obtain ⟨z2120, t2121, f2122⟩ := t_add tx4 lit_1
          first | replace f2122 := f2122 (by omega) | clear f2122
          intro x4_1v1018 ex4_1v1018
          have tx4_1v1018 : Ti x4_1v1018 z2120 := by rw [ex4_1v1018]; exact t2121
          exact ih _ _ _ _ _ _ _ _  tx1 tx2 tx3_8v1016 tx4_1v1018 hI (by omega) (by omega)
set_option maxHeartbeats 4000000 in
set_option maxRecDepth 100000 in
theorem sX10_made {T D : Int} {k : Nat} {post : Int32 → Wd → Prop} {x1 : Int32} {zx1 : Int} {x2 : Int32} {zx2 : Int} {w : Wd}  (tx1 : Ti x1 zx1) (tx2 : Ti x2 zx2) (hI : IX k T D w)  (hp : ∀ (r : Int32) (zr : Int), Ti r zr → post r w) : pX10_made   post  x1 x2 w := by
  unfold pX10_made
  have hk := ix_k hI
  refine sX10_isRow   (hI := hI) (tx1 := tx1)  (hp := fun r_1v1019 zr_1v1019 tr_1v1019 p2123 => ?_)
  refine ⟨fun c2124 => ?_, fun c2124 => ?_⟩
  · replace c2124 := c_eq tr_1v1019 lit_0 c2124
    exact hp _ _ lit_m1 
  · replace c2124 := c_neq tr_1v1019 lit_0 c2124
    refine ⟨fun c2125 => ?_, fun c2125 => ?_⟩
    · replace c2125 := c_lt tx2 lit_0 c2125
      exact hp _ _ lit_m1 
    · replace c2125 := c_nlt tx2 lit_0 c2125
      refine ⟨fun c2126 => ?_, fun c2126 => ?_⟩
      · replace c2126 := c_le tx2 lit_12 c2126
        exact ⟨70000, sX10_made_25   (hp := hp) 70000 _ _ _ _ _ _ _ _  tx1 tx2 lit_0 lit_0 hI (by omega) (by omega)⟩
      · replace c2126 := c_nle tx2 lit_12 c2126
        exact hp _ _ lit_m1 
set_option maxHeartbeats 4000000 in
set_option maxRecDepth 100000 in
theorem sX10_apart {T D : Int} {k : Nat} {post : Int32 → Wd → Prop} {x1 : Int32} {zx1 : Int} {x2 : Int32} {zx2 : Int} {x3 : Int32} {zx3 : Int} {w : Wd}  (tx1 : Ti x1 zx1) (tx2 : Ti x2 zx2) (tx3 : Ti x3 zx3) (hI : IX k T D w)  (hp : ∀ (r : Int32) (zr : Int), Ti r zr → post r w) : pX10_apart   post  x1 x2 x3 w := by
  unfold pX10_apart
  have hk := ix_k hI
  refine sX10_isSeal   (hI := hI) (tx1 := tx1)  (hp := fun r_1v1021 zr_1v1021 tr_1v1021 p2127 => ?_)
  refine ⟨fun c2128 => ?_, fun c2128 => ?_⟩
  · replace c2128 := c_eq tr_1v1021 lit_0 c2128
    exact hp _ _ lit_m1 
  · replace c2128 := c_neq tr_1v1021 lit_0 c2128
    refine sX10_isSeal   (hI := hI) (tx1 := tx2)  (hp := fun r_4v1027 zr_4v1027 tr_4v1027 p2129 => ?_)
    refine ⟨fun c2130 => ?_, fun c2130 => ?_⟩
    · replace c2130 := c_neq tr_4v1027 lit_0 c2130
      refine ⟨fun c2131 => ?_, fun c2131 => ?_⟩
      · replace c2131 := c_eq tx3 lit_0 c2131
        refine ⟨vp_of tx2 (by omega) (by omega), ?_⟩
        unfold pX10_apart_39
        refine ⟨vp_of tx1 (by omega) (by omega), ?_⟩
        obtain ⟨z2132, t2133⟩ := t_any ((w.2.1 162 x1.toNatClampNeg) ^^^ (w.2.1 162 x2.toNatClampNeg))
        refine sJ6_bitCount_0f7a4   (hI := hI) (tx0 := t2133)  (hp := fun r_1v1033 zr_1v1033 tr_1v1033 p2134 => ?_)
        exact hp _ _ tr_1v1033 
      · replace c2131 := c_neq tx3 lit_0 c2131
        refine sX10_printOf   (hI := hI) (tx1 := tx2)  (hp := fun r_8v1031 zr_8v1031 tr_8v1031 => ?_)
        unfold pX10_apart_39
        refine ⟨vp_of tx1 (by omega) (by omega), ?_⟩
        obtain ⟨z2135, t2136⟩ := t_any ((w.2.1 162 x1.toNatClampNeg) ^^^ r_8v1031)
        refine sJ6_bitCount_0f7a4   (hI := hI) (tx0 := t2136)  (hp := fun r_1v1035 zr_1v1035 tr_1v1035 p2137 => ?_)
        exact hp _ _ tr_1v1035 
    · replace c2130 := c_eq tr_4v1027 lit_0 c2130
      exact hp _ _ lit_m1 
set_option maxHeartbeats 4000000 in
set_option maxRecDepth 100000 in
theorem sX10_heats_32 {T D : Int} {k : Nat} {post : Int32 → Wd → Prop}   (hp : ∀ (r : Int32) (zr : Int) (w9 : Wd), Ti r zr → IX k T D w9 → post r w9) : ∀ (n : Nat) (x1 : Int32) (x2 : Int32) (x3 : Int32) (x4 : Int32) (x5 : Int32) (zx1 : Int) (zx2 : Int) (zx3 : Int) (zx4 : Int) (zx5 : Int) (w : Wd), Ti x1 zx1 → Ti x2 zx2 → Ti x3 zx3 → Ti x4 zx4 → Ti x5 zx5 → IX k T D w → (0 ≤ zx5 ∧ zx5 ≤ 10) → (0 ≤ zx1 ∧ zx1 ≤ 23) → (11 - zx5) < (n : Int) → pX10_heats_32   post  n x1 x2 x3 x4 x5 w := by
  intro n
  induction n with
  | zero =>
    intro x1 x2 x3 x4 x5 zx1 zx2 zx3 zx4 zx5 w tx1 tx2 tx3 tx4 tx5 hI h0 h1 hm
    exact absurd hm (by omega)
  | succ n ih =>
    intro x1 x2 x3 x4 x5 zx1 zx2 zx3 zx4 zx5 w tx1 tx2 tx3 tx4 tx5 hI h0 h1 hm
    unfold pX10_heats_32
    have hk := ix_k hI
    refine ⟨fun c2138 => ?_, fun c2138 => ?_⟩
    · replace c2138 := c_le lit_10 tx5 c2138
      exact hp _ _ _  tx4 hI 
    · replace c2138 := c_nle lit_10 tx5 c2138
      refine ⟨vp_of tx1 (by omega) (by omega), ?_⟩
      obtain ⟨z2139, t2140⟩ := t_any (w.2.1 162 x1.toNatClampNeg)
      refine sX1_rowAfter   (hI := hI) (tx1 := t2140) (tx2 := tx2) (tx3 := tx5) (tx4 := lit_0)  (hp := fun r_2v1037 zr_2v1037 w_3v1038  tr_2v1037 hIw_3v1038  => ?_)
      refine ⟨fun c2141 => ?_, fun c2141 => ?_⟩
      · replace c2141 := c_neq tr_2v1037 tx3 c2141
        unfold pX10_heats_72
        obtain ⟨z2142, t2143, f2144⟩ := t_add tx5 lit_1
        first | replace f2144 := f2144 (by omega) | clear f2144
        intro x5_1v1040 ex5_1v1040
        have tx5_1v1040 : Ti x5_1v1040 z2142 := by rw [ex5_1v1040]; exact t2143
        exact ih _ _ _ _ _ _ _ _ _ _ _ tx1 tx2 tx3 tx4 tx5_1v1040 hIw_3v1038 (by omega) (by omega) (by omega)
      · replace c2141 := c_eq tr_2v1037 tx3 c2141
        obtain ⟨z2145, t2146⟩ := t_any (x4 ||| ((1 : Int32) <<< (x5 &&& 31)))
        intro x4_5v1039 ex4_5v1039
        have tx4_5v1039 : Ti x4_5v1039 z2145 := by rw [ex4_5v1039]; exact t2146
        unfold pX10_heats_72
        obtain ⟨z2147, t2148, f2149⟩ := t_add tx5 lit_1
        first | replace f2149 := f2149 (by omega) | clear f2149
        intro x5_1v1041 ex5_1v1041
        have tx5_1v1041 : Ti x5_1v1041 z2147 := by rw [ex5_1v1041]; exact t2148
        exact ih _ _ _ _ _ _ _ _ _ _ _ tx1 tx2 tx3 tx4_5v1039 tx5_1v1041 hIw_3v1038 (by omega) (by omega) (by omega)
set_option maxHeartbeats 4000000 in
set_option maxRecDepth 100000 in
theorem sX10_heats {T D : Int} {k : Nat} {post : Int32 → Wd → Prop} {x1 : Int32} {zx1 : Int} {x2 : Int32} {zx2 : Int} {x3 : Int32} {zx3 : Int} {w : Wd}  (tx1 : Ti x1 zx1) (tx2 : Ti x2 zx2) (tx3 : Ti x3 zx3) (hI : IX k T D w)  (hp : ∀ (r : Int32) (zr : Int) (w9 : Wd), Ti r zr → IX k T D w9 → post r w9) : pX10_heats   post  x1 x2 x3 w := by
  unfold pX10_heats
  have hk := ix_k hI
  refine sX10_isSeal   (hI := hI) (tx1 := tx1)  (hp := fun r_1v1042 zr_1v1042 tr_1v1042 p2150 => ?_)
  refine ⟨fun c2151 => ?_, fun c2151 => ?_⟩
  · replace c2151 := c_eq tr_1v1042 lit_0 c2151
    exact hp _ _ _  lit_m1 hI 
  · replace c2151 := c_neq tr_1v1042 lit_0 c2151
    refine sX10_isHand   (hI := hI) (tx1 := tx2)  (hp := fun r_4v1048 zr_4v1048 tr_4v1048 p2152 => ?_)
    refine ⟨fun c2153 => ?_, fun c2153 => ?_⟩
    · replace c2153 := c_eq tr_4v1048 lit_0 c2153
      exact hp _ _ _  lit_m1 hI 
    · replace c2153 := c_neq tr_4v1048 lit_0 c2153
      refine sX10_isRow   (hI := hI) (tx1 := tx3)  (hp := fun r_7v1052 zr_7v1052 tr_7v1052 p2154 => ?_)
      refine ⟨fun c2155 => ?_, fun c2155 => ?_⟩
      · replace c2155 := c_neq tr_7v1052 lit_0 c2155
        exact ⟨70000, sX10_heats_32   (hp := hp) 70000 _ _ _ _ _ _ _ _ _ _ _ tx1 tx2 tx3 lit_0 lit_0 hI (by omega) (by omega) (by omega)⟩
      · replace c2155 := c_eq tr_7v1052 lit_0 c2155
        exact hp _ _ _  lit_m1 hI 
set_option maxHeartbeats 4000000 in
set_option maxRecDepth 100000 in
theorem sX10_luck_27 {T D : Int} {k : Nat} {post : Int32 → Wd → Prop}   (hp : ∀ (r : Int32) (zr : Int) (w9 : Wd), Ti r zr → IX k T D w9 → post r w9) : ∀ (n : Nat) (x1 : Int32) (x2 : Int32) (x3 : Int32) (x4 : Int32) (x5 : Int32) (x6 : Int32) (zx1 : Int) (zx2 : Int) (zx3 : Int) (zx4 : Int) (zx5 : Int) (zx6 : Int) (w : Wd), Ti x1 zx1 → Ti x2 zx2 → Ti x3 zx3 → Ti x4 zx4 → Ti x5 zx5 → Ti x6 zx6 → IX k T D w → (0 ≤ zx6 ∧ zx6 ≤ 100) → (0 ≤ zx1 ∧ zx1 ≤ 23) → (101 - zx6) < (n : Int) → pX10_luck_27   post  n x1 x2 x3 x4 x5 x6 w := by
  intro n
  induction n with
  | zero =>
    intro x1 x2 x3 x4 x5 x6 zx1 zx2 zx3 zx4 zx5 zx6 w tx1 tx2 tx3 tx4 tx5 tx6 hI h0 h1 hm
    exact absurd hm (by omega)
  | succ n ih =>
    intro x1 x2 x3 x4 x5 x6 zx1 zx2 zx3 zx4 zx5 zx6 w tx1 tx2 tx3 tx4 tx5 tx6 hI h0 h1 hm
    unfold pX10_luck_27
    have hk := ix_k hI
    refine ⟨fun c2156 => ?_, fun c2156 => ?_⟩
    · replace c2156 := c_le lit_100 tx6 c2156
      exact hp _ _ _  tx5 hI 
    · replace c2156 := c_nle lit_100 tx6 c2156
      refine ⟨vp_of tx1 (by omega) (by omega), ?_⟩
      obtain ⟨z2157, t2158⟩ := t_any (w.2.1 162 x1.toNatClampNeg)
      refine sX1_rowAfter   (hI := hI) (tx1 := t2158) (tx2 := tx2) (tx3 := tx3) (tx4 := tx6)  (hp := fun r_2v1054 zr_2v1054 w_3v1055  tr_2v1054 hIw_3v1055  => ?_)
      refine ⟨fun c2159 => ?_, fun c2159 => ?_⟩
      · replace c2159 := c_neq tr_2v1054 tx4 c2159
        unfold pX10_luck_62
        obtain ⟨z2160, t2161, f2162⟩ := t_add tx6 lit_1
        first | replace f2162 := f2162 (by omega) | clear f2162
        intro x6_1v1057 ex6_1v1057
        have tx6_1v1057 : Ti x6_1v1057 z2160 := by rw [ex6_1v1057]; exact t2161
        exact ih _ _ _ _ _ _ _ _ _ _ _ _ _ tx1 tx2 tx3 tx4 tx5 tx6_1v1057 hIw_3v1055 (by omega) (by omega) (by omega)
      · replace c2159 := c_eq tr_2v1054 tx4 c2159
        obtain ⟨z2163, t2164, f2165⟩ := t_add tx5 lit_1
        first | replace f2165 := f2165 (by omega) | clear f2165
        intro x5_5v1056 ex5_5v1056
        have tx5_5v1056 : Ti x5_5v1056 z2163 := by rw [ex5_5v1056]; exact t2164
        unfold pX10_luck_62
        obtain ⟨z2166, t2167, f2168⟩ := t_add tx6 lit_1
        first | replace f2168 := f2168 (by omega) | clear f2168
        intro x6_1v1058 ex6_1v1058
        have tx6_1v1058 : Ti x6_1v1058 z2166 := by rw [ex6_1v1058]; exact t2167
        exact ih _ _ _ _ _ _ _ _ _ _ _ _ _ tx1 tx2 tx3 tx4 tx5_5v1056 tx6_1v1058 hIw_3v1055 (by omega) (by omega) (by omega)
set_option maxHeartbeats 4000000 in
set_option maxRecDepth 100000 in
theorem sX10_luck {T D : Int} {k : Nat} {post : Int32 → Wd → Prop} {x1 : Int32} {zx1 : Int} {x2 : Int32} {zx2 : Int} {x3 : Int32} {zx3 : Int} {x4 : Int32} {zx4 : Int} {w : Wd}  (tx1 : Ti x1 zx1) (tx2 : Ti x2 zx2) (tx3 : Ti x3 zx3) (tx4 : Ti x4 zx4) (hI : IX k T D w)  (hp : ∀ (r : Int32) (zr : Int) (w9 : Wd), Ti r zr → IX k T D w9 → post r w9) : pX10_luck   post  x1 x2 x3 x4 w := by
  unfold pX10_luck
  have hk := ix_k hI
  refine sX10_canCast   (hI := hI) (tx1 := tx1) (tx2 := tx2) (tx3 := tx3)  (hp := fun r_1v1059 zr_1v1059 tr_1v1059 p2169 => ?_)
  refine ⟨fun c2170 => ?_, fun c2170 => ?_⟩
  · replace c2170 := c_eq tr_1v1059 lit_0 c2170
    exact hp _ _ _  lit_m1 hI 
  · replace c2170 := c_neq tr_1v1059 lit_0 c2170
    refine sX10_isRow   (hI := hI) (tx1 := tx4)  (hp := fun r_4v1063 zr_4v1063 tr_4v1063 p2171 => ?_)
    refine ⟨fun c2172 => ?_, fun c2172 => ?_⟩
    · replace c2172 := c_neq tr_4v1063 lit_0 c2172
      exact ⟨70000, sX10_luck_27   (hp := hp) 70000 _ _ _ _ _ _ _ _ _ _ _ _ _ tx1 tx2 tx3 tx4 lit_0 lit_0 hI (by omega) (by omega) (by omega)⟩
    · replace c2172 := c_eq tr_4v1063 lit_0 c2172
      exact hp _ _ _  lit_m1 hI 
set_option maxHeartbeats 4000000 in
set_option maxRecDepth 100000 in
theorem sX10_clearByRow_2 {T D : Int} {k : Nat} {post : Wd → Prop}   (hp : ∀ (w9 : Wd), IX k T D w9 → post w9) : ∀ (n : Nat) (x1 : Int32) (zx1 : Int) (w : Wd), Ti x1 zx1 → IX k T D w → (0 ≤ zx1 ∧ zx1 ≤ 4096) → (4097 - zx1) < (n : Int) → pX10_clearByRow_2   post  n x1 w := by
  intro n
  induction n with
  | zero =>
    intro x1 zx1 w tx1 hI h0 hm
    exact absurd hm (by omega)
  | succ n ih =>
    intro x1 zx1 w tx1 hI h0 hm
    unfold pX10_clearByRow_2
    have hk := ix_k hI
    refine sX7_rows   (hI := hI)   (hp := fun r_1v1065 zr_1v1065 tr_1v1065 p2173 => ?_)
    refine ⟨fun c2174 => ?_, fun c2174 => ?_⟩
    · replace c2174 := c_le tr_1v1065 tx1 c2174
      exact hp  _   hI 
    · replace c2174 := c_nle tr_1v1065 tx1 c2174
      refine ⟨vp_of tx1 (by omega) (by omega), ?_⟩
      intro w_4v1069 ew_4v1069
      have hIw_4v1069 := ixs_A hI ew_4v1069 (by decide)
      obtain ⟨z2175, t2176, f2177⟩ := t_add tx1 lit_1
      first | replace f2177 := f2177 (by omega) | clear f2177
      intro x1_5v1070 ex1_5v1070
      have tx1_5v1070 : Ti x1_5v1070 z2175 := by rw [ex1_5v1070]; exact t2176
      exact ih _ _ _ tx1_5v1070 hIw_4v1069 (by omega) (by omega)
set_option maxHeartbeats 4000000 in
set_option maxRecDepth 100000 in
theorem sX10_clearByRow {T D : Int} {k : Nat} {post : Wd → Prop}  {w : Wd}   (hI : IX k T D w)  (hp : ∀ (w9 : Wd), IX k T D w9 → post w9) : pX10_clearByRow   post   w := by
  unfold pX10_clearByRow
  have hk := ix_k hI
  exact ⟨70000, sX10_clearByRow_2   (hp := hp) 70000 _ _ _ lit_0 hI (by omega) (by omega)⟩
set_option maxHeartbeats 4000000 in
set_option maxRecDepth 100000 in
theorem sX10_likely_91 {T D : Int} {k : Nat} {post : Int32 → Wd → Prop}   (hp : ∀ (r : Int32) (zr : Int) (w9 : Wd), Ti r zr → IX k T D w9 → post r w9) : ∀ (n : Nat) (x4 : Int32) (x5 : Int32) (x6 : Int32) (zx4 : Int) (zx5 : Int) (zx6 : Int) (w : Wd), Ti x4 zx4 → Ti x5 zx5 → Ti x6 zx6 → IX k T D w → (0 ≤ zx6 ∧ zx6 ≤ 4096) → (0 ≤ zx5 ∧ zx5 ≤ 4095) → (4097 - zx6) < (n : Int) → pX10_likely_91   post  n x4 x5 x6 w := by
  intro n
  induction n with
  | zero =>
    intro x4 x5 x6 zx4 zx5 zx6 w tx4 tx5 tx6 hI h0 h1 hm
    exact absurd hm (by omega)
  | succ n ih =>
    intro x4 x5 x6 zx4 zx5 zx6 w tx4 tx5 tx6 hI h0 h1 hm
    unfold pX10_likely_91
    have hk := ix_k hI
    refine sX7_rows   (hI := hI)   (hp := fun r_1v1071 zr_1v1071 tr_1v1071 p2178 => ?_)
    refine ⟨fun c2179 => ?_, fun c2179 => ?_⟩
    · replace c2179 := c_le tr_1v1071 tx6 c2179
      refine ⟨fun c2180 => ?_, fun c2180 => ?_⟩
      · replace c2180 := c_neq tx4 lit_0 c2180
        refine ⟨vp_of tx5 (by omega) (by omega), ?_⟩
        obtain ⟨z2181, t2182⟩ := t_any (w.2.1 13 x5.toNatClampNeg)
        exact hp _ _ _  t2182 hI 
      · replace c2180 := c_eq tx4 lit_0 c2180
        exact hp _ _ _  tx5 hI 
    · replace c2179 := c_nle tr_1v1071 tx6 c2179
      refine ⟨vp_of tx6 (by omega) (by omega), ?_⟩
      refine ⟨vp_of tx5 (by omega) (by omega), ?_⟩
      obtain ⟨z2183, t2184⟩ := t_any (w.2.1 13 x6.toNatClampNeg)
      obtain ⟨z2185, t2186⟩ := t_any (w.2.1 13 x5.toNatClampNeg)
      refine ⟨fun c2187 => ?_, fun c2187 => ?_⟩
      · replace c2187 := c_le t2184 t2186 c2187
        unfold pX10_likely_124
        obtain ⟨z2188, t2189, f2190⟩ := t_add tx6 lit_1
        first | replace f2190 := f2190 (by omega) | clear f2190
        intro x6_1v1073 ex6_1v1073
        have tx6_1v1073 : Ti x6_1v1073 z2188 := by rw [ex6_1v1073]; exact t2189
        exact ih _ _ _ _ _ _ _ tx4 tx5 tx6_1v1073 hI (by omega) (by omega) (by omega)
      · replace c2187 := c_nle t2184 t2186 c2187
        unfold pX10_likely_124
        obtain ⟨z2191, t2192, f2193⟩ := t_add tx6 lit_1
        first | replace f2193 := f2193 (by omega) | clear f2193
        intro x6_1v1074 ex6_1v1074
        have tx6_1v1074 : Ti x6_1v1074 z2191 := by rw [ex6_1v1074]; exact t2192
        exact ih _ _ _ _ _ _ _ tx4 tx6 tx6_1v1074 hI (by omega) (by omega) (by omega)
set_option maxHeartbeats 4000000 in
set_option maxRecDepth 100000 in
theorem sX10_likely_30 {T D : Int} {k : Nat} {post : Int32 → Wd → Prop}   (hp : ∀ (r : Int32) (zr : Int) (w9 : Wd), Ti r zr → IX k T D w9 → post r w9) : ∀ (n : Nat) (x1 : Int32) (x2 : Int32) (x3 : Int32) (x4 : Int32) (x5 : Int32) (zx1 : Int) (zx2 : Int) (zx3 : Int) (zx4 : Int) (zx5 : Int) (w : Wd), Ti x1 zx1 → Ti x2 zx2 → Ti x3 zx3 → Ti x4 zx4 → Ti x5 zx5 → IX k T D w → (0 ≤ zx5 ∧ zx5 ≤ 100) → (0 ≤ zx1 ∧ zx1 ≤ 23) → (101 - zx5) < (n : Int) → pX10_likely_30   post  n x1 x2 x3 x4 x5 w := by
  intro n
  induction n with
  | zero =>
    intro x1 x2 x3 x4 x5 zx1 zx2 zx3 zx4 zx5 w tx1 tx2 tx3 tx4 tx5 hI h0 h1 hm
    exact absurd hm (by omega)
  | succ n ih =>
    intro x1 x2 x3 x4 x5 zx1 zx2 zx3 zx4 zx5 w tx1 tx2 tx3 tx4 tx5 hI h0 h1 hm
    unfold pX10_likely_30
    have hk := ix_k hI
    refine ⟨fun c2194 => ?_, fun c2194 => ?_⟩
    · replace c2194 := c_le lit_100 tx5 c2194
      exact ⟨70000, sX10_likely_91   (hp := hp) 70000 _ _ _ _ _ _ _ tx4 lit_0 lit_1 hI (by omega) (by omega) (by omega)⟩
    · replace c2194 := c_nle lit_100 tx5 c2194
      refine ⟨vp_of tx1 (by omega) (by omega), ?_⟩
      obtain ⟨z2195, t2196⟩ := t_any (w.2.1 162 x1.toNatClampNeg)
      refine sX1_rowAfter   (hI := hI) (tx1 := t2196) (tx2 := tx2) (tx3 := tx3) (tx4 := tx5)  (hp := fun r_2v1075 zr_2v1075 w_3v1076  tr_2v1075 hIw_3v1076  => ?_)
      refine sX10_isRow   (hI := hIw_3v1076) (tx1 := tr_2v1075)  (hp := fun r_4v1077 zr_4v1077 tr_4v1077 p2197 => ?_)
      refine ⟨fun c2198 => ?_, fun c2198 => ?_⟩
      · replace c2198 := c_eq tr_4v1077 lit_0 c2198
        unfold pX10_likely_79
        obtain ⟨z2199, t2200, f2201⟩ := t_add tx5 lit_1
        first | replace f2201 := f2201 (by omega) | clear f2201
        intro x5_1v1081 ex5_1v1081
        have tx5_1v1081 : Ti x5_1v1081 z2199 := by rw [ex5_1v1081]; exact t2200
        exact ih _ _ _ _ _ _ _ _ _ _ _ tx1 tx2 tx3 tx4 tx5_1v1081 hIw_3v1076 (by omega) (by omega) (by omega)
      · replace c2198 := c_neq tr_4v1077 lit_0 c2198
        refine ⟨vp_of tr_2v1075 (by omega) (by omega), ?_⟩
        refine ⟨vp_of tr_2v1075 (by omega) (by omega), ?_⟩
        intro w_7v1080 ew_7v1080
        have hIw_7v1080 := ixs_A hIw_3v1076 ew_7v1080 (by decide)
        unfold pX10_likely_79
        obtain ⟨z2202, t2203, f2204⟩ := t_add tx5 lit_1
        first | replace f2204 := f2204 (by omega) | clear f2204
        intro x5_1v1082 ex5_1v1082
        have tx5_1v1082 : Ti x5_1v1082 z2202 := by rw [ex5_1v1082]; exact t2203
        exact ih _ _ _ _ _ _ _ _ _ _ _ tx1 tx2 tx3 tx4 tx5_1v1082 hIw_7v1080 (by omega) (by omega) (by omega)
set_option maxHeartbeats 4000000 in
set_option maxRecDepth 100000 in
theorem sX10_likely {T D : Int} {k : Nat} {post : Int32 → Wd → Prop} {x1 : Int32} {zx1 : Int} {x2 : Int32} {zx2 : Int} {x3 : Int32} {zx3 : Int} {x4 : Int32} {zx4 : Int} {w : Wd}  (tx1 : Ti x1 zx1) (tx2 : Ti x2 zx2) (tx3 : Ti x3 zx3) (tx4 : Ti x4 zx4) (hI : IX k T D w)  (hp : ∀ (r : Int32) (zr : Int) (w9 : Wd), Ti r zr → IX k T D w9 → post r w9) : pX10_likely   post  x1 x2 x3 x4 w := by
  unfold pX10_likely
  have hk := ix_k hI
  refine sX10_canCast   (hI := hI) (tx1 := tx1) (tx2 := tx2) (tx3 := tx3)  (hp := fun r_1v1083 zr_1v1083 tr_1v1083 p2205 => ?_)
  refine ⟨fun c2206 => ?_, fun c2206 => ?_⟩
  · replace c2206 := c_eq tr_1v1083 lit_0 c2206
    exact hp _ _ _  lit_m1 hI 
  · replace c2206 := c_neq tr_1v1083 lit_0 c2206
    refine ⟨fun c2207 => ?_, fun c2207 => ?_⟩
    · replace c2207 := c_lt tx4 lit_0 c2207
      exact hp _ _ _  lit_m1 hI 
    · replace c2207 := c_nlt tx4 lit_0 c2207
      refine ⟨fun c2208 => ?_, fun c2208 => ?_⟩
      · replace c2208 := c_le tx4 lit_1 c2208
        refine sX10_clearByRow   (hI := hI)   (hp := fun  w_6v1086   hIw_6v1086  => ?_)
        exact ⟨70000, sX10_likely_30   (hp := hp) 70000 _ _ _ _ _ _ _ _ _ _ _ tx1 tx2 tx3 tx4 lit_0 hIw_6v1086 (by omega) (by omega) (by omega)⟩
      · replace c2208 := c_nle tx4 lit_1 c2208
        exact hp _ _ _  lit_m1 hI 
set_option maxHeartbeats 4000000 in
set_option maxRecDepth 100000 in
theorem sX10_goRound_10 {T D : Int} {k : Nat} {post : Int32 → Wd → Prop}   (hp : ∀ (r : Int32) (zr : Int) (w9 : Wd), Ti r zr → IX k T D w9 → post r w9) : ∀ (n : Nat) (x2 : Int32) (x3 : Int32) (x4 : Int32) (x5 : Int32) (zx2 : Int) (zx3 : Int) (zx4 : Int) (zx5 : Int) (w : Wd), Ti x2 zx2 → Ti x3 zx3 → Ti x4 zx4 → Ti x5 zx5 → IX k T D w → (0 ≤ zx5 ∧ zx5 ≤ 4097) → (4098 - zx5) < (n : Int) → pX10_goRound_10   post  n x2 x3 x4 x5 w := by
  intro n
  induction n with
  | zero =>
    intro x2 x3 x4 x5 zx2 zx3 zx4 zx5 w tx2 tx3 tx4 tx5 hI h0 hm
    exact absurd hm (by omega)
  | succ n ih =>
    intro x2 x3 x4 x5 zx2 zx3 zx4 zx5 w tx2 tx3 tx4 tx5 hI h0 hm
    unfold pX10_goRound_10
    have hk := ix_k hI
    refine sX7_rows   (hI := hI)   (hp := fun r_1v1087 zr_1v1087 tr_1v1087 p2209 => ?_)
    refine ⟨fun c2210 => ?_, fun c2210 => ?_⟩
    · replace c2210 := c_lt tr_1v1087 tx5 c2210
      exact hp _ _ _  tx4 hI 
    · replace c2210 := c_nlt tr_1v1087 tx5 c2210
      refine sX10_isRow   (hI := hI) (tx1 := tx4)  (hp := fun r_4v1095 zr_4v1095 tr_4v1095 p2211 => ?_)
      refine ⟨fun c2212 => ?_, fun c2212 => ?_⟩
      · replace c2212 := c_eq tr_4v1095 lit_0 c2212
        exact hp _ _ _  tx4 hI 
      · replace c2212 := c_neq tr_4v1095 lit_0 c2212
        refine ⟨vp_of tx4 (by omega) (by omega), ?_⟩
        obtain ⟨z2213, t2214⟩ := t_any (w.2.1 13 x4.toNatClampNeg)
        refine ⟨fun c2215 => ?_, fun c2215 => ?_⟩
        · replace c2215 := c_neq t2214 lit_0 c2215
          exact hp _ _ _  tx4 hI 
        · replace c2215 := c_eq t2214 lit_0 c2215
          refine ⟨vp_of tx4 (by omega) (by omega), ?_⟩
          intro w_8v1101 ew_8v1101
          have hIw_8v1101 := ixs_A hI ew_8v1101 (by decide)
          refine sX1_rowAfter   (hI := hIw_8v1101) (tx1 := tx4) (tx2 := tx2) (tx3 := tx3) (tx4 := lit_0)  (hp := fun r_9v1102 zr_9v1102 w_10v1103  tr_9v1102 hIw_10v1103  => ?_)
          obtain ⟨z2216, t2217, f2218⟩ := t_add tx5 lit_1
          first | replace f2218 := f2218 (by omega) | clear f2218
          intro x5_11v1104 ex5_11v1104
          have tx5_11v1104 : Ti x5_11v1104 z2216 := by rw [ex5_11v1104]; exact t2217
          exact ih _ _ _ _ _ _ _ _ _ tx2 tx3 tr_9v1102 tx5_11v1104 hIw_10v1103 (by omega) (by omega)
set_option maxHeartbeats 4000000 in
set_option maxRecDepth 100000 in
theorem sX10_goRound {T D : Int} {k : Nat} {post : Int32 → Wd → Prop} {x1 : Int32} {zx1 : Int} {x2 : Int32} {zx2 : Int} {x3 : Int32} {zx3 : Int} {w : Wd}  (tx1 : Ti x1 zx1) (tx2 : Ti x2 zx2) (tx3 : Ti x3 zx3) (hI : IX k T D w)  (hp : ∀ (r : Int32) (zr : Int) (w9 : Wd), Ti r zr → IX k T D w9 → post r w9) : pX10_goRound   post  x1 x2 x3 w := by
  unfold pX10_goRound
  have hk := ix_k hI
  refine sX10_clearByRow   (hI := hI)   (hp := fun  w_1v1105   hIw_1v1105  => ?_)
  exact ⟨70000, sX10_goRound_10   (hp := hp) 70000 _ _ _ _ _ _ _ _ _ tx2 tx3 tx1 lit_1 hIw_1v1105 (by omega) (by omega)⟩
set_option maxHeartbeats 4000000 in
set_option maxRecDepth 100000 in
theorem sX10_fades {T D : Int} {k : Nat} {post : Int32 → Wd → Prop} {x1 : Int32} {zx1 : Int} {x2 : Int32} {zx2 : Int} {x3 : Int32} {zx3 : Int} {w : Wd}  (tx1 : Ti x1 zx1) (tx2 : Ti x2 zx2) (tx3 : Ti x3 zx3) (hI : IX k T D w)  (hp : ∀ (r : Int32) (zr : Int) (w9 : Wd), Ti r zr → IX k T D w9 → post r w9) : pX10_fades   post  x1 x2 x3 w := by
  unfold pX10_fades
  have hk := ix_k hI
  refine sX10_canCast   (hI := hI) (tx1 := tx1) (tx2 := tx2) (tx3 := tx3)  (hp := fun r_1v1106 zr_1v1106 tr_1v1106 p2219 => ?_)
  refine ⟨fun c2220 => ?_, fun c2220 => ?_⟩
  · replace c2220 := c_neq tr_1v1106 lit_0 c2220
    refine ⟨vp_of tx1 (by omega) (by omega), ?_⟩
    obtain ⟨z2221, t2222⟩ := t_any (w.2.1 162 x1.toNatClampNeg)
    refine sX10_goRound   (hI := hI) (tx1 := t2222) (tx2 := tx2) (tx3 := tx3)  (hp := fun r_4v1110 zr_4v1110 w_5v1111  tr_4v1110 hIw_5v1111  => ?_)
    obtain ⟨z2223, t2224⟩ := t_any (w_5v1111.2.1 13 (0 : Int32).toNatClampNeg)
    obtain ⟨z2225, t2226, f2227⟩ := t_sub t2224 lit_1
    first | replace f2227 := f2227 (by omega) | clear f2227
    exact hp _ _ _  t2226 hIw_5v1111 
  · replace c2220 := c_eq tr_1v1106 lit_0 c2220
    exact hp _ _ _  lit_m1 hI 
set_option maxHeartbeats 4000000 in
set_option maxRecDepth 100000 in
theorem sX10_kin_36 {T D : Int} {k : Nat} {post : Int32 → Wd → Prop} {w : Wd}  (hp : ∀ (r : Int32) (zr : Int), Ti r zr → post r w) : ∀ (n : Nat) (x1 : Int32) (x2 : Int32) (x3 : Int32) (x4 : Int32) (x5 : Int32) (x6 : Int32) (zx1 : Int) (zx2 : Int) (zx3 : Int) (zx4 : Int) (zx5 : Int) (zx6 : Int), Ti x1 zx1 → Ti x2 zx2 → Ti x3 zx3 → Ti x4 zx4 → Ti x5 zx5 → Ti x6 zx6 → IX k T D w → (0 ≤ zx6 ∧ zx6 ≤ 48) → (0 ≤ zx1 ∧ zx1 ≤ 23) → (0 ≤ zx2 ∧ zx2 ≤ 23) → (49 - zx6) < (n : Int) → pX10_kin_36   post  n x1 x2 x3 x4 x5 x6 w := by
  intro n
  induction n with
  | zero =>
    intro x1 x2 x3 x4 x5 x6 zx1 zx2 zx3 zx4 zx5 zx6  tx1 tx2 tx3 tx4 tx5 tx6 hI h0 h1 h2 hm
    exact absurd hm (by omega)
  | succ n ih =>
    intro x1 x2 x3 x4 x5 x6 zx1 zx2 zx3 zx4 zx5 zx6  tx1 tx2 tx3 tx4 tx5 tx6 hI h0 h1 h2 hm
    unfold pX10_kin_36
    have hk := ix_k hI
    refine ⟨fun c2228 => ?_, fun c2228 => ?_⟩
    · replace c2228 := c_le lit_48 tx6 c2228
      unfold pX10_kin_108
      refine ⟨fun c2229 => ?_, fun c2229 => ?_⟩
      · replace c2229 := c_eq tx3 lit_0 c2229
        exact hp _ _ tx4 
      · replace c2229 := c_neq tx3 lit_0 c2229
        refine sX10_isSeal   (hI := hI) (tx1 := tx4)  (hp := fun r_2v1118 zr_2v1118 tr_2v1118 p2230 => ?_)
        refine ⟨fun c2231 => ?_, fun c2231 => ?_⟩
        · replace c2231 := c_neq tr_2v1118 lit_0 c2231
          refine ⟨vp_of tx1 (by omega) (by omega), ?_⟩
          refine ⟨vp_of tx2 (by omega) (by omega), ?_⟩
          refine ⟨vp_of tx4 (by omega) (by omega), ?_⟩
          obtain ⟨z2232, t2233⟩ := t_any (w.2.1 166 x1.toNatClampNeg)
          obtain ⟨z2234, t2235⟩ := t_any (w.2.1 166 x2.toNatClampNeg)
          obtain ⟨z2236, t2237, f2238⟩ := t_add t2233 t2235
          first | replace f2238 := f2238 (by omega) | clear f2238
          obtain ⟨z2239, t2240⟩ := t_any (w.2.1 166 x4.toNatClampNeg)
          obtain ⟨z2241, t2242, f2243⟩ := t_mul lit_2 t2240
          first | replace f2243 := f2243 (by omega) | clear f2243
          obtain ⟨z2244, t2245, f2246⟩ := t_sub t2237 t2242
          first | replace f2246 := f2246 (by omega) | clear f2246
          exact hp _ _ t2245 
        · replace c2231 := c_eq tr_2v1118 lit_0 c2231
          exact hp _ _ tx4 
    · replace c2228 := c_nle lit_48 tx6 c2228
      refine ⟨fun c2247 => ?_, fun c2247 => ?_⟩
      · replace c2247 := c_eq tx4 tx5 c2247
        unfold pX10_kin_108
        refine ⟨fun c2248 => ?_, fun c2248 => ?_⟩
        · replace c2248 := c_eq tx3 lit_0 c2248
          exact hp _ _ tx4 
        · replace c2248 := c_neq tx3 lit_0 c2248
          refine sX10_isSeal   (hI := hI) (tx1 := tx4)  (hp := fun r_2v1120 zr_2v1120 tr_2v1120 p2249 => ?_)
          refine ⟨fun c2250 => ?_, fun c2250 => ?_⟩
          · replace c2250 := c_neq tr_2v1120 lit_0 c2250
            refine ⟨vp_of tx1 (by omega) (by omega), ?_⟩
            refine ⟨vp_of tx2 (by omega) (by omega), ?_⟩
            refine ⟨vp_of tx4 (by omega) (by omega), ?_⟩
            obtain ⟨z2251, t2252⟩ := t_any (w.2.1 166 x1.toNatClampNeg)
            obtain ⟨z2253, t2254⟩ := t_any (w.2.1 166 x2.toNatClampNeg)
            obtain ⟨z2255, t2256, f2257⟩ := t_add t2252 t2254
            first | replace f2257 := f2257 (by omega) | clear f2257
            obtain ⟨z2258, t2259⟩ := t_any (w.2.1 166 x4.toNatClampNeg)
            obtain ⟨z2260, t2261, f2262⟩ := t_mul lit_2 t2259
            first | replace f2262 := f2262 (by omega) | clear f2262
            obtain ⟨z2263, t2264, f2265⟩ := t_sub t2256 t2261
            first | replace f2265 := f2265 (by omega) | clear f2265
            exact hp _ _ t2264 
          · replace c2250 := c_eq tr_2v1120 lit_0 c2250
            exact hp _ _ tx4 
      · replace c2247 := c_neq tx4 tx5 c2247
        refine sX10_isSeal   (hI := hI) (tx1 := tx4)  (hp := fun r_3v1112 zr_3v1112 tr_3v1112 p2266 => ?_)
        refine ⟨fun c2267 => ?_, fun c2267 => ?_⟩
        · replace c2267 := c_eq tr_3v1112 lit_0 c2267
          unfold pX10_kin_108
          refine ⟨fun c2268 => ?_, fun c2268 => ?_⟩
          · replace c2268 := c_eq tx3 lit_0 c2268
            exact hp _ _ tx4 
          · replace c2268 := c_neq tx3 lit_0 c2268
            refine sX10_isSeal   (hI := hI) (tx1 := tx4)  (hp := fun r_2v1126 zr_2v1126 tr_2v1126 p2269 => ?_)
            refine ⟨fun c2270 => ?_, fun c2270 => ?_⟩
            · replace c2270 := c_neq tr_2v1126 lit_0 c2270
              refine ⟨vp_of tx1 (by omega) (by omega), ?_⟩
              refine ⟨vp_of tx2 (by omega) (by omega), ?_⟩
              refine ⟨vp_of tx4 (by omega) (by omega), ?_⟩
              obtain ⟨z2271, t2272⟩ := t_any (w.2.1 166 x1.toNatClampNeg)
              obtain ⟨z2273, t2274⟩ := t_any (w.2.1 166 x2.toNatClampNeg)
              obtain ⟨z2275, t2276, f2277⟩ := t_add t2272 t2274
              first | replace f2277 := f2277 (by omega) | clear f2277
              obtain ⟨z2278, t2279⟩ := t_any (w.2.1 166 x4.toNatClampNeg)
              obtain ⟨z2280, t2281, f2282⟩ := t_mul lit_2 t2279
              first | replace f2282 := f2282 (by omega) | clear f2282
              obtain ⟨z2283, t2284, f2285⟩ := t_sub t2276 t2281
              first | replace f2285 := f2285 (by omega) | clear f2285
              exact hp _ _ t2284 
            · replace c2270 := c_eq tr_2v1126 lit_0 c2270
              exact hp _ _ tx4 
        · replace c2267 := c_neq tr_3v1112 lit_0 c2267
          refine sX10_isSeal   (hI := hI) (tx1 := tx5)  (hp := fun r_6v1122 zr_6v1122 tr_6v1122 p2286 => ?_)
          refine ⟨fun c2287 => ?_, fun c2287 => ?_⟩
          · replace c2287 := c_eq tr_6v1122 lit_0 c2287
            unfold pX10_kin_108
            refine ⟨fun c2288 => ?_, fun c2288 => ?_⟩
            · replace c2288 := c_eq tx3 lit_0 c2288
              exact hp _ _ tx4 
            · replace c2288 := c_neq tx3 lit_0 c2288
              refine sX10_isSeal   (hI := hI) (tx1 := tx4)  (hp := fun r_2v1130 zr_2v1130 tr_2v1130 p2289 => ?_)
              refine ⟨fun c2290 => ?_, fun c2290 => ?_⟩
              · replace c2290 := c_neq tr_2v1130 lit_0 c2290
                refine ⟨vp_of tx1 (by omega) (by omega), ?_⟩
                refine ⟨vp_of tx2 (by omega) (by omega), ?_⟩
                refine ⟨vp_of tx4 (by omega) (by omega), ?_⟩
                obtain ⟨z2291, t2292⟩ := t_any (w.2.1 166 x1.toNatClampNeg)
                obtain ⟨z2293, t2294⟩ := t_any (w.2.1 166 x2.toNatClampNeg)
                obtain ⟨z2295, t2296, f2297⟩ := t_add t2292 t2294
                first | replace f2297 := f2297 (by omega) | clear f2297
                obtain ⟨z2298, t2299⟩ := t_any (w.2.1 166 x4.toNatClampNeg)
                obtain ⟨z2300, t2301, f2302⟩ := t_mul lit_2 t2299
                first | replace f2302 := f2302 (by omega) | clear f2302
                obtain ⟨z2303, t2304, f2305⟩ := t_sub t2296 t2301
                first | replace f2305 := f2305 (by omega) | clear f2305
                exact hp _ _ t2304 
              · replace c2290 := c_eq tr_2v1130 lit_0 c2290
                exact hp _ _ tx4 
          · replace c2287 := c_neq tr_6v1122 lit_0 c2287
            refine ⟨fun c2306 => ?_, fun c2306 => ?_⟩
            · replace c2306 := c_le tx4 tx5 c2306
              refine ⟨vp_of tx5 (by omega) (by omega), ?_⟩
              obtain ⟨z2307, t2308⟩ := t_any (w.2.1 163 x5.toNatClampNeg)
              intro x5_10v1128 ex5_10v1128
              have tx5_10v1128 : Ti x5_10v1128 z2307 := by rw [ex5_10v1128]; exact t2308
              unfold pX10_kin_102
              obtain ⟨z2309, t2310, f2311⟩ := t_add tx6 lit_1
              first | replace f2311 := f2311 (by omega) | clear f2311
              intro x6_1v1132 ex6_1v1132
              have tx6_1v1132 : Ti x6_1v1132 z2309 := by rw [ex6_1v1132]; exact t2310
              exact ih _ _ _ _ _ _ _ _ _ _ _ _  tx1 tx2 tx3 tx4 tx5_10v1128 tx6_1v1132 hI (by omega) (by omega) (by omega) (by omega)
            · replace c2306 := c_nle tx4 tx5 c2306
              refine ⟨vp_of tx4 (by omega) (by omega), ?_⟩
              obtain ⟨z2312, t2313⟩ := t_any (w.2.1 163 x4.toNatClampNeg)
              intro x4_11v1129 ex4_11v1129
              have tx4_11v1129 : Ti x4_11v1129 z2312 := by rw [ex4_11v1129]; exact t2313
              unfold pX10_kin_102
              obtain ⟨z2314, t2315, f2316⟩ := t_add tx6 lit_1
              first | replace f2316 := f2316 (by omega) | clear f2316
              intro x6_1v1133 ex6_1v1133
              have tx6_1v1133 : Ti x6_1v1133 z2314 := by rw [ex6_1v1133]; exact t2315
              exact ih _ _ _ _ _ _ _ _ _ _ _ _  tx1 tx2 tx3 tx4_11v1129 tx5 tx6_1v1133 hI (by omega) (by omega) (by omega) (by omega)
set_option maxHeartbeats 4000000 in
set_option maxRecDepth 100000 in
theorem sX10_kin {T D : Int} {k : Nat} {post : Int32 → Wd → Prop} {x1 : Int32} {zx1 : Int} {x2 : Int32} {zx2 : Int} {x3 : Int32} {zx3 : Int} {w : Wd}  (tx1 : Ti x1 zx1) (tx2 : Ti x2 zx2) (tx3 : Ti x3 zx3) (hI : IX k T D w)  (hp : ∀ (r : Int32) (zr : Int), Ti r zr → post r w) : pX10_kin   post  x1 x2 x3 w := by
  unfold pX10_kin
  have hk := ix_k hI
  refine sX10_isSeal   (hI := hI) (tx1 := tx1)  (hp := fun r_1v1134 zr_1v1134 tr_1v1134 p2317 => ?_)
  refine ⟨fun c2318 => ?_, fun c2318 => ?_⟩
  · replace c2318 := c_eq tr_1v1134 lit_0 c2318
    exact hp _ _ lit_m1 
  · replace c2318 := c_neq tr_1v1134 lit_0 c2318
    refine sX10_isSeal   (hI := hI) (tx1 := tx2)  (hp := fun r_4v1138 zr_4v1138 tr_4v1138 p2319 => ?_)
    refine ⟨fun c2320 => ?_, fun c2320 => ?_⟩
    · replace c2320 := c_eq tr_4v1138 lit_0 c2320
      exact hp _ _ lit_m1 
    · replace c2320 := c_neq tr_4v1138 lit_0 c2320
      refine ⟨fun c2321 => ?_, fun c2321 => ?_⟩
      · replace c2321 := c_lt tx3 lit_0 c2321
        exact hp _ _ lit_m1 
      · replace c2321 := c_nlt tx3 lit_0 c2321
        refine ⟨fun c2322 => ?_, fun c2322 => ?_⟩
        · replace c2322 := c_le tx3 lit_1 c2322
          exact ⟨70000, sX10_kin_36   (hp := hp) 70000 _ _ _ _ _ _ _ _ _ _ _ _  tx1 tx2 tx3 tx1 tx2 lit_0 hI (by omega) (by omega) (by omega) (by omega)⟩
        · replace c2322 := c_nle tx3 lit_1 c2322
          exact hp _ _ lit_m1 
set_option maxHeartbeats 4000000 in
set_option maxRecDepth 100000 in
theorem sX10_thumb_20 {T D : Int} {k : Nat} {post : Int32 → Wd → Prop} {w : Wd}  (hp : ∀ (r : Int32) (zr : Int), Ti r zr → post r w) : ∀ (n : Nat) (x3 : Int32) (x4 : Int32) (x5 : Int32) (zx3 : Int) (zx4 : Int) (zx5 : Int), Ti x3 zx3 → Ti x4 zx4 → Ti x5 zx5 → IX k T D w → (0 ≤ zx5 ∧ zx5 ≤ 24) → (zx3 ≤ 23) → (25 - zx5) < (n : Int) → pX10_thumb_20   post  n x3 x4 x5 w := by
  intro n
  induction n with
  | zero =>
    intro x3 x4 x5 zx3 zx4 zx5  tx3 tx4 tx5 hI h0 h1 hm
    exact absurd hm (by omega)
  | succ n ih =>
    intro x3 x4 x5 zx3 zx4 zx5  tx3 tx4 tx5 hI h0 h1 hm
    unfold pX10_thumb_20
    have hk := ix_k hI
    refine ⟨fun c2323 => ?_, fun c2323 => ?_⟩
    · replace c2323 := c_le lit_24 tx5 c2323
      exact hp _ _ lit_m1 
    · replace c2323 := c_nle lit_24 tx5 c2323
      refine ⟨fun c2324 => ?_, fun c2324 => ?_⟩
      · replace c2324 := c_le tx3 lit_0 c2324
        exact hp _ _ lit_m1 
      · replace c2324 := c_nle tx3 lit_0 c2324
        refine ⟨vp_of tx3 (by omega) (by omega), ?_⟩
        obtain ⟨z2325, t2326⟩ := t_any (w.2.1 163 x3.toNatClampNeg)
        intro x6_3v1140 ex6_3v1140
        have tx6_3v1140 : Ti x6_3v1140 z2325 := by rw [ex6_3v1140]; exact t2326
        obtain ⟨z2327, t2328⟩ := t_any (w.1 (rl (w.2.2.2.2 0)) 0)
        have f2329 := ixg_r0 hI t2328
        obtain ⟨z2330, t2331, f2332⟩ := t_sub t2328 lit_1
        first | replace f2332 := f2332 (by omega) | clear f2332
        obtain ⟨z2333, t2334, f2335⟩ := t_sub t2331 tx4
        first | replace f2335 := f2335 (by omega) | clear f2335
        intro x4_4v1141 ex4_4v1141
        have tx4_4v1141 : Ti x4_4v1141 z2333 := by rw [ex4_4v1141]; exact t2334
        refine sX10_sealHas   (hI := hI) (tx1 := tx6_3v1140) (tx2 := tx4_4v1141)  (hp := fun r_5v1142 zr_5v1142 tr_5v1142 p2336 => ?_)
        refine ⟨fun c2337 => ?_, fun c2337 => ?_⟩
        · replace c2337 := c_neq tr_5v1142 lit_0 c2337
          obtain ⟨z2338, t2339, f2340⟩ := t_add tx5 lit_1
          first | replace f2340 := f2340 (by omega) | clear f2340
          intro x5_8v1145 ex5_8v1145
          have tx5_8v1145 : Ti x5_8v1145 z2338 := by rw [ex5_8v1145]; exact t2339
          exact ih _ _ _ _ _ _  tx6_3v1140 tx4_4v1141 tx5_8v1145 hI (by omega) (by omega) (by omega)
        · replace c2337 := c_eq tr_5v1142 lit_0 c2337
          refine ⟨vp_of tx3 (by omega) (by omega), ?_⟩
          obtain ⟨z2341, t2342⟩ := t_any (w.2.1 164 x3.toNatClampNeg)
          exact hp _ _ t2342 
set_option maxHeartbeats 4000000 in
set_option maxRecDepth 100000 in
theorem sX10_thumb {T D : Int} {k : Nat} {post : Int32 → Wd → Prop} {x1 : Int32} {zx1 : Int} {x2 : Int32} {zx2 : Int} {w : Wd}  (tx1 : Ti x1 zx1) (tx2 : Ti x2 zx2) (hI : IX k T D w)  (hp : ∀ (r : Int32) (zr : Int), Ti r zr → post r w) : pX10_thumb   post  x1 x2 w := by
  unfold pX10_thumb
  have hk := ix_k hI
  refine sX10_sealHas   (hI := hI) (tx1 := tx1) (tx2 := tx2)  (hp := fun r_1v1146 zr_1v1146 tr_1v1146 p2343 => ?_)
  refine ⟨fun c2344 => ?_, fun c2344 => ?_⟩
  · replace c2344 := c_neq tr_1v1146 lit_0 c2344
    exact ⟨70000, sX10_thumb_20   (hp := hp) 70000 _ _ _ _ _ _  tx1 tx2 lit_0 hI (by omega) (by omega) (by omega)⟩
  · replace c2344 := c_eq tr_1v1146 lit_0 c2344
    exact hp _ _ lit_m2 
set_option maxHeartbeats 4000000 in
set_option maxRecDepth 100000 in
theorem sX10_marksIn_6 {T D : Int} {k : Nat} {post : Int32 → Wd → Prop} {w : Wd}  (hp : ∀ (r : Int32) (zr : Int), Ti r zr → post r w) : ∀ (n : Nat) (x1 : Int32) (x2 : Int32) (x3 : Int32) (x4 : Int32) (x5 : Int32) (zx1 : Int) (zx2 : Int) (zx3 : Int) (zx4 : Int) (zx5 : Int), Ti x1 zx1 → Ti x2 zx2 → Ti x3 zx3 → Ti x4 zx4 → Ti x5 zx5 → IX k T D w → (0 ≤ zx5 ∧ zx5 ≤ 12) → (1 ≤ zx2 ∧ zx2 ≤ 4) → (13 - zx5) < (n : Int) → pX10_marksIn_6   post  n x1 x2 x3 x4 x5 w := by
  intro n
  induction n with
  | zero =>
    intro x1 x2 x3 x4 x5 zx1 zx2 zx3 zx4 zx5  tx1 tx2 tx3 tx4 tx5 hI h0 h1 hm
    exact absurd hm (by omega)
  | succ n ih =>
    intro x1 x2 x3 x4 x5 zx1 zx2 zx3 zx4 zx5  tx1 tx2 tx3 tx4 tx5 hI h0 h1 hm
    unfold pX10_marksIn_6
    have hk := ix_k hI
    obtain ⟨z2345, t2346⟩ := t_any (w.1 (rl (w.2.2.2.2 0)) 0)
    have f2347 := ixg_r0 hI t2346
    refine ⟨fun c2348 => ?_, fun c2348 => ?_⟩
    · replace c2348 := c_le t2346 tx5 c2348
      exact hp _ _ tx4 
    · replace c2348 := c_nle t2346 tx5 c2348
      obtain ⟨z2349, t2350, f2351⟩ := t_and (x := (x1 >>> (x5 &&& 31))) lit_1 (by decide)
      refine ⟨fun c2352 => ?_, fun c2352 => ?_⟩
      · replace c2352 := c_eq t2350 lit_0 c2352
        unfold pX10_marksIn_46
        obtain ⟨z2353, t2354, f2355⟩ := t_add tx5 lit_1
        first | replace f2355 := f2355 (by omega) | clear f2355
        intro x5_1v1149 ex5_1v1149
        have tx5_1v1149 : Ti x5_1v1149 z2353 := by rw [ex5_1v1149]; exact t2354
        exact ih _ _ _ _ _ _ _ _ _ _  tx1 tx2 tx3 tx4 tx5_1v1149 hI (by omega) (by omega) (by omega)
      · replace c2352 := c_neq t2350 lit_0 c2352
        refine ⟨nz_of t2346 (by omega), ?_⟩
        obtain ⟨z2356, t2357, f2358⟩ := t_mulv tx5 tx2
        first | replace f2358 := f2358 (by omega) | clear f2358
        obtain ⟨z2359, t2360, f2361⟩ := t_divv t2357 t2346
        first | replace f2361 := f2361 (by omega) | clear f2361
        refine ⟨fun c2362 => ?_, fun c2362 => ?_⟩
        · replace c2362 := c_neq t2360 tx3 c2362
          unfold pX10_marksIn_46
          obtain ⟨z2363, t2364, f2365⟩ := t_add tx5 lit_1
          first | replace f2365 := f2365 (by omega) | clear f2365
          intro x5_1v1150 ex5_1v1150
          have tx5_1v1150 : Ti x5_1v1150 z2363 := by rw [ex5_1v1150]; exact t2364
          exact ih _ _ _ _ _ _ _ _ _ _  tx1 tx2 tx3 tx4 tx5_1v1150 hI (by omega) (by omega) (by omega)
        · replace c2362 := c_eq t2360 tx3 c2362
          obtain ⟨z2366, t2367, f2368⟩ := t_add tx4 lit_1
          first | replace f2368 := f2368 (by omega) | clear f2368
          intro x4_4v1148 ex4_4v1148
          have tx4_4v1148 : Ti x4_4v1148 z2366 := by rw [ex4_4v1148]; exact t2367
          unfold pX10_marksIn_46
          obtain ⟨z2369, t2370, f2371⟩ := t_add tx5 lit_1
          first | replace f2371 := f2371 (by omega) | clear f2371
          intro x5_1v1151 ex5_1v1151
          have tx5_1v1151 : Ti x5_1v1151 z2369 := by rw [ex5_1v1151]; exact t2370
          exact ih _ _ _ _ _ _ _ _ _ _  tx1 tx2 tx3 tx4_4v1148 tx5_1v1151 hI (by omega) (by omega) (by omega)
set_option maxHeartbeats 4000000 in
set_option maxRecDepth 100000 in
theorem sX10_marksIn {T D : Int} {k : Nat} {post : Int32 → Wd → Prop} {x1 : Int32} {zx1 : Int} {x2 : Int32} {zx2 : Int} {x3 : Int32} {zx3 : Int} {w : Wd}  (tx1 : Ti x1 zx1) (tx2 : Ti x2 zx2) (tx3 : Ti x3 zx3) (hI : IX k T D w) (h0 : 1 ≤ zx2 ∧ zx2 ≤ 4) (hp : ∀ (r : Int32) (zr : Int), Ti r zr → post r w) : pX10_marksIn   post  x1 x2 x3 w := by
  unfold pX10_marksIn
  have hk := ix_k hI
  exact ⟨70000, sX10_marksIn_6   (hp := hp) 70000 _ _ _ _ _ _ _ _ _ _  tx1 tx2 tx3 lit_0 lit_0 hI (by omega) (by omega) (by omega)⟩
set_option maxHeartbeats 4000000 in
set_option maxRecDepth 100000 in
theorem sX10_share_64 {T D : Int} {k : Nat} {post : Int32 → Wd → Prop} {w : Wd}  (hp : ∀ (r : Int32) (zr : Int), Ti r zr → post r w) : ∀ (n : Nat) (x1 : Int32) (x2 : Int32) (x3 : Int32) (x4 : Int32) (x5 : Int32) (x6 : Int32) (x7 : Int32) (x8 : Int32) (zx1 : Int) (zx2 : Int) (zx3 : Int) (zx4 : Int) (zx5 : Int) (zx6 : Int) (zx7 : Int) (zx8 : Int), Ti x1 zx1 → Ti x2 zx2 → Ti x3 zx3 → Ti x4 zx4 → Ti x5 zx5 → Ti x6 zx6 → Ti x7 zx7 → Ti x8 zx8 → IX k T D w → (0 ≤ zx8 ∧ zx8 ≤ 4) → (1 ≤ zx2 ∧ zx2 ≤ 4) → (zx4 ≠ 0) → (5 - zx8) < (n : Int) → pX10_share_64   post  n x1 x2 x3 x4 x5 x6 x7 x8 w := by
  intro n
  induction n with
  | zero =>
    intro x1 x2 x3 x4 x5 x6 x7 x8 zx1 zx2 zx3 zx4 zx5 zx6 zx7 zx8  tx1 tx2 tx3 tx4 tx5 tx6 tx7 tx8 hI h0 h1 h2 hm
    exact absurd hm (by omega)
  | succ n ih =>
    intro x1 x2 x3 x4 x5 x6 x7 x8 zx1 zx2 zx3 zx4 zx5 zx6 zx7 zx8  tx1 tx2 tx3 tx4 tx5 tx6 tx7 tx8 hI h0 h1 h2 hm
    unfold pX10_share_64
    have hk := ix_k hI
    refine ⟨fun c2372 => ?_, fun c2372 => ?_⟩
    · replace c2372 := c_le tx2 tx8 c2372
      refine ⟨nz_of tx4 (by omega), ?_⟩
      refine ⟨fun c2373 => ?_, fun c2373 => ?_⟩
      · replace c2373 := c_le tx6 tx7 c2373
        obtain ⟨z2374, t2375, f2376⟩ := t_divv tx5 tx4
        first | replace f2376 := f2376 (by omega) | clear f2376
        obtain ⟨z2377, t2378, f2379⟩ := t_add t2375 lit_0
        first | replace f2379 := f2379 (by omega) | clear f2379
        exact hp _ _ t2378 
      · replace c2373 := c_nle tx6 tx7 c2373
        obtain ⟨z2380, t2381, f2382⟩ := t_divv tx5 tx4
        first | replace f2382 := f2382 (by omega) | clear f2382
        obtain ⟨z2383, t2384, f2385⟩ := t_add t2381 lit_1
        first | replace f2385 := f2385 (by omega) | clear f2385
        exact hp _ _ t2384 
    · replace c2372 := c_nle tx2 tx8 c2372
      refine sX10_marksIn   (hI := hI) (tx1 := tx1) (tx2 := tx2) (tx3 := tx8) (h0 := (by omega)) (hp := fun r_3v1152 zr_3v1152 tr_3v1152 => ?_)
      obtain ⟨z2386, t2387, f2388⟩ := t_mul lit_100 tr_3v1152
      first | replace f2388 := f2388 (by omega) | clear f2388
      intro x9_5v1156 ex9_5v1156
      have tx9_5v1156 : Ti x9_5v1156 z2386 := by rw [ex9_5v1156]; exact t2387
      refine ⟨nz_of tx4 (by omega), ?_⟩
      obtain ⟨z2389, t2390, f2391⟩ := t_divv tx9_5v1156 tx4
      first | replace f2391 := f2391 (by omega) | clear f2391
      obtain ⟨z2392, t2393, f2394⟩ := t_sub tx6 t2390
      first | replace f2394 := f2394 (by omega) | clear f2394
      intro x6_6v1157 ex6_6v1157
      have tx6_6v1157 : Ti x6_6v1157 z2392 := by rw [ex6_6v1157]; exact t2393
      refine ⟨nz_of tx4 (by omega), ?_⟩
      refine ⟨nz_of tx4 (by omega), ?_⟩
      obtain ⟨z2395, t2396, f2397⟩ := t_remv tx5 tx4
      first | replace f2397 := f2397 (by omega) | clear f2397
      obtain ⟨z2398, t2399, f2400⟩ := t_remv tx9_5v1156 tx4
      first | replace f2400 := f2400 (by omega) | clear f2400
      refine ⟨fun c2401 => ?_, fun c2401 => ?_⟩
      · replace c2401 := c_lt t2396 t2399 c2401
        unfold pX10_share_125
        unfold pX10_share_130
        refine ⟨fun c2402 => ?_, fun c2402 => ?_⟩
        · replace c2402 := c_eq lit_1 lit_0 c2402
          unfold pX10_share_144
          obtain ⟨z2403, t2404, f2405⟩ := t_add tx7 lit_0
          first | replace f2405 := f2405 (by omega) | clear f2405
          intro x7_1v1158 ex7_1v1158
          have tx7_1v1158 : Ti x7_1v1158 z2403 := by rw [ex7_1v1158]; exact t2404
          obtain ⟨z2406, t2407, f2408⟩ := t_add tx8 lit_1
          first | replace f2408 := f2408 (by omega) | clear f2408
          intro x8_2v1159 ex8_2v1159
          have tx8_2v1159 : Ti x8_2v1159 z2406 := by rw [ex8_2v1159]; exact t2407
          exact ih _ _ _ _ _ _ _ _ _ _ _ _ _ _ _ _  tx1 tx2 tx3 tx4 tx5 tx6_6v1157 tx7_1v1158 tx8_2v1159 hI (by omega) (by omega) (by omega) (by omega)
        · replace c2402 := c_neq lit_1 lit_0 c2402
          unfold pX10_share_144
          obtain ⟨z2409, t2410, f2411⟩ := t_add tx7 lit_1
          first | replace f2411 := f2411 (by omega) | clear f2411
          intro x7_1v1160 ex7_1v1160
          have tx7_1v1160 : Ti x7_1v1160 z2409 := by rw [ex7_1v1160]; exact t2410
          obtain ⟨z2412, t2413, f2414⟩ := t_add tx8 lit_1
          first | replace f2414 := f2414 (by omega) | clear f2414
          intro x8_2v1161 ex8_2v1161
          have tx8_2v1161 : Ti x8_2v1161 z2412 := by rw [ex8_2v1161]; exact t2413
          exact ih _ _ _ _ _ _ _ _ _ _ _ _ _ _ _ _  tx1 tx2 tx3 tx4 tx5 tx6_6v1157 tx7_1v1160 tx8_2v1161 hI (by omega) (by omega) (by omega) (by omega)
      · replace c2401 := c_nlt t2396 t2399 c2401
        refine ⟨nz_of tx4 (by omega), ?_⟩
        refine ⟨nz_of tx4 (by omega), ?_⟩
        refine ⟨fun c2415 => ?_, fun c2415 => ?_⟩
        · replace c2415 := c_neq t2399 t2396 c2415
          unfold pX10_share_129
          unfold pX10_share_130
          refine ⟨fun c2416 => ?_, fun c2416 => ?_⟩
          · replace c2416 := c_eq lit_0 lit_0 c2416
            unfold pX10_share_144
            obtain ⟨z2417, t2418, f2419⟩ := t_add tx7 lit_0
            first | replace f2419 := f2419 (by omega) | clear f2419
            intro x7_1v1162 ex7_1v1162
            have tx7_1v1162 : Ti x7_1v1162 z2417 := by rw [ex7_1v1162]; exact t2418
            obtain ⟨z2420, t2421, f2422⟩ := t_add tx8 lit_1
            first | replace f2422 := f2422 (by omega) | clear f2422
            intro x8_2v1163 ex8_2v1163
            have tx8_2v1163 : Ti x8_2v1163 z2420 := by rw [ex8_2v1163]; exact t2421
            exact ih _ _ _ _ _ _ _ _ _ _ _ _ _ _ _ _  tx1 tx2 tx3 tx4 tx5 tx6_6v1157 tx7_1v1162 tx8_2v1163 hI (by omega) (by omega) (by omega) (by omega)
          · replace c2416 := c_neq lit_0 lit_0 c2416
            unfold pX10_share_144
            obtain ⟨z2423, t2424, f2425⟩ := t_add tx7 lit_1
            first | replace f2425 := f2425 (by omega) | clear f2425
            intro x7_1v1164 ex7_1v1164
            have tx7_1v1164 : Ti x7_1v1164 z2423 := by rw [ex7_1v1164]; exact t2424
            obtain ⟨z2426, t2427, f2428⟩ := t_add tx8 lit_1
            first | replace f2428 := f2428 (by omega) | clear f2428
            intro x8_2v1165 ex8_2v1165
            have tx8_2v1165 : Ti x8_2v1165 z2426 := by rw [ex8_2v1165]; exact t2427
            exact ih _ _ _ _ _ _ _ _ _ _ _ _ _ _ _ _  tx1 tx2 tx3 tx4 tx5 tx6_6v1157 tx7_1v1164 tx8_2v1165 hI (by omega) (by omega) (by omega) (by omega)
        · replace c2415 := c_eq t2399 t2396 c2415
          refine ⟨fun c2429 => ?_, fun c2429 => ?_⟩
          · replace c2429 := c_le tx3 tx8 c2429
            unfold pX10_share_129
            unfold pX10_share_130
            refine ⟨fun c2430 => ?_, fun c2430 => ?_⟩
            · replace c2430 := c_eq lit_0 lit_0 c2430
              unfold pX10_share_144
              obtain ⟨z2431, t2432, f2433⟩ := t_add tx7 lit_0
              first | replace f2433 := f2433 (by omega) | clear f2433
              intro x7_1v1166 ex7_1v1166
              have tx7_1v1166 : Ti x7_1v1166 z2431 := by rw [ex7_1v1166]; exact t2432
              obtain ⟨z2434, t2435, f2436⟩ := t_add tx8 lit_1
              first | replace f2436 := f2436 (by omega) | clear f2436
              intro x8_2v1167 ex8_2v1167
              have tx8_2v1167 : Ti x8_2v1167 z2434 := by rw [ex8_2v1167]; exact t2435
              exact ih _ _ _ _ _ _ _ _ _ _ _ _ _ _ _ _  tx1 tx2 tx3 tx4 tx5 tx6_6v1157 tx7_1v1166 tx8_2v1167 hI (by omega) (by omega) (by omega) (by omega)
            · replace c2430 := c_neq lit_0 lit_0 c2430
              unfold pX10_share_144
              obtain ⟨z2437, t2438, f2439⟩ := t_add tx7 lit_1
              first | replace f2439 := f2439 (by omega) | clear f2439
              intro x7_1v1168 ex7_1v1168
              have tx7_1v1168 : Ti x7_1v1168 z2437 := by rw [ex7_1v1168]; exact t2438
              obtain ⟨z2440, t2441, f2442⟩ := t_add tx8 lit_1
              first | replace f2442 := f2442 (by omega) | clear f2442
              intro x8_2v1169 ex8_2v1169
              have tx8_2v1169 : Ti x8_2v1169 z2440 := by rw [ex8_2v1169]; exact t2441
              exact ih _ _ _ _ _ _ _ _ _ _ _ _ _ _ _ _  tx1 tx2 tx3 tx4 tx5 tx6_6v1157 tx7_1v1168 tx8_2v1169 hI (by omega) (by omega) (by omega) (by omega)
          · replace c2429 := c_nle tx3 tx8 c2429
            unfold pX10_share_125
            unfold pX10_share_130
            refine ⟨fun c2443 => ?_, fun c2443 => ?_⟩
            · replace c2443 := c_eq lit_1 lit_0 c2443
              unfold pX10_share_144
              obtain ⟨z2444, t2445, f2446⟩ := t_add tx7 lit_0
              first | replace f2446 := f2446 (by omega) | clear f2446
              intro x7_1v1170 ex7_1v1170
              have tx7_1v1170 : Ti x7_1v1170 z2444 := by rw [ex7_1v1170]; exact t2445
              obtain ⟨z2447, t2448, f2449⟩ := t_add tx8 lit_1
              first | replace f2449 := f2449 (by omega) | clear f2449
              intro x8_2v1171 ex8_2v1171
              have tx8_2v1171 : Ti x8_2v1171 z2447 := by rw [ex8_2v1171]; exact t2448
              exact ih _ _ _ _ _ _ _ _ _ _ _ _ _ _ _ _  tx1 tx2 tx3 tx4 tx5 tx6_6v1157 tx7_1v1170 tx8_2v1171 hI (by omega) (by omega) (by omega) (by omega)
            · replace c2443 := c_neq lit_1 lit_0 c2443
              unfold pX10_share_144
              obtain ⟨z2450, t2451, f2452⟩ := t_add tx7 lit_1
              first | replace f2452 := f2452 (by omega) | clear f2452
              intro x7_1v1172 ex7_1v1172
              have tx7_1v1172 : Ti x7_1v1172 z2450 := by rw [ex7_1v1172]; exact t2451
              obtain ⟨z2453, t2454, f2455⟩ := t_add tx8 lit_1
              first | replace f2455 := f2455 (by omega) | clear f2455
              intro x8_2v1173 ex8_2v1173
              have tx8_2v1173 : Ti x8_2v1173 z2453 := by rw [ex8_2v1173]; exact t2454
              exact ih _ _ _ _ _ _ _ _ _ _ _ _ _ _ _ _  tx1 tx2 tx3 tx4 tx5 tx6_6v1157 tx7_1v1172 tx8_2v1173 hI (by omega) (by omega) (by omega) (by omega)
set_option maxHeartbeats 4000000 in
set_option maxRecDepth 100000 in
theorem sX10_share {T D : Int} {k : Nat} {post : Int32 → Wd → Prop} {x1 : Int32} {zx1 : Int} {x2 : Int32} {zx2 : Int} {x3 : Int32} {zx3 : Int} {w : Wd}  (tx1 : Ti x1 zx1) (tx2 : Ti x2 zx2) (tx3 : Ti x3 zx3) (hI : IX k T D w)  (hp : ∀ (r : Int32) (zr : Int), Ti r zr → post r w) : pX10_share   post  x1 x2 x3 w := by
  unfold pX10_share
  have hk := ix_k hI
  refine sX10_isRow   (hI := hI) (tx1 := tx1)  (hp := fun r_1v1174 zr_1v1174 tr_1v1174 p2456 => ?_)
  refine ⟨fun c2457 => ?_, fun c2457 => ?_⟩
  · replace c2457 := c_eq tr_1v1174 lit_0 c2457
    exact hp _ _ lit_m1 
  · replace c2457 := c_neq tr_1v1174 lit_0 c2457
    refine ⟨fun c2458 => ?_, fun c2458 => ?_⟩
    · replace c2458 := c_lt tx2 lit_1 c2458
      exact hp _ _ lit_m1 
    · replace c2458 := c_nlt tx2 lit_1 c2458
      refine ⟨fun c2459 => ?_, fun c2459 => ?_⟩
      · replace c2459 := c_lt lit_4 tx2 c2459
        exact hp _ _ lit_m1 
      · replace c2459 := c_nlt lit_4 tx2 c2459
        refine ⟨fun c2460 => ?_, fun c2460 => ?_⟩
        · replace c2460 := c_lt tx3 lit_0 c2460
          exact hp _ _ lit_m1 
        · replace c2460 := c_nlt tx3 lit_0 c2460
          refine ⟨fun c2461 => ?_, fun c2461 => ?_⟩
          · replace c2461 := c_lt tx3 tx2 c2461
            refine sJ6_bitCount_0f7a4   (hI := hI) (tx0 := tx1)  (hp := fun r_8v1181 zr_8v1181 tr_8v1181 p2462 => ?_)
            refine ⟨fun c2463 => ?_, fun c2463 => ?_⟩
            · replace c2463 := c_neq tr_8v1181 lit_0 c2463
              refine sX10_marksIn   (hI := hI) (tx1 := tx1) (tx2 := tx2) (tx3 := tx3) (h0 := (by omega)) (hp := fun r_11v1186 zr_11v1186 tr_11v1186 => ?_)
              obtain ⟨z2464, t2465, f2466⟩ := t_mul lit_100 tr_11v1186
              first | replace f2466 := f2466 (by omega) | clear f2466
              intro x5_13v1189 ex5_13v1189
              have tx5_13v1189 : Ti x5_13v1189 z2464 := by rw [ex5_13v1189]; exact t2465
              exact ⟨70000, sX10_share_64   (hp := hp) 70000 _ _ _ _ _ _ _ _ _ _ _ _ _ _ _ _  tx1 tx2 tx3 tr_8v1181 tx5_13v1189 lit_100 lit_0 lit_0 hI (by omega) (by omega) (by omega) (by omega)⟩
            · replace c2463 := c_eq tr_8v1181 lit_0 c2463
              exact hp _ _ lit_0 
          · replace c2461 := c_nlt tx3 tx2 c2461
            exact hp _ _ lit_m1 
set_option maxHeartbeats 4000000 in
set_option maxRecDepth 100000 in
theorem sX10_forge_43 {T D : Int} {k : Nat} {post : Int32 → Wd → Prop}   (hp : ∀ (r : Int32) (zr : Int) (w9 : Wd), Ti r zr → IX k T D w9 → post r w9) : ∀ (n : Nat) (x1 : Int32) (x2 : Int32) (x3 : Int32) (x4 : Int32) (x5 : Int32) (x6 : Int32) (x7 : Int32) (x8 : Int32) (zx1 : Int) (zx2 : Int) (zx3 : Int) (zx4 : Int) (zx5 : Int) (zx6 : Int) (zx7 : Int) (zx8 : Int) (w : Wd), Ti x1 zx1 → Ti x2 zx2 → Ti x3 zx3 → Ti x4 zx4 → Ti x5 zx5 → Ti x6 zx6 → Ti x7 zx7 → Ti x8 zx8 → IX k T D w → (0 ≤ zx8 ∧ zx8 ≤ 4096) → (0 ≤ zx1 ∧ zx1 ≤ 23) → (4097 - zx8) < (n : Int) → pX10_forge_43   post  n x1 x2 x3 x4 x5 x6 x7 x8 w := by
  intro n
  induction n with
  | zero =>
    intro x1 x2 x3 x4 x5 x6 x7 x8 zx1 zx2 zx3 zx4 zx5 zx6 zx7 zx8 w tx1 tx2 tx3 tx4 tx5 tx6 tx7 tx8 hI h0 h1 hm
    exact absurd hm (by omega)
  | succ n ih =>
    intro x1 x2 x3 x4 x5 x6 x7 x8 zx1 zx2 zx3 zx4 zx5 zx6 zx7 zx8 w tx1 tx2 tx3 tx4 tx5 tx6 tx7 tx8 hI h0 h1 hm
    unfold pX10_forge_43
    have hk := ix_k hI
    refine sX7_rows   (hI := hI)   (hp := fun r_1v1190 zr_1v1190 tr_1v1190 p2467 => ?_)
    refine ⟨fun c2468 => ?_, fun c2468 => ?_⟩
    · replace c2468 := c_le tr_1v1190 tx8 c2468
      refine ⟨fun c2469 => ?_, fun c2469 => ?_⟩
      · replace c2469 := c_neq tx5 lit_0 c2469
        exact hp _ _ _  tx7 hI 
      · replace c2469 := c_eq tx5 lit_0 c2469
        refine ⟨fun c2470 => ?_, fun c2470 => ?_⟩
        · replace c2470 := c_eq tx7 lit_m1 c2470
          exact hp _ _ _  tx7 hI 
        · replace c2470 := c_neq tx7 lit_m1 c2470
          exact hp _ _ _  tx6 hI 
    · replace c2468 := c_nle tr_1v1190 tx8 c2468
      refine ⟨vp_of tx1 (by omega) (by omega), ?_⟩
      obtain ⟨z2471, t2472⟩ := t_any (x8 ^^^ (w.2.1 162 x1.toNatClampNeg))
      refine sJ6_bitCount_0f7a4   (hI := hI) (tx0 := t2472)  (hp := fun r_6v1196 zr_6v1196 tr_6v1196 p2473 => ?_)
      refine ⟨fun c2474 => ?_, fun c2474 => ?_⟩
      · replace c2474 := c_le tx6 tr_6v1196 c2474
        unfold pX10_forge_104
        obtain ⟨z2475, t2476, f2477⟩ := t_add tx8 lit_1
        first | replace f2477 := f2477 (by omega) | clear f2477
        intro x8_1v1202 ex8_1v1202
        have tx8_1v1202 : Ti x8_1v1202 z2475 := by rw [ex8_1v1202]; exact t2476
        exact ih _ _ _ _ _ _ _ _ _ _ _ _ _ _ _ _ _ tx1 tx2 tx3 tx4 tx5 tx6 tx7 tx8_1v1202 hI (by omega) (by omega) (by omega)
      · replace c2474 := c_nle tx6 tr_6v1196 c2474
        refine sX1_rowAfter   (hI := hI) (tx1 := tx8) (tx2 := tx2) (tx3 := tx3) (tx4 := lit_0)  (hp := fun r_9v1200 zr_9v1200 w_10v1201  tr_9v1200 hIw_10v1201  => ?_)
        refine ⟨fun c2478 => ?_, fun c2478 => ?_⟩
        · replace c2478 := c_neq tr_9v1200 tx4 c2478
          unfold pX10_forge_104
          obtain ⟨z2479, t2480, f2481⟩ := t_add tx8 lit_1
          first | replace f2481 := f2481 (by omega) | clear f2481
          intro x8_1v1203 ex8_1v1203
          have tx8_1v1203 : Ti x8_1v1203 z2479 := by rw [ex8_1v1203]; exact t2480
          exact ih _ _ _ _ _ _ _ _ _ _ _ _ _ _ _ _ _ tx1 tx2 tx3 tx4 tx5 tx6 tx7 tx8_1v1203 hIw_10v1201 (by omega) (by omega) (by omega)
        · replace c2478 := c_eq tr_9v1200 tx4 c2478
          unfold pX10_forge_104
          obtain ⟨z2482, t2483, f2484⟩ := t_add tx8 lit_1
          first | replace f2484 := f2484 (by omega) | clear f2484
          intro x8_1v1204 ex8_1v1204
          have tx8_1v1204 : Ti x8_1v1204 z2482 := by rw [ex8_1v1204]; exact t2483
          exact ih _ _ _ _ _ _ _ _ _ _ _ _ _ _ _ _ _ tx1 tx2 tx3 tx4 tx5 tr_6v1196 tx8 tx8_1v1204 hIw_10v1201 (by omega) (by omega) (by omega)
set_option maxHeartbeats 4000000 in
set_option maxRecDepth 100000 in
theorem sX10_forge {T D : Int} {k : Nat} {post : Int32 → Wd → Prop} {x1 : Int32} {zx1 : Int} {x2 : Int32} {zx2 : Int} {x3 : Int32} {zx3 : Int} {x4 : Int32} {zx4 : Int} {x5 : Int32} {zx5 : Int} {w : Wd}  (tx1 : Ti x1 zx1) (tx2 : Ti x2 zx2) (tx3 : Ti x3 zx3) (tx4 : Ti x4 zx4) (tx5 : Ti x5 zx5) (hI : IX k T D w)  (hp : ∀ (r : Int32) (zr : Int) (w9 : Wd), Ti r zr → IX k T D w9 → post r w9) : pX10_forge   post  x1 x2 x3 x4 x5 w := by
  unfold pX10_forge
  have hk := ix_k hI
  refine sX10_canCast   (hI := hI) (tx1 := tx1) (tx2 := tx2) (tx3 := tx3)  (hp := fun r_1v1205 zr_1v1205 tr_1v1205 p2485 => ?_)
  refine ⟨fun c2486 => ?_, fun c2486 => ?_⟩
  · replace c2486 := c_eq tr_1v1205 lit_0 c2486
    exact hp _ _ _  lit_m1 hI 
  · replace c2486 := c_neq tr_1v1205 lit_0 c2486
    refine sX10_isRow   (hI := hI) (tx1 := tx4)  (hp := fun r_4v1209 zr_4v1209 tr_4v1209 p2487 => ?_)
    refine ⟨fun c2488 => ?_, fun c2488 => ?_⟩
    · replace c2488 := c_eq tr_4v1209 lit_0 c2488
      exact hp _ _ _  lit_m1 hI 
    · replace c2488 := c_neq tr_4v1209 lit_0 c2488
      refine ⟨fun c2489 => ?_, fun c2489 => ?_⟩
      · replace c2489 := c_lt tx5 lit_0 c2489
        exact hp _ _ _  lit_m1 hI 
      · replace c2489 := c_nlt tx5 lit_0 c2489
        refine ⟨fun c2490 => ?_, fun c2490 => ?_⟩
        · replace c2490 := c_le tx5 lit_1 c2490
          exact ⟨70000, sX10_forge_43   (hp := hp) 70000 _ _ _ _ _ _ _ _ _ _ _ _ _ _ _ _ _ tx1 tx2 tx3 tx4 tx5 lit_1000 lit_m1 lit_0 hI (by omega) (by omega) (by omega)⟩
        · replace c2490 := c_nle tx5 lit_1 c2490
          exact hp _ _ _  lit_m1 hI 
