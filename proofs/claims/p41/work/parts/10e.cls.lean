set_option maxHeartbeats 4000000 in
set_option maxRecDepth 100000 in
theorem sX10_canCast {T D : Int} {k : Nat} {post : Int32 → Wd → Prop} {x1 : Int32} {zx1 : Int} {x2 : Int32} {zx2 : Int} {x3 : Int32} {zx3 : Int} {w : Wd}  (tx1 : Ti x1 zx1) (tx2 : Ti x2 zx2) (tx3 : Ti x3 zx3) (hI : IX k T D w)  (hp : ∀ (r : Int32) (zr : Int), Ti r zr → ((zr = 0 ∨ (0 ≤ zx1 ∧ zx1 ≤ 23 ∧ 0 ≤ zx2 ∧ zx2 ≤ 3 ∧ 0 ≤ zx3 ∧ zx3 ≤ 9))) → post r w) : pX10_canCast   post  x1 x2 x3 w := by
  unfold pX10_canCast
  have hk := ix_k hI
  refine sX10_isSeal   (hI := hI) (tx1 := tx1)  (hp := fun r_1v948 zr_1v948 tr_1v948 p1995 => ?_)
  refine ⟨fun c1996 => ?_, fun c1996 => ?_⟩
  · replace c1996 := c_eq tr_1v948 lit_0 c1996
    exact hp _ _ lit_0 (by omega)
  · replace c1996 := c_neq tr_1v948 lit_0 c1996
    refine sX10_isHand   (hI := hI) (tx1 := tx2)  (hp := fun r_4v954 zr_4v954 tr_4v954 p1997 => ?_)
    refine ⟨fun c1998 => ?_, fun c1998 => ?_⟩
    · replace c1998 := c_eq tr_4v954 lit_0 c1998
      exact hp _ _ lit_0 (by omega)
    · replace c1998 := c_neq tr_4v954 lit_0 c1998
      refine sX10_isHeat   (hI := hI) (tx0 := tx3)  (hp := fun r_7v958 zr_7v958 tr_7v958 p1999 => ?_)
      refine ⟨fun c2000 => ?_, fun c2000 => ?_⟩
      · replace c2000 := c_eq tr_7v958 lit_0 c2000
        exact hp _ _ lit_0 (by omega)
      · replace c2000 := c_neq tr_7v958 lit_0 c2000
        exact hp _ _ lit_1 (by omega)
set_option maxHeartbeats 4000000 in
set_option maxRecDepth 100000 in
theorem sX10_cast {T D : Int} {k : Nat} {post : Int32 → Wd → Prop} {x1 : Int32} {zx1 : Int} {x2 : Int32} {zx2 : Int} {x3 : Int32} {zx3 : Int} {w : Wd}  (tx1 : Ti x1 zx1) (tx2 : Ti x2 zx2) (tx3 : Ti x3 zx3) (hI : IX k T D w)  (hp : ∀ (r : Int32) (zr : Int) (w9 : Wd) (D9 : Int), Ti r zr → IX k T D9 w9 → post r w9) : pX10_cast   post  x1 x2 x3 w := by
  unfold pX10_cast
  have hk := ix_k hI
  refine sX10_canCast   (hI := hI) (tx1 := tx1) (tx2 := tx2) (tx3 := tx3)  (hp := fun r_1v960 zr_1v960 tr_1v960 p2001 => ?_)
  refine ⟨fun c2002 => ?_, fun c2002 => ?_⟩
  · replace c2002 := c_eq tr_1v960 lit_0 c2002
    exact hp _ _ _ _ lit_m1 hI 
  · replace c2002 := c_neq tr_1v960 lit_0 c2002
    obtain ⟨z2003, t2004⟩ := t_any (w.1 160 0)
    have f2005 := ixg_c0 hI t2004
    refine ⟨fun c2006 => ?_, fun c2006 => ?_⟩
    · replace c2006 := c_le lit_24 t2004 c2006
      exact hp _ _ _ _ lit_m1 hI 
    · replace c2006 := c_nle lit_24 t2004 c2006
      obtain ⟨z2007, t2008, f2009⟩ := t_add lit_1 tx3
      first | replace f2009 := f2009 (by omega) | clear f2009
      obtain ⟨z2010, t2011⟩ := t_any (w.1 160 11)
      refine ⟨fun c2012 => ?_, fun c2012 => ?_⟩
      · replace c2012 := c_le t2008 t2011 c2012
        refine sX0_add   (hI := hI) (tx1 := lit_0) (tx2 := tx1) (tx3 := tx2) (tx4 := tx3)  (hp := fun  w_6v963 g2013  hIw_6v963  => ?_)
        obtain ⟨z2014, t2015⟩ := t_any (w_6v963.1 160 0)
        have f2016 := ixg_c0 hIw_6v963 t2015
        obtain ⟨z2017, t2018, f2019⟩ := t_sub t2015 lit_1
        first | replace f2019 := f2019 (by omega) | clear f2019
        exact hp _ _ _ _ t2018 hIw_6v963 
      · replace c2012 := c_nle t2008 t2011 c2012
        exact hp _ _ _ _ lit_m1 hI 
set_option maxHeartbeats 4000000 in
set_option maxRecDepth 100000 in
theorem sX10_print {T D : Int} {k : Nat} {post : Int32 → Wd → Prop} {x1 : Int32} {zx1 : Int} {w : Wd}  (tx1 : Ti x1 zx1) (hI : IX k T D w)  (hp : ∀ (r : Int32) (zr : Int) (w9 : Wd) (D9 : Int), Ti r zr → IX k T D9 w9 → post r w9) : pX10_print   post  x1 w := by
  unfold pX10_print
  have hk := ix_k hI
  refine sX10_isSeal   (hI := hI) (tx1 := tx1)  (hp := fun r_1v964 zr_1v964 tr_1v964 p2020 => ?_)
  refine ⟨fun c2021 => ?_, fun c2021 => ?_⟩
  · replace c2021 := c_eq tr_1v964 lit_0 c2021
    exact hp _ _ _ _ lit_m1 hI 
  · replace c2021 := c_neq tr_1v964 lit_0 c2021
    obtain ⟨z2022, t2023⟩ := t_any (w.1 160 6)
    have f2024 := ixg_c6 hI t2023
    refine ⟨fun c2025 => ?_, fun c2025 => ?_⟩
    · replace c2025 := c_le lit_40 t2023 c2025
      exact hp _ _ _ _ lit_m1 hI 
    · replace c2025 := c_nle lit_40 t2023 c2025
      obtain ⟨z2026, t2027⟩ := t_any (w.1 160 11)
      refine ⟨fun c2028 => ?_, fun c2028 => ?_⟩
      · replace c2028 := c_le lit_1 t2027 c2028
        refine sX0_add   (hI := hI) (tx1 := lit_1) (tx2 := tx1) (tx3 := lit_0) (tx4 := lit_0)  (hp := fun  w_6v967 g2029  hIw_6v967  => ?_)
        obtain ⟨z2030, t2031⟩ := t_any (w_6v967.1 160 6)
        have f2032 := ixg_c6 hIw_6v967 t2031
        obtain ⟨z2033, t2034, f2035⟩ := t_sub t2031 lit_1
        first | replace f2035 := f2035 (by omega) | clear f2035
        exact hp _ _ _ _ t2034 hIw_6v967 
      · replace c2028 := c_nle lit_1 t2027 c2028
        exact hp _ _ _ _ lit_m1 hI 
set_option maxHeartbeats 4000000 in
set_option maxRecDepth 100000 in
theorem sX10_isMark {T D : Int} {k : Nat} {post : Int32 → Wd → Prop} {x1 : Int32} {zx1 : Int} {w : Wd}  (tx1 : Ti x1 zx1) (hI : IX k T D w)  (hp : ∀ (r : Int32) (zr : Int), Ti r zr → ((zr = 0 ∨ (0 ≤ zx1 ∧ zx1 ≤ 11))) → post r w) : pX10_isMark   post  x1 w := by
  unfold pX10_isMark
  have hk := ix_k hI
  refine ⟨fun c2036 => ?_, fun c2036 => ?_⟩
  · replace c2036 := c_lt tx1 lit_0 c2036
    exact hp _ _ lit_0 (by omega)
  · replace c2036 := c_nlt tx1 lit_0 c2036
    obtain ⟨z2037, t2038⟩ := t_any (w.1 (rl (w.2.2.2.2 0)) 0)
    have f2039 := ixg_r0 hI t2038
    refine ⟨fun c2040 => ?_, fun c2040 => ?_⟩
    · replace c2040 := c_le t2038 tx1 c2040
      exact hp _ _ lit_0 (by omega)
    · replace c2040 := c_nle t2038 tx1 c2040
      exact hp _ _ lit_1 (by omega)
set_option maxHeartbeats 4000000 in
set_option maxRecDepth 100000 in
theorem sX10_sealHas {T D : Int} {k : Nat} {post : Int32 → Wd → Prop} {x1 : Int32} {zx1 : Int} {x2 : Int32} {zx2 : Int} {w : Wd}  (tx1 : Ti x1 zx1) (tx2 : Ti x2 zx2) (hI : IX k T D w)  (hp : ∀ (r : Int32) (zr : Int), Ti r zr → ((zr = 0 ∨ (0 ≤ zx1 ∧ zx1 ≤ 23))) → post r w) : pX10_sealHas   post  x1 x2 w := by
  unfold pX10_sealHas
  have hk := ix_k hI
  refine sX10_isSeal   (hI := hI) (tx1 := tx1)  (hp := fun r_1v968 zr_1v968 tr_1v968 p2041 => ?_)
  refine ⟨fun c2042 => ?_, fun c2042 => ?_⟩
  · replace c2042 := c_eq tr_1v968 lit_0 c2042
    exact hp _ _ lit_0 (by omega)
  · replace c2042 := c_neq tr_1v968 lit_0 c2042
    refine sX10_isMark   (hI := hI) (tx1 := tx2)  (hp := fun r_4v972 zr_4v972 tr_4v972 p2043 => ?_)
    refine ⟨fun c2044 => ?_, fun c2044 => ?_⟩
    · replace c2044 := c_eq tr_4v972 lit_0 c2044
      exact hp _ _ lit_0 (by omega)
    · replace c2044 := c_neq tr_4v972 lit_0 c2044
      refine ⟨vp_of tx1 (by omega) (by omega), ?_⟩
      obtain ⟨z2045, t2046, f2047⟩ := t_and (x := ((w.2.1 162 x1.toNatClampNeg) >>> (x2 &&& 31))) lit_1 (by decide)
      refine ⟨fun c2048 => ?_, fun c2048 => ?_⟩
      · replace c2048 := c_eq t2046 lit_0 c2048
        exact hp _ _ lit_0 (by omega)
      · replace c2048 := c_neq t2046 lit_0 c2048
        exact hp _ _ lit_1 (by omega)
set_option maxHeartbeats 4000000 in
set_option maxRecDepth 100000 in
theorem sX10_crack {T D : Int} {k : Nat} {post : Int32 → Wd → Prop} {x1 : Int32} {zx1 : Int} {x2 : Int32} {zx2 : Int} {w : Wd}  (tx1 : Ti x1 zx1) (tx2 : Ti x2 zx2) (hI : IX k T D w)  (hp : ∀ (r : Int32) (zr : Int) (w9 : Wd) (D9 : Int), Ti r zr → IX k T D9 w9 → post r w9) : pX10_crack   post  x1 x2 w := by
  unfold pX10_crack
  have hk := ix_k hI
  refine sX10_sealHas   (hI := hI) (tx1 := tx1) (tx2 := tx2)  (hp := fun r_1v974 zr_1v974 tr_1v974 p2049 => ?_)
  refine ⟨fun c2050 => ?_, fun c2050 => ?_⟩
  · replace c2050 := c_neq tr_1v974 lit_0 c2050
    refine sX0_add   (hI := hI) (tx1 := lit_2) (tx2 := tx1) (tx3 := tx2) (tx4 := lit_0)  (hp := fun  w_4v977 g2051  hIw_4v977  => ?_)
    exact hp _ _ _ _ lit_1 hIw_4v977 
  · replace c2050 := c_eq tr_1v974 lit_0 c2050
    exact hp _ _ _ _ lit_0 hI 
set_option maxHeartbeats 4000000 in
set_option maxRecDepth 100000 in
theorem sX10_year {T D : Int} {k : Nat} {post : Int32 → Wd → Prop}  {w : Wd}   (hI : IX k T D w)  (hp : ∀ (r : Int32) (zr : Int) (w9 : Wd) (D9 : Int), Ti r zr → IX k T D9 w9 → post r w9) : pX10_year   post   w := by
  unfold pX10_year
  have hk := ix_k hI
  obtain ⟨z2052, t2053⟩ := t_any (w.1 160 12)
  refine ⟨fun c2054 => ?_, fun c2054 => ?_⟩
  · replace c2054 := c_lt t2053 lit_999 c2054
    refine sX0_add   (hI := hI) (tx1 := lit_3) (tx2 := lit_0) (tx3 := lit_0) (tx4 := lit_0)  (hp := fun  w_2v978 g2055  hIw_2v978  => ?_)
    obtain ⟨z2056, t2057⟩ := t_any (w_2v978.1 160 12)
    exact hp _ _ _ _ t2057 hIw_2v978 
  · replace c2054 := c_nlt t2053 lit_999 c2054
    exact hp _ _ _ _ lit_m1 hI 
theorem sX0_takeBack {T D : Int} {k : Nat} {post : Wd → Prop} {x1 : Int32} {zx1 : Int} {w : Wd} (tx1 : Ti x1 zx1) (hI : IX k T D w) (hk : k < 1000) (h0 : 0 ≤ zx1 ∧ zx1 ≤ 39) (hp : ∀ (w9 : Wd), IX (k + 1) T D w9 → post w9) : pX0_takeBack post x1 w := by
  unfold pX0_takeBack
  have hJ := ix_up hI hk
  obtain ⟨z0, t0⟩ := t_any (w.1 160 0)
  obtain ⟨z6, t6⟩ := t_any (w.1 160 6)
  have b0 := ixg_c0 hI t0
  have b6 := ixg_c6 hI t6
  obtain ⟨y0, u0, f0⟩ := t_sub t0 lit_1
  replace f0 := f0 (by omega)
  obtain ⟨y6, u6, f6⟩ := t_sub t6 lit_1
  replace f6 := f6 (by omega)
  have hv : vp_in x1 40 := vp_of tx1 (by omega) (by omega)
  refine ⟨hv, fun c => ?_, fun c => ?_, fun c => ?_, fun c => ?_⟩
  · intro w_2 e2
    exact hp _ (ixs_n hJ e2 (by unfold nX; omega))
  · intro w_3 e3
    have i3 := ixs_c0 (c := 0) hJ e3 u0 (by omega) (by omega)
    refine ⟨hv, ?_⟩
    intro w_4 e4
    have i4 := ixs_n i3 e4 (by unfold nX; omega)
    refine ⟨hv, ?_⟩
    intro w_5 e5
    exact hp _ (ixs_n i4 e5 (by unfold nX; omega))
  · intro w_6 e6
    have i6 := ixs_c6 (c := 0) hJ e6 u6 (by omega) (by omega)
    intro w_7 e7
    exact hp _ (ixs_n i6 e7 (by unfold nX; omega))
  · refine ⟨hv, hv, ?_⟩
    exact sX2_flip (tx1 := rfl) (tx2 := rfl) (hI := hJ) (hp := fun w_8 i8 => hp _ i8)
theorem sX0_goBack {T D : Int} {k : Nat} {post : Int32 → Wd → Prop} {w : Wd} (hI : IX k T D w) (hk : k < 1000) (hp : ∀ (r : Int32) (zr : Int) (w9 : Wd) (D9 : Int), Ti r zr → IX (k + 1) T D9 w9 → (zr = 0 ∨ zr = 1) → post r w9) : pX0_goBack post w := by
  unfold pX0_goBack
  have hJ := ix_up hI hk
  obtain ⟨z, t⟩ := t_any (w.1 50 7)
  have b := ixg_50_7 hI t
  have b2 := ix_k hI
  obtain ⟨y, u, f⟩ := t_sub t lit_1
  replace f := f (by omega)
  refine ⟨fun c => hp _ _ _ _ lit_0 hJ (by omega), fun c => ⟨fun c2 => ?_, fun c2 => hp _ _ _ _ lit_0 hJ (by omega)⟩⟩
  replace c := c_nlt t lit_1 c
  replace c2 := c_le t lit_40 c2
  intro w_3 e3
  have i3 := ixs_50_7 hI e3 u (by omega) (by omega)
  intro w_4 e4
  have i4 := ixs_n i3 e4 (by unfold nX; omega)
  obtain ⟨z4, t4⟩ := t_any (w_4.1 50 7)
  have b4 := ixg_50_7 i4 t4
  exact sX0_takeBack t4 i4 hk (by omega) (fun w_5 i5 => hp _ _ _ _ lit_1 i5 (by omega))
theorem sX10_undo {T D : Int} {k : Nat} {post : Int32 → Wd → Prop} {w : Wd} (hI : IX k T D w) (hk : k < 1000) (hp : ∀ (r : Int32) (zr : Int) (w9 : Wd) (D9 : Int), Ti r zr → IX (k + 1) T D9 w9 → post r w9) : pX10_undo post w := by
  unfold pX10_undo
  exact sX0_goBack hI hk (fun r zr w9 D9 t i9 h => ⟨nar_ok t h, hp _ _ _ _ t i9⟩)
set_option maxHeartbeats 4000000 in
set_option maxRecDepth 100000 in
theorem sX0_goOn {T D : Int} {k : Nat} {post : Int32 → Wd → Prop}  {w : Wd}   (hI : IX k T D w)  (hp : ∀ (r : Int32) (zr : Int) (w9 : Wd) (D9 : Int), Ti r zr → IX k T D9 w9 → ((zr = 0 ∨ zr = 1)) → post r w9) : pX0_goOn   post   w := by
  unfold pX0_goOn
  have hk := ix_k hI
  obtain ⟨z2058, t2059⟩ := t_any (w.1 50 8)
  refine ⟨fun c2060 => ?_, fun c2060 => ?_⟩
  · replace c2060 := c_lt t2059 lit_1 c2060
    exact hp _ _ _ _ lit_0 hI (by omega)
  · replace c2060 := c_nlt t2059 lit_1 c2060
    obtain ⟨z2061, t2062⟩ := t_any (w.1 50 7)
    have f2063 := ixg_50_7 hI t2062
    refine ⟨fun c2064 => ?_, fun c2064 => ?_⟩
    · replace c2064 := c_lt t2062 lit_0 c2064
      exact hp _ _ _ _ lit_0 hI (by omega)
    · replace c2064 := c_nlt t2062 lit_0 c2064
      refine ⟨fun c2065 => ?_, fun c2065 => ?_⟩
      · replace c2065 := c_lt t2062 lit_40 c2065
        refine sX0_perform   (hI := hI) (tx1 := t2062) (h0 := (by omega)) (hp := fun  w_4v979   hIw_4v979  => ?_)
        intro w_5v980 ew_5v980
        obtain ⟨z2066, t2067⟩ := t_any (w_4v979.1 50 7)
        have f2068 := ixg_50_7 hIw_4v979 t2067
        obtain ⟨z2069, t2070, f2071⟩ := t_add t2067 lit_1
        first | replace f2071 := f2071 (by omega) | clear f2071
        have hIw_5v980 := ixs_50_7 hIw_4v979 ew_5v980 t2070 (by omega) (by omega)
        intro w_6v981 ew_6v981
        have hIw_6v981 := ixs_n hIw_5v980 ew_6v981 (by unfold nX; omega)
        exact hp _ _ _ _ lit_1 hIw_6v981 (by omega)
      · replace c2065 := c_nlt t2062 lit_40 c2065
        exact hp _ _ _ _ lit_0 hI (by omega)
set_option maxHeartbeats 4000000 in
set_option maxRecDepth 100000 in
theorem sX10_redo {T D : Int} {k : Nat} {post : Int32 → Wd → Prop}  {w : Wd}   (hI : IX k T D w)  (hp : ∀ (r : Int32) (zr : Int) (w9 : Wd) (D9 : Int), Ti r zr → IX k T D9 w9 → post r w9) : pX10_redo   post   w := by
  unfold pX10_redo
  have hk := ix_k hI
  refine sX0_goOn   (hI := hI)   (hp := fun r_1v982 zr_1v982 w_2v983 g2073 tr_1v982 hIw_2v983 p2072 => ?_)
  refine ⟨nar_ok tr_1v982 (by omega), ?_⟩
  exact hp _ _ _ _ tr_1v982 hIw_2v983 
set_option maxHeartbeats 4000000 in
set_option maxRecDepth 100000 in
theorem sX10_whose_31 {T D : Int} {k : Nat} {post : Int32 → Wd → Prop}   (hp : ∀ (r : Int32) (zr : Int) (w9 : Wd), Ti r zr → IX k T D w9 → post r w9) : ∀ (n : Nat) (x1 : Int32) (x2 : Int32) (x3 : Int32) (x4 : Int32) (x5 : Int32) (zx1 : Int) (zx2 : Int) (zx3 : Int) (zx4 : Int) (zx5 : Int) (w : Wd), Ti x1 zx1 → Ti x2 zx2 → Ti x3 zx3 → Ti x4 zx4 → Ti x5 zx5 → IX k T D w → (0 ≤ zx5 ∧ zx5 ≤ 4) → (0 ≤ zx1 ∧ zx1 ≤ 23) → (5 - zx5) < (n : Int) → pX10_whose_31   post  n x1 x2 x3 x4 x5 w := by
  intro n
  induction n with
  | zero =>
    intro x1 x2 x3 x4 x5 zx1 zx2 zx3 zx4 zx5 w tx1 tx2 tx3 tx4 tx5 hI h0 h1 hm
    exact absurd hm (by omega)
  | succ n ih =>
    intro x1 x2 x3 x4 x5 zx1 zx2 zx3 zx4 zx5 w tx1 tx2 tx3 tx4 tx5 hI h0 h1 hm
    unfold pX10_whose_31
    have hk := ix_k hI
    obtain ⟨z2074, t2075⟩ := t_any (w.1 (rl (w.2.2.2.2 0)) 2)
    have f2076 := ixg_r2 hI t2075
    refine ⟨fun c2077 => ?_, fun c2077 => ?_⟩
    · replace c2077 := c_le t2075 tx5 c2077
      exact hp _ _ _  tx4 hI 
    · replace c2077 := c_nle t2075 tx5 c2077
      refine ⟨vp_of tx1 (by omega) (by omega), ?_⟩
      obtain ⟨z2078, t2079⟩ := t_any (w.2.1 162 x1.toNatClampNeg)
      refine sX1_rowAfter   (hI := hI) (tx1 := t2079) (tx2 := tx5) (tx3 := tx2) (tx4 := lit_0)  (hp := fun r_2v984 zr_2v984 w_3v985  tr_2v984 hIw_3v985  => ?_)
      refine ⟨fun c2080 => ?_, fun c2080 => ?_⟩
      · replace c2080 := c_neq tr_2v984 tx3 c2080
        unfold pX10_whose_76
        obtain ⟨z2081, t2082, f2083⟩ := t_add tx5 lit_1
        first | replace f2083 := f2083 (by omega) | clear f2083
        intro x5_1v987 ex5_1v987
        have tx5_1v987 : Ti x5_1v987 z2081 := by rw [ex5_1v987]; exact t2082
        exact ih _ _ _ _ _ _ _ _ _ _ _ tx1 tx2 tx3 tx4 tx5_1v987 hIw_3v985 (by omega) (by omega) (by omega)
      · replace c2080 := c_eq tr_2v984 tx3 c2080
        obtain ⟨z2084, t2085⟩ := t_any (x4 ||| ((1 : Int32) <<< (x5 &&& 31)))
        intro x4_5v986 ex4_5v986
        have tx4_5v986 : Ti x4_5v986 z2084 := by rw [ex4_5v986]; exact t2085
        unfold pX10_whose_76
        obtain ⟨z2086, t2087, f2088⟩ := t_add tx5 lit_1
        first | replace f2088 := f2088 (by omega) | clear f2088
        intro x5_1v988 ex5_1v988
        have tx5_1v988 : Ti x5_1v988 z2086 := by rw [ex5_1v988]; exact t2087
        exact ih _ _ _ _ _ _ _ _ _ _ _ tx1 tx2 tx3 tx4_5v986 tx5_1v988 hIw_3v985 (by omega) (by omega) (by omega)
set_option maxHeartbeats 4000000 in
set_option maxRecDepth 100000 in
theorem sX10_whose {T D : Int} {k : Nat} {post : Int32 → Wd → Prop} {x1 : Int32} {zx1 : Int} {x2 : Int32} {zx2 : Int} {x3 : Int32} {zx3 : Int} {w : Wd}  (tx1 : Ti x1 zx1) (tx2 : Ti x2 zx2) (tx3 : Ti x3 zx3) (hI : IX k T D w)  (hp : ∀ (r : Int32) (zr : Int) (w9 : Wd), Ti r zr → IX k T D w9 → post r w9) : pX10_whose   post  x1 x2 x3 w := by
  unfold pX10_whose
  have hk := ix_k hI
  refine sX10_isSeal   (hI := hI) (tx1 := tx1)  (hp := fun r_1v989 zr_1v989 tr_1v989 p2089 => ?_)
  refine ⟨fun c2090 => ?_, fun c2090 => ?_⟩
  · replace c2090 := c_eq tr_1v989 lit_0 c2090
    exact hp _ _ _  lit_m1 hI 
  · replace c2090 := c_neq tr_1v989 lit_0 c2090
    refine sX10_isHeat   (hI := hI) (tx0 := tx2)  (hp := fun r_4v995 zr_4v995 tr_4v995 p2091 => ?_)
    refine ⟨fun c2092 => ?_, fun c2092 => ?_⟩
    · replace c2092 := c_eq tr_4v995 lit_0 c2092
      exact hp _ _ _  lit_m1 hI 
    · replace c2092 := c_neq tr_4v995 lit_0 c2092
      refine sX10_isRow   (hI := hI) (tx1 := tx3)  (hp := fun r_7v999 zr_7v999 tr_7v999 p2093 => ?_)
      refine ⟨fun c2094 => ?_, fun c2094 => ?_⟩
      · replace c2094 := c_neq tr_7v999 lit_0 c2094
        exact ⟨70000, sX10_whose_31    (hp := hp) 70000 _ _ _ _ _ _ _ _ _ _ _ tx1 tx2 tx3 lit_0 lit_0 hI (by omega) (by omega) (by omega)⟩
      · replace c2094 := c_eq tr_7v999 lit_0 c2094
        exact hp _ _ _  lit_m1 hI 
set_option maxHeartbeats 4000000 in
set_option maxRecDepth 100000 in
theorem sX10_printOf {T D : Int} {k : Nat} {post : Int32 → Wd → Prop} {x1 : Int32} {zx1 : Int} {w : Wd}  (tx1 : Ti x1 zx1) (hI : IX k T D w)  (hp : ∀ (r : Int32) (zr : Int), Ti r zr → post r w) : pX10_printOf   post  x1 w := by
  unfold pX10_printOf
  have hk := ix_k hI
  refine sX10_isSeal   (hI := hI) (tx1 := tx1)  (hp := fun r_1v1001 zr_1v1001 tr_1v1001 p2095 => ?_)
  refine ⟨fun c2096 => ?_, fun c2096 => ?_⟩
  · replace c2096 := c_eq tr_1v1001 lit_0 c2096
    exact hp _ _ lit_0 
  · replace c2096 := c_neq tr_1v1001 lit_0 c2096
    refine ⟨vp_of tx1 (by omega) (by omega), ?_⟩
    obtain ⟨z2097, t2098⟩ := t_any (w.2.1 162 x1.toNatClampNeg)
    obtain ⟨z2099, t2100⟩ := t_any (w.1 (rl (w.2.2.2.2 0)) 0)
    have f2101 := ixg_r0 hI t2100
    refine sX10_turn   (hI := hI) (tx0 := t2098) (tx1 := t2100)  (hp := fun r_4v1005 zr_4v1005 tr_4v1005 => ?_)
    exact hp _ _ tr_4v1005 
set_option maxHeartbeats 4000000 in
set_option maxRecDepth 100000 in
theorem sX10_made_25 {T D : Int} {k : Nat} {post : Int32 → Wd → Prop} {w : Wd}  (hp : ∀ (r : Int32) (zr : Int), Ti r zr → post r w) : ∀ (n : Nat) (x1 : Int32) (x2 : Int32) (x3 : Int32) (x4 : Int32) (zx1 : Int) (zx2 : Int) (zx3 : Int) (zx4 : Int), Ti x1 zx1 → Ti x2 zx2 → Ti x3 zx3 → Ti x4 zx4 → IX k T D w → (0 ≤ zx4 ∧ zx4 ≤ 24) → (25 - zx4) < (n : Int) → pX10_made_25   post  n x1 x2 x3 x4 w := by
  intro n
  induction n with
  | zero =>
    intro x1 x2 x3 x4 zx1 zx2 zx3 zx4  tx1 tx2 tx3 tx4 hI h0 hm
    exact absurd hm (by omega)
  | succ n ih =>
    intro x1 x2 x3 x4 zx1 zx2 zx3 zx4  tx1 tx2 tx3 tx4 hI h0 hm
    unfold pX10_made_25
    have hk := ix_k hI
    obtain ⟨z2102, t2103⟩ := t_any (w.1 160 0)
    have f2104 := ixg_c0 hI t2103
    refine ⟨fun c2105 => ?_, fun c2105 => ?_⟩
    · replace c2105 := c_le t2103 tx4 c2105
      exact hp _ _ tx3 
    · replace c2105 := c_nle t2103 tx4 c2105
      refine sX10_printOf   (hI := hI) (tx1 := tx4)  (hp := fun r_2v1007 zr_2v1007 tr_2v1007 => ?_)
      obtain ⟨z2106, t2107⟩ := t_any (x1 &&& (r_2v1007 ^^^ (-1 : Int32)))
      refine ⟨fun c2108 => ?_, fun c2108 => ?_⟩
      · replace c2108 := c_neq t2107 lit_0 c2108
        unfold pX10_made_74
        obtain ⟨z2109, t2110, f2111⟩ := t_add tx4 lit_1
        first | replace f2111 := f2111 (by omega) | clear f2111
        intro x4_1v1015 ex4_1v1015
        have tx4_1v1015 : Ti x4_1v1015 z2109 := by rw [ex4_1v1015]; exact t2110
        exact ih _ _ _ _ _ _ _ _  tx1 tx2 tx3 tx4_1v1015 hI (by omega) (by omega)
      · replace c2108 := c_eq t2107 lit_0 c2108
        obtain ⟨z2112, t2113⟩ := t_any (r_2v1007 &&& (x1 ^^^ (-1 : Int32)))
        refine sJ6_bitCount_0f7a4   (hI := hI) (tx0 := t2113)  (hp := fun r_5v1012 zr_5v1012 tr_5v1012 p2114 => ?_)
        refine ⟨fun c2115 => ?_, fun c2115 => ?_⟩
        · replace c2115 := c_lt tx2 tr_5v1012 c2115
          unfold pX10_made_74
          obtain ⟨z2116, t2117, f2118⟩ := t_add tx4 lit_1
          first | replace f2118 := f2118 (by omega) | clear f2118
          intro x4_1v1017 ex4_1v1017
          have tx4_1v1017 : Ti x4_1v1017 z2116 := by rw [ex4_1v1017]; exact t2117
          exact ih _ _ _ _ _ _ _ _  tx1 tx2 tx3 tx4_1v1017 hI (by omega) (by omega)
        · replace c2115 := c_nlt tx2 tr_5v1012 c2115
          obtain ⟨z2119, t2120⟩ := t_any (x3 ||| ((1 : Int32) <<< (x4 &&& 31)))
          intro x3_8v1016 ex3_8v1016
          have tx3_8v1016 : Ti x3_8v1016 z2119 := by rw [ex3_8v1016]; exact t2120
          unfold pX10_made_74
          obtain ⟨z2121, t2122, f2123⟩ := t_add tx4 lit_1
          first | replace f2123 := f2123 (by omega) | clear f2123
          intro x4_1v1018 ex4_1v1018
          have tx4_1v1018 : Ti x4_1v1018 z2121 := by rw [ex4_1v1018]; exact t2122
          exact ih _ _ _ _ _ _ _ _  tx1 tx2 tx3_8v1016 tx4_1v1018 hI (by omega) (by omega)
set_option maxHeartbeats 4000000 in
set_option maxRecDepth 100000 in
theorem sX10_made {T D : Int} {k : Nat} {post : Int32 → Wd → Prop} {x1 : Int32} {zx1 : Int} {x2 : Int32} {zx2 : Int} {w : Wd}  (tx1 : Ti x1 zx1) (tx2 : Ti x2 zx2) (hI : IX k T D w)  (hp : ∀ (r : Int32) (zr : Int), Ti r zr → post r w) : pX10_made   post  x1 x2 w := by
  unfold pX10_made
  have hk := ix_k hI
  refine sX10_isRow   (hI := hI) (tx1 := tx1)  (hp := fun r_1v1019 zr_1v1019 tr_1v1019 p2124 => ?_)
  refine ⟨fun c2125 => ?_, fun c2125 => ?_⟩
  · replace c2125 := c_eq tr_1v1019 lit_0 c2125
    exact hp _ _ lit_m1 
  · replace c2125 := c_neq tr_1v1019 lit_0 c2125
    refine ⟨fun c2126 => ?_, fun c2126 => ?_⟩
    · replace c2126 := c_lt tx2 lit_0 c2126
      exact hp _ _ lit_m1 
    · replace c2126 := c_nlt tx2 lit_0 c2126
      refine ⟨fun c2127 => ?_, fun c2127 => ?_⟩
      · replace c2127 := c_le tx2 lit_12 c2127
        exact ⟨70000, sX10_made_25    (hp := hp) 70000 _ _ _ _ _ _ _ _  tx1 tx2 lit_0 lit_0 hI (by omega) (by omega)⟩
      · replace c2127 := c_nle tx2 lit_12 c2127
        exact hp _ _ lit_m1 
set_option maxHeartbeats 4000000 in
set_option maxRecDepth 100000 in
theorem sX10_apart {T D : Int} {k : Nat} {post : Int32 → Wd → Prop} {x1 : Int32} {zx1 : Int} {x2 : Int32} {zx2 : Int} {x3 : Int32} {zx3 : Int} {w : Wd}  (tx1 : Ti x1 zx1) (tx2 : Ti x2 zx2) (tx3 : Ti x3 zx3) (hI : IX k T D w)  (hp : ∀ (r : Int32) (zr : Int), Ti r zr → post r w) : pX10_apart   post  x1 x2 x3 w := by
  unfold pX10_apart
  have hk := ix_k hI
  refine sX10_isSeal   (hI := hI) (tx1 := tx1)  (hp := fun r_1v1021 zr_1v1021 tr_1v1021 p2128 => ?_)
  refine ⟨fun c2129 => ?_, fun c2129 => ?_⟩
  · replace c2129 := c_eq tr_1v1021 lit_0 c2129
    exact hp _ _ lit_m1 
  · replace c2129 := c_neq tr_1v1021 lit_0 c2129
    refine sX10_isSeal   (hI := hI) (tx1 := tx2)  (hp := fun r_4v1027 zr_4v1027 tr_4v1027 p2130 => ?_)
    refine ⟨fun c2131 => ?_, fun c2131 => ?_⟩
    · replace c2131 := c_neq tr_4v1027 lit_0 c2131
      refine ⟨fun c2132 => ?_, fun c2132 => ?_⟩
      · replace c2132 := c_eq tx3 lit_0 c2132
        refine ⟨vp_of tx2 (by omega) (by omega), ?_⟩
        unfold pX10_apart_39
        refine ⟨vp_of tx1 (by omega) (by omega), ?_⟩
        obtain ⟨z2133, t2134⟩ := t_any ((w.2.1 162 x1.toNatClampNeg) ^^^ (w.2.1 162 x2.toNatClampNeg))
        refine sJ6_bitCount_0f7a4   (hI := hI) (tx0 := t2134)  (hp := fun r_1v1033 zr_1v1033 tr_1v1033 p2135 => ?_)
        exact hp _ _ tr_1v1033 
      · replace c2132 := c_neq tx3 lit_0 c2132
        refine sX10_printOf   (hI := hI) (tx1 := tx2)  (hp := fun r_8v1031 zr_8v1031 tr_8v1031 => ?_)
        unfold pX10_apart_39
        refine ⟨vp_of tx1 (by omega) (by omega), ?_⟩
        obtain ⟨z2136, t2137⟩ := t_any ((w.2.1 162 x1.toNatClampNeg) ^^^ r_8v1031)
        refine sJ6_bitCount_0f7a4   (hI := hI) (tx0 := t2137)  (hp := fun r_1v1035 zr_1v1035 tr_1v1035 p2138 => ?_)
        exact hp _ _ tr_1v1035 
    · replace c2131 := c_eq tr_4v1027 lit_0 c2131
      exact hp _ _ lit_m1 
set_option maxHeartbeats 4000000 in
set_option maxRecDepth 100000 in
theorem sX10_heats_32 {T D : Int} {k : Nat} {post : Int32 → Wd → Prop}   (hp : ∀ (r : Int32) (zr : Int) (w9 : Wd), Ti r zr → IX k T D w9 → post r w9) : ∀ (n : Nat) (x1 : Int32) (x2 : Int32) (x3 : Int32) (x4 : Int32) (x5 : Int32) (zx1 : Int) (zx2 : Int) (zx3 : Int) (zx4 : Int) (zx5 : Int) (w : Wd), Ti x1 zx1 → Ti x2 zx2 → Ti x3 zx3 → Ti x4 zx4 → Ti x5 zx5 → IX k T D w → (0 ≤ zx5 ∧ zx5 ≤ 10) → (0 ≤ zx1 ∧ zx1 ≤ 23) → (11 - zx5) < (n : Int) → pX10_heats_32   post  n x1 x2 x3 x4 x5 w := by
  intro n
  induction n with
  | zero =>
    intro x1 x2 x3 x4 x5 zx1 zx2 zx3 zx4 zx5 w tx1 tx2 tx3 tx4 tx5 hI h0 h1 hm
    exact absurd hm (by omega)
  | succ n ih =>
    intro x1 x2 x3 x4 x5 zx1 zx2 zx3 zx4 zx5 w tx1 tx2 tx3 tx4 tx5 hI h0 h1 hm
    unfold pX10_heats_32
    have hk := ix_k hI
    refine ⟨fun c2139 => ?_, fun c2139 => ?_⟩
    · replace c2139 := c_le lit_10 tx5 c2139
      exact hp _ _ _  tx4 hI 
    · replace c2139 := c_nle lit_10 tx5 c2139
      refine ⟨vp_of tx1 (by omega) (by omega), ?_⟩
      obtain ⟨z2140, t2141⟩ := t_any (w.2.1 162 x1.toNatClampNeg)
      refine sX1_rowAfter   (hI := hI) (tx1 := t2141) (tx2 := tx2) (tx3 := tx5) (tx4 := lit_0)  (hp := fun r_2v1037 zr_2v1037 w_3v1038  tr_2v1037 hIw_3v1038  => ?_)
      refine ⟨fun c2142 => ?_, fun c2142 => ?_⟩
      · replace c2142 := c_neq tr_2v1037 tx3 c2142
        unfold pX10_heats_72
        obtain ⟨z2143, t2144, f2145⟩ := t_add tx5 lit_1
        first | replace f2145 := f2145 (by omega) | clear f2145
        intro x5_1v1040 ex5_1v1040
        have tx5_1v1040 : Ti x5_1v1040 z2143 := by rw [ex5_1v1040]; exact t2144
        exact ih _ _ _ _ _ _ _ _ _ _ _ tx1 tx2 tx3 tx4 tx5_1v1040 hIw_3v1038 (by omega) (by omega) (by omega)
      · replace c2142 := c_eq tr_2v1037 tx3 c2142
        obtain ⟨z2146, t2147⟩ := t_any (x4 ||| ((1 : Int32) <<< (x5 &&& 31)))
        intro x4_5v1039 ex4_5v1039
        have tx4_5v1039 : Ti x4_5v1039 z2146 := by rw [ex4_5v1039]; exact t2147
        unfold pX10_heats_72
        obtain ⟨z2148, t2149, f2150⟩ := t_add tx5 lit_1
        first | replace f2150 := f2150 (by omega) | clear f2150
        intro x5_1v1041 ex5_1v1041
        have tx5_1v1041 : Ti x5_1v1041 z2148 := by rw [ex5_1v1041]; exact t2149
        exact ih _ _ _ _ _ _ _ _ _ _ _ tx1 tx2 tx3 tx4_5v1039 tx5_1v1041 hIw_3v1038 (by omega) (by omega) (by omega)
set_option maxHeartbeats 4000000 in
set_option maxRecDepth 100000 in
theorem sX10_heats {T D : Int} {k : Nat} {post : Int32 → Wd → Prop} {x1 : Int32} {zx1 : Int} {x2 : Int32} {zx2 : Int} {x3 : Int32} {zx3 : Int} {w : Wd}  (tx1 : Ti x1 zx1) (tx2 : Ti x2 zx2) (tx3 : Ti x3 zx3) (hI : IX k T D w)  (hp : ∀ (r : Int32) (zr : Int) (w9 : Wd), Ti r zr → IX k T D w9 → post r w9) : pX10_heats   post  x1 x2 x3 w := by
  unfold pX10_heats
  have hk := ix_k hI
  refine sX10_isSeal   (hI := hI) (tx1 := tx1)  (hp := fun r_1v1042 zr_1v1042 tr_1v1042 p2151 => ?_)
  refine ⟨fun c2152 => ?_, fun c2152 => ?_⟩
  · replace c2152 := c_eq tr_1v1042 lit_0 c2152
    exact hp _ _ _  lit_m1 hI 
  · replace c2152 := c_neq tr_1v1042 lit_0 c2152
    refine sX10_isHand   (hI := hI) (tx1 := tx2)  (hp := fun r_4v1048 zr_4v1048 tr_4v1048 p2153 => ?_)
    refine ⟨fun c2154 => ?_, fun c2154 => ?_⟩
    · replace c2154 := c_eq tr_4v1048 lit_0 c2154
      exact hp _ _ _  lit_m1 hI 
    · replace c2154 := c_neq tr_4v1048 lit_0 c2154
      refine sX10_isRow   (hI := hI) (tx1 := tx3)  (hp := fun r_7v1052 zr_7v1052 tr_7v1052 p2155 => ?_)
      refine ⟨fun c2156 => ?_, fun c2156 => ?_⟩
      · replace c2156 := c_neq tr_7v1052 lit_0 c2156
        exact ⟨70000, sX10_heats_32    (hp := hp) 70000 _ _ _ _ _ _ _ _ _ _ _ tx1 tx2 tx3 lit_0 lit_0 hI (by omega) (by omega) (by omega)⟩
      · replace c2156 := c_eq tr_7v1052 lit_0 c2156
        exact hp _ _ _  lit_m1 hI 
set_option maxHeartbeats 4000000 in
set_option maxRecDepth 100000 in
theorem sX10_luck_27 {T D : Int} {k : Nat} {post : Int32 → Wd → Prop}   (hp : ∀ (r : Int32) (zr : Int) (w9 : Wd), Ti r zr → IX k T D w9 → post r w9) : ∀ (n : Nat) (x1 : Int32) (x2 : Int32) (x3 : Int32) (x4 : Int32) (x5 : Int32) (x6 : Int32) (zx1 : Int) (zx2 : Int) (zx3 : Int) (zx4 : Int) (zx5 : Int) (zx6 : Int) (w : Wd), Ti x1 zx1 → Ti x2 zx2 → Ti x3 zx3 → Ti x4 zx4 → Ti x5 zx5 → Ti x6 zx6 → IX k T D w → (0 ≤ zx6 ∧ zx6 ≤ 100) → (0 ≤ zx1 ∧ zx1 ≤ 23) → (101 - zx6) < (n : Int) → pX10_luck_27   post  n x1 x2 x3 x4 x5 x6 w := by
  intro n
  induction n with
  | zero =>
    intro x1 x2 x3 x4 x5 x6 zx1 zx2 zx3 zx4 zx5 zx6 w tx1 tx2 tx3 tx4 tx5 tx6 hI h0 h1 hm
    exact absurd hm (by omega)
  | succ n ih =>
    intro x1 x2 x3 x4 x5 x6 zx1 zx2 zx3 zx4 zx5 zx6 w tx1 tx2 tx3 tx4 tx5 tx6 hI h0 h1 hm
    unfold pX10_luck_27
    have hk := ix_k hI
    refine ⟨fun c2157 => ?_, fun c2157 => ?_⟩
    · replace c2157 := c_le lit_100 tx6 c2157
      exact hp _ _ _  tx5 hI 
    · replace c2157 := c_nle lit_100 tx6 c2157
      refine ⟨vp_of tx1 (by omega) (by omega), ?_⟩
      obtain ⟨z2158, t2159⟩ := t_any (w.2.1 162 x1.toNatClampNeg)
      refine sX1_rowAfter   (hI := hI) (tx1 := t2159) (tx2 := tx2) (tx3 := tx3) (tx4 := tx6)  (hp := fun r_2v1054 zr_2v1054 w_3v1055  tr_2v1054 hIw_3v1055  => ?_)
      refine ⟨fun c2160 => ?_, fun c2160 => ?_⟩
      · replace c2160 := c_neq tr_2v1054 tx4 c2160
        unfold pX10_luck_62
        obtain ⟨z2161, t2162, f2163⟩ := t_add tx6 lit_1
        first | replace f2163 := f2163 (by omega) | clear f2163
        intro x6_1v1057 ex6_1v1057
        have tx6_1v1057 : Ti x6_1v1057 z2161 := by rw [ex6_1v1057]; exact t2162
        exact ih _ _ _ _ _ _ _ _ _ _ _ _ _ tx1 tx2 tx3 tx4 tx5 tx6_1v1057 hIw_3v1055 (by omega) (by omega) (by omega)
      · replace c2160 := c_eq tr_2v1054 tx4 c2160
        obtain ⟨z2164, t2165, f2166⟩ := t_add tx5 lit_1
        first | replace f2166 := f2166 (by omega) | clear f2166
        intro x5_5v1056 ex5_5v1056
        have tx5_5v1056 : Ti x5_5v1056 z2164 := by rw [ex5_5v1056]; exact t2165
        unfold pX10_luck_62
        obtain ⟨z2167, t2168, f2169⟩ := t_add tx6 lit_1
        first | replace f2169 := f2169 (by omega) | clear f2169
        intro x6_1v1058 ex6_1v1058
        have tx6_1v1058 : Ti x6_1v1058 z2167 := by rw [ex6_1v1058]; exact t2168
        exact ih _ _ _ _ _ _ _ _ _ _ _ _ _ tx1 tx2 tx3 tx4 tx5_5v1056 tx6_1v1058 hIw_3v1055 (by omega) (by omega) (by omega)
set_option maxHeartbeats 4000000 in
set_option maxRecDepth 100000 in
theorem sX10_luck {T D : Int} {k : Nat} {post : Int32 → Wd → Prop} {x1 : Int32} {zx1 : Int} {x2 : Int32} {zx2 : Int} {x3 : Int32} {zx3 : Int} {x4 : Int32} {zx4 : Int} {w : Wd}  (tx1 : Ti x1 zx1) (tx2 : Ti x2 zx2) (tx3 : Ti x3 zx3) (tx4 : Ti x4 zx4) (hI : IX k T D w)  (hp : ∀ (r : Int32) (zr : Int) (w9 : Wd), Ti r zr → IX k T D w9 → post r w9) : pX10_luck   post  x1 x2 x3 x4 w := by
  unfold pX10_luck
  have hk := ix_k hI
  refine sX10_canCast   (hI := hI) (tx1 := tx1) (tx2 := tx2) (tx3 := tx3)  (hp := fun r_1v1059 zr_1v1059 tr_1v1059 p2170 => ?_)
  refine ⟨fun c2171 => ?_, fun c2171 => ?_⟩
  · replace c2171 := c_eq tr_1v1059 lit_0 c2171
    exact hp _ _ _  lit_m1 hI 
  · replace c2171 := c_neq tr_1v1059 lit_0 c2171
    refine sX10_isRow   (hI := hI) (tx1 := tx4)  (hp := fun r_4v1063 zr_4v1063 tr_4v1063 p2172 => ?_)
    refine ⟨fun c2173 => ?_, fun c2173 => ?_⟩
    · replace c2173 := c_neq tr_4v1063 lit_0 c2173
      exact ⟨70000, sX10_luck_27    (hp := hp) 70000 _ _ _ _ _ _ _ _ _ _ _ _ _ tx1 tx2 tx3 tx4 lit_0 lit_0 hI (by omega) (by omega) (by omega)⟩
    · replace c2173 := c_eq tr_4v1063 lit_0 c2173
      exact hp _ _ _  lit_m1 hI 
set_option maxHeartbeats 4000000 in
set_option maxRecDepth 100000 in
theorem sX10_clearByRow_2 {T D : Int} {k : Nat} {post : Wd → Prop}   (hp : ∀ (w9 : Wd), IX k T D w9 → post w9) : ∀ (n : Nat) (x1 : Int32) (zx1 : Int) (w : Wd), Ti x1 zx1 → IX k T D w → (0 ≤ zx1 ∧ zx1 ≤ 4096) → (4097 - zx1) < (n : Int) → pX10_clearByRow_2   post  n x1 w := by
  intro n
  induction n with
  | zero =>
    intro x1 zx1 w tx1 hI h0 hm
    exact absurd hm (by omega)
  | succ n ih =>
    intro x1 zx1 w tx1 hI h0 hm
    unfold pX10_clearByRow_2
    have hk := ix_k hI
    refine sX7_rows   (hI := hI)   (hp := fun r_1v1065 zr_1v1065 tr_1v1065 p2174 => ?_)
    refine ⟨fun c2175 => ?_, fun c2175 => ?_⟩
    · replace c2175 := c_le tr_1v1065 tx1 c2175
      exact hp  _   hI 
    · replace c2175 := c_nle tr_1v1065 tx1 c2175
      refine ⟨vp_of tx1 (by omega) (by omega), ?_⟩
      intro w_4v1069 ew_4v1069
      have hIw_4v1069 := ixs_A hI ew_4v1069 (by decide)
      obtain ⟨z2176, t2177, f2178⟩ := t_add tx1 lit_1
      first | replace f2178 := f2178 (by omega) | clear f2178
      intro x1_5v1070 ex1_5v1070
      have tx1_5v1070 : Ti x1_5v1070 z2176 := by rw [ex1_5v1070]; exact t2177
      exact ih _ _ _ tx1_5v1070 hIw_4v1069 (by omega) (by omega)
set_option maxHeartbeats 4000000 in
set_option maxRecDepth 100000 in
theorem sX10_clearByRow {T D : Int} {k : Nat} {post : Wd → Prop}  {w : Wd}   (hI : IX k T D w)  (hp : ∀ (w9 : Wd), IX k T D w9 → post w9) : pX10_clearByRow   post   w := by
  unfold pX10_clearByRow
  have hk := ix_k hI
  exact ⟨70000, sX10_clearByRow_2    (hp := hp) 70000 _ _ _ lit_0 hI (by omega) (by omega)⟩
set_option maxHeartbeats 4000000 in
set_option maxRecDepth 100000 in
theorem sX10_likely_91 {T D : Int} {k : Nat} {post : Int32 → Wd → Prop}   (hp : ∀ (r : Int32) (zr : Int) (w9 : Wd), Ti r zr → IX k T D w9 → post r w9) : ∀ (n : Nat) (x4 : Int32) (x5 : Int32) (x6 : Int32) (zx4 : Int) (zx5 : Int) (zx6 : Int) (w : Wd), Ti x4 zx4 → Ti x5 zx5 → Ti x6 zx6 → IX k T D w → (0 ≤ zx6 ∧ zx6 ≤ 4096) → (0 ≤ zx5 ∧ zx5 ≤ 4095) → (4097 - zx6) < (n : Int) → pX10_likely_91   post  n x4 x5 x6 w := by
  intro n
  induction n with
  | zero =>
    intro x4 x5 x6 zx4 zx5 zx6 w tx4 tx5 tx6 hI h0 h1 hm
    exact absurd hm (by omega)
  | succ n ih =>
    intro x4 x5 x6 zx4 zx5 zx6 w tx4 tx5 tx6 hI h0 h1 hm
    unfold pX10_likely_91
    have hk := ix_k hI
    refine sX7_rows   (hI := hI)   (hp := fun r_1v1071 zr_1v1071 tr_1v1071 p2179 => ?_)
    refine ⟨fun c2180 => ?_, fun c2180 => ?_⟩
    · replace c2180 := c_le tr_1v1071 tx6 c2180
      refine ⟨fun c2181 => ?_, fun c2181 => ?_⟩
      · replace c2181 := c_neq tx4 lit_0 c2181
        refine ⟨vp_of tx5 (by omega) (by omega), ?_⟩
        obtain ⟨z2182, t2183⟩ := t_any (w.2.1 13 x5.toNatClampNeg)
        exact hp _ _ _  t2183 hI 
      · replace c2181 := c_eq tx4 lit_0 c2181
        exact hp _ _ _  tx5 hI 
    · replace c2180 := c_nle tr_1v1071 tx6 c2180
      refine ⟨vp_of tx6 (by omega) (by omega), ?_⟩
      refine ⟨vp_of tx5 (by omega) (by omega), ?_⟩
      obtain ⟨z2184, t2185⟩ := t_any (w.2.1 13 x6.toNatClampNeg)
      obtain ⟨z2186, t2187⟩ := t_any (w.2.1 13 x5.toNatClampNeg)
      refine ⟨fun c2188 => ?_, fun c2188 => ?_⟩
      · replace c2188 := c_le t2185 t2187 c2188
        unfold pX10_likely_124
        obtain ⟨z2189, t2190, f2191⟩ := t_add tx6 lit_1
        first | replace f2191 := f2191 (by omega) | clear f2191
        intro x6_1v1073 ex6_1v1073
        have tx6_1v1073 : Ti x6_1v1073 z2189 := by rw [ex6_1v1073]; exact t2190
        exact ih _ _ _ _ _ _ _ tx4 tx5 tx6_1v1073 hI (by omega) (by omega) (by omega)
      · replace c2188 := c_nle t2185 t2187 c2188
        unfold pX10_likely_124
        obtain ⟨z2192, t2193, f2194⟩ := t_add tx6 lit_1
        first | replace f2194 := f2194 (by omega) | clear f2194
        intro x6_1v1074 ex6_1v1074
        have tx6_1v1074 : Ti x6_1v1074 z2192 := by rw [ex6_1v1074]; exact t2193
        exact ih _ _ _ _ _ _ _ tx4 tx6 tx6_1v1074 hI (by omega) (by omega) (by omega)
set_option maxHeartbeats 4000000 in
set_option maxRecDepth 100000 in
theorem sX10_likely_30 {T D : Int} {k : Nat} {post : Int32 → Wd → Prop}   (hp : ∀ (r : Int32) (zr : Int) (w9 : Wd), Ti r zr → IX k T D w9 → post r w9) : ∀ (n : Nat) (x1 : Int32) (x2 : Int32) (x3 : Int32) (x4 : Int32) (x5 : Int32) (zx1 : Int) (zx2 : Int) (zx3 : Int) (zx4 : Int) (zx5 : Int) (w : Wd), Ti x1 zx1 → Ti x2 zx2 → Ti x3 zx3 → Ti x4 zx4 → Ti x5 zx5 → IX k T D w → (0 ≤ zx5 ∧ zx5 ≤ 100) → (0 ≤ zx1 ∧ zx1 ≤ 23) → (101 - zx5) < (n : Int) → pX10_likely_30   post  n x1 x2 x3 x4 x5 w := by
  intro n
  induction n with
  | zero =>
    intro x1 x2 x3 x4 x5 zx1 zx2 zx3 zx4 zx5 w tx1 tx2 tx3 tx4 tx5 hI h0 h1 hm
    exact absurd hm (by omega)
  | succ n ih =>
    intro x1 x2 x3 x4 x5 zx1 zx2 zx3 zx4 zx5 w tx1 tx2 tx3 tx4 tx5 hI h0 h1 hm
    unfold pX10_likely_30
    have hk := ix_k hI
    refine ⟨fun c2195 => ?_, fun c2195 => ?_⟩
    · replace c2195 := c_le lit_100 tx5 c2195
      exact ⟨70000, sX10_likely_91    (hp := hp) 70000 _ _ _ _ _ _ _ tx4 lit_0 lit_1 hI (by omega) (by omega) (by omega)⟩
    · replace c2195 := c_nle lit_100 tx5 c2195
      refine ⟨vp_of tx1 (by omega) (by omega), ?_⟩
      obtain ⟨z2196, t2197⟩ := t_any (w.2.1 162 x1.toNatClampNeg)
      refine sX1_rowAfter   (hI := hI) (tx1 := t2197) (tx2 := tx2) (tx3 := tx3) (tx4 := tx5)  (hp := fun r_2v1075 zr_2v1075 w_3v1076  tr_2v1075 hIw_3v1076  => ?_)
      refine sX10_isRow   (hI := hIw_3v1076) (tx1 := tr_2v1075)  (hp := fun r_4v1077 zr_4v1077 tr_4v1077 p2198 => ?_)
      refine ⟨fun c2199 => ?_, fun c2199 => ?_⟩
      · replace c2199 := c_eq tr_4v1077 lit_0 c2199
        unfold pX10_likely_79
        obtain ⟨z2200, t2201, f2202⟩ := t_add tx5 lit_1
        first | replace f2202 := f2202 (by omega) | clear f2202
        intro x5_1v1081 ex5_1v1081
        have tx5_1v1081 : Ti x5_1v1081 z2200 := by rw [ex5_1v1081]; exact t2201
        exact ih _ _ _ _ _ _ _ _ _ _ _ tx1 tx2 tx3 tx4 tx5_1v1081 hIw_3v1076 (by omega) (by omega) (by omega)
      · replace c2199 := c_neq tr_4v1077 lit_0 c2199
        refine ⟨vp_of tr_2v1075 (by omega) (by omega), ?_⟩
        refine ⟨vp_of tr_2v1075 (by omega) (by omega), ?_⟩
        intro w_7v1080 ew_7v1080
        have hIw_7v1080 := ixs_A hIw_3v1076 ew_7v1080 (by decide)
        unfold pX10_likely_79
        obtain ⟨z2203, t2204, f2205⟩ := t_add tx5 lit_1
        first | replace f2205 := f2205 (by omega) | clear f2205
        intro x5_1v1082 ex5_1v1082
        have tx5_1v1082 : Ti x5_1v1082 z2203 := by rw [ex5_1v1082]; exact t2204
        exact ih _ _ _ _ _ _ _ _ _ _ _ tx1 tx2 tx3 tx4 tx5_1v1082 hIw_7v1080 (by omega) (by omega) (by omega)
set_option maxHeartbeats 4000000 in
set_option maxRecDepth 100000 in
theorem sX10_likely {T D : Int} {k : Nat} {post : Int32 → Wd → Prop} {x1 : Int32} {zx1 : Int} {x2 : Int32} {zx2 : Int} {x3 : Int32} {zx3 : Int} {x4 : Int32} {zx4 : Int} {w : Wd}  (tx1 : Ti x1 zx1) (tx2 : Ti x2 zx2) (tx3 : Ti x3 zx3) (tx4 : Ti x4 zx4) (hI : IX k T D w)  (hp : ∀ (r : Int32) (zr : Int) (w9 : Wd), Ti r zr → IX k T D w9 → post r w9) : pX10_likely   post  x1 x2 x3 x4 w := by
  unfold pX10_likely
  have hk := ix_k hI
  refine sX10_canCast   (hI := hI) (tx1 := tx1) (tx2 := tx2) (tx3 := tx3)  (hp := fun r_1v1083 zr_1v1083 tr_1v1083 p2206 => ?_)
  refine ⟨fun c2207 => ?_, fun c2207 => ?_⟩
  · replace c2207 := c_eq tr_1v1083 lit_0 c2207
    exact hp _ _ _  lit_m1 hI 
  · replace c2207 := c_neq tr_1v1083 lit_0 c2207
    refine ⟨fun c2208 => ?_, fun c2208 => ?_⟩
    · replace c2208 := c_lt tx4 lit_0 c2208
      exact hp _ _ _  lit_m1 hI 
    · replace c2208 := c_nlt tx4 lit_0 c2208
      refine ⟨fun c2209 => ?_, fun c2209 => ?_⟩
      · replace c2209 := c_le tx4 lit_1 c2209
        refine sX10_clearByRow   (hI := hI)   (hp := fun  w_6v1086   hIw_6v1086  => ?_)
        exact ⟨70000, sX10_likely_30    (hp := hp) 70000 _ _ _ _ _ _ _ _ _ _ _ tx1 tx2 tx3 tx4 lit_0 hIw_6v1086 (by omega) (by omega) (by omega)⟩
      · replace c2209 := c_nle tx4 lit_1 c2209
        exact hp _ _ _  lit_m1 hI 
set_option maxHeartbeats 4000000 in
set_option maxRecDepth 100000 in
theorem sX10_goRound_10 {T D : Int} {k : Nat} {post : Int32 → Wd → Prop}   (hp : ∀ (r : Int32) (zr : Int) (w9 : Wd), Ti r zr → IX k T D w9 → post r w9) : ∀ (n : Nat) (x2 : Int32) (x3 : Int32) (x4 : Int32) (x5 : Int32) (zx2 : Int) (zx3 : Int) (zx4 : Int) (zx5 : Int) (w : Wd), Ti x2 zx2 → Ti x3 zx3 → Ti x4 zx4 → Ti x5 zx5 → IX k T D w → (0 ≤ zx5 ∧ zx5 ≤ 4097) → (4098 - zx5) < (n : Int) → pX10_goRound_10   post  n x2 x3 x4 x5 w := by
  intro n
  induction n with
  | zero =>
    intro x2 x3 x4 x5 zx2 zx3 zx4 zx5 w tx2 tx3 tx4 tx5 hI h0 hm
    exact absurd hm (by omega)
  | succ n ih =>
    intro x2 x3 x4 x5 zx2 zx3 zx4 zx5 w tx2 tx3 tx4 tx5 hI h0 hm
    unfold pX10_goRound_10
    have hk := ix_k hI
    refine sX7_rows   (hI := hI)   (hp := fun r_1v1087 zr_1v1087 tr_1v1087 p2210 => ?_)
    refine ⟨fun c2211 => ?_, fun c2211 => ?_⟩
    · replace c2211 := c_lt tr_1v1087 tx5 c2211
      exact hp _ _ _  tx4 hI 
    · replace c2211 := c_nlt tr_1v1087 tx5 c2211
      refine sX10_isRow   (hI := hI) (tx1 := tx4)  (hp := fun r_4v1095 zr_4v1095 tr_4v1095 p2212 => ?_)
      refine ⟨fun c2213 => ?_, fun c2213 => ?_⟩
      · replace c2213 := c_eq tr_4v1095 lit_0 c2213
        exact hp _ _ _  tx4 hI 
      · replace c2213 := c_neq tr_4v1095 lit_0 c2213
        refine ⟨vp_of tx4 (by omega) (by omega), ?_⟩
        obtain ⟨z2214, t2215⟩ := t_any (w.2.1 13 x4.toNatClampNeg)
        refine ⟨fun c2216 => ?_, fun c2216 => ?_⟩
        · replace c2216 := c_neq t2215 lit_0 c2216
          exact hp _ _ _  tx4 hI 
        · replace c2216 := c_eq t2215 lit_0 c2216
          refine ⟨vp_of tx4 (by omega) (by omega), ?_⟩
          intro w_8v1101 ew_8v1101
          have hIw_8v1101 := ixs_A hI ew_8v1101 (by decide)
          refine sX1_rowAfter   (hI := hIw_8v1101) (tx1 := tx4) (tx2 := tx2) (tx3 := tx3) (tx4 := lit_0)  (hp := fun r_9v1102 zr_9v1102 w_10v1103  tr_9v1102 hIw_10v1103  => ?_)
          obtain ⟨z2217, t2218, f2219⟩ := t_add tx5 lit_1
          first | replace f2219 := f2219 (by omega) | clear f2219
          intro x5_11v1104 ex5_11v1104
          have tx5_11v1104 : Ti x5_11v1104 z2217 := by rw [ex5_11v1104]; exact t2218
          exact ih _ _ _ _ _ _ _ _ _ tx2 tx3 tr_9v1102 tx5_11v1104 hIw_10v1103 (by omega) (by omega)
set_option maxHeartbeats 4000000 in
set_option maxRecDepth 100000 in
theorem sX10_goRound {T D : Int} {k : Nat} {post : Int32 → Wd → Prop} {x1 : Int32} {zx1 : Int} {x2 : Int32} {zx2 : Int} {x3 : Int32} {zx3 : Int} {w : Wd}  (tx1 : Ti x1 zx1) (tx2 : Ti x2 zx2) (tx3 : Ti x3 zx3) (hI : IX k T D w)  (hp : ∀ (r : Int32) (zr : Int) (w9 : Wd), Ti r zr → IX k T D w9 → post r w9) : pX10_goRound   post  x1 x2 x3 w := by
  unfold pX10_goRound
  have hk := ix_k hI
  refine sX10_clearByRow   (hI := hI)   (hp := fun  w_1v1105   hIw_1v1105  => ?_)
  exact ⟨70000, sX10_goRound_10    (hp := hp) 70000 _ _ _ _ _ _ _ _ _ tx2 tx3 tx1 lit_1 hIw_1v1105 (by omega) (by omega)⟩
set_option maxHeartbeats 4000000 in
set_option maxRecDepth 100000 in
theorem sX10_fades {T D : Int} {k : Nat} {post : Int32 → Wd → Prop} {x1 : Int32} {zx1 : Int} {x2 : Int32} {zx2 : Int} {x3 : Int32} {zx3 : Int} {w : Wd}  (tx1 : Ti x1 zx1) (tx2 : Ti x2 zx2) (tx3 : Ti x3 zx3) (hI : IX k T D w)  (hp : ∀ (r : Int32) (zr : Int) (w9 : Wd), Ti r zr → IX k T D w9 → post r w9) : pX10_fades   post  x1 x2 x3 w := by
  unfold pX10_fades
  have hk := ix_k hI
  refine sX10_canCast   (hI := hI) (tx1 := tx1) (tx2 := tx2) (tx3 := tx3)  (hp := fun r_1v1106 zr_1v1106 tr_1v1106 p2220 => ?_)
  refine ⟨fun c2221 => ?_, fun c2221 => ?_⟩
  · replace c2221 := c_neq tr_1v1106 lit_0 c2221
    refine ⟨vp_of tx1 (by omega) (by omega), ?_⟩
    obtain ⟨z2222, t2223⟩ := t_any (w.2.1 162 x1.toNatClampNeg)
    refine sX10_goRound   (hI := hI) (tx1 := t2223) (tx2 := tx2) (tx3 := tx3)  (hp := fun r_4v1110 zr_4v1110 w_5v1111  tr_4v1110 hIw_5v1111  => ?_)
    obtain ⟨z2224, t2225⟩ := t_any (w_5v1111.2.1 13 (0 : Int32).toNatClampNeg)
    obtain ⟨z2226, t2227, f2228⟩ := t_sub t2225 lit_1
    first | replace f2228 := f2228 (by omega) | clear f2228
    exact hp _ _ _  t2227 hIw_5v1111 
  · replace c2221 := c_eq tr_1v1106 lit_0 c2221
    exact hp _ _ _  lit_m1 hI 
set_option maxHeartbeats 4000000 in
set_option maxRecDepth 100000 in
theorem sX10_kin_36 {T D : Int} {k : Nat} {post : Int32 → Wd → Prop} {w : Wd}  (hp : ∀ (r : Int32) (zr : Int), Ti r zr → post r w) : ∀ (n : Nat) (x1 : Int32) (x2 : Int32) (x3 : Int32) (x4 : Int32) (x5 : Int32) (x6 : Int32) (zx1 : Int) (zx2 : Int) (zx3 : Int) (zx4 : Int) (zx5 : Int) (zx6 : Int), Ti x1 zx1 → Ti x2 zx2 → Ti x3 zx3 → Ti x4 zx4 → Ti x5 zx5 → Ti x6 zx6 → IX k T D w → (0 ≤ zx6 ∧ zx6 ≤ 48) → (0 ≤ zx1 ∧ zx1 ≤ 23) → (0 ≤ zx2 ∧ zx2 ≤ 23) → (49 - zx6) < (n : Int) → pX10_kin_36   post  n x1 x2 x3 x4 x5 x6 w := by
  intro n
  induction n with
  | zero =>
    intro x1 x2 x3 x4 x5 x6 zx1 zx2 zx3 zx4 zx5 zx6  tx1 tx2 tx3 tx4 tx5 tx6 hI h0 h1 h2 hm
    exact absurd hm (by omega)
  | succ n ih =>
    intro x1 x2 x3 x4 x5 x6 zx1 zx2 zx3 zx4 zx5 zx6  tx1 tx2 tx3 tx4 tx5 tx6 hI h0 h1 h2 hm
    unfold pX10_kin_36
    have hk := ix_k hI
    refine ⟨fun c2229 => ?_, fun c2229 => ?_⟩
    · replace c2229 := c_le lit_48 tx6 c2229
      unfold pX10_kin_108
      refine ⟨fun c2230 => ?_, fun c2230 => ?_⟩
      · replace c2230 := c_eq tx3 lit_0 c2230
        exact hp _ _ tx4 
      · replace c2230 := c_neq tx3 lit_0 c2230
        refine sX10_isSeal   (hI := hI) (tx1 := tx4)  (hp := fun r_2v1118 zr_2v1118 tr_2v1118 p2231 => ?_)
        refine ⟨fun c2232 => ?_, fun c2232 => ?_⟩
        · replace c2232 := c_neq tr_2v1118 lit_0 c2232
          refine ⟨vp_of tx1 (by omega) (by omega), ?_⟩
          refine ⟨vp_of tx2 (by omega) (by omega), ?_⟩
          refine ⟨vp_of tx4 (by omega) (by omega), ?_⟩
          obtain ⟨z2233, t2234⟩ := t_any (w.2.1 166 x1.toNatClampNeg)
          obtain ⟨z2235, t2236⟩ := t_any (w.2.1 166 x2.toNatClampNeg)
          obtain ⟨z2237, t2238, f2239⟩ := t_add t2234 t2236
          first | replace f2239 := f2239 (by omega) | clear f2239
          obtain ⟨z2240, t2241⟩ := t_any (w.2.1 166 x4.toNatClampNeg)
          obtain ⟨z2242, t2243, f2244⟩ := t_mul lit_2 t2241
          first | replace f2244 := f2244 (by omega) | clear f2244
          obtain ⟨z2245, t2246, f2247⟩ := t_sub t2238 t2243
          first | replace f2247 := f2247 (by omega) | clear f2247
          exact hp _ _ t2246 
        · replace c2232 := c_eq tr_2v1118 lit_0 c2232
          exact hp _ _ tx4 
    · replace c2229 := c_nle lit_48 tx6 c2229
      refine ⟨fun c2248 => ?_, fun c2248 => ?_⟩
      · replace c2248 := c_eq tx4 tx5 c2248
        unfold pX10_kin_108
        refine ⟨fun c2249 => ?_, fun c2249 => ?_⟩
        · replace c2249 := c_eq tx3 lit_0 c2249
          exact hp _ _ tx4 
        · replace c2249 := c_neq tx3 lit_0 c2249
          refine sX10_isSeal   (hI := hI) (tx1 := tx4)  (hp := fun r_2v1120 zr_2v1120 tr_2v1120 p2250 => ?_)
          refine ⟨fun c2251 => ?_, fun c2251 => ?_⟩
          · replace c2251 := c_neq tr_2v1120 lit_0 c2251
            refine ⟨vp_of tx1 (by omega) (by omega), ?_⟩
            refine ⟨vp_of tx2 (by omega) (by omega), ?_⟩
            refine ⟨vp_of tx4 (by omega) (by omega), ?_⟩
            obtain ⟨z2252, t2253⟩ := t_any (w.2.1 166 x1.toNatClampNeg)
            obtain ⟨z2254, t2255⟩ := t_any (w.2.1 166 x2.toNatClampNeg)
            obtain ⟨z2256, t2257, f2258⟩ := t_add t2253 t2255
            first | replace f2258 := f2258 (by omega) | clear f2258
            obtain ⟨z2259, t2260⟩ := t_any (w.2.1 166 x4.toNatClampNeg)
            obtain ⟨z2261, t2262, f2263⟩ := t_mul lit_2 t2260
            first | replace f2263 := f2263 (by omega) | clear f2263
            obtain ⟨z2264, t2265, f2266⟩ := t_sub t2257 t2262
            first | replace f2266 := f2266 (by omega) | clear f2266
            exact hp _ _ t2265 
          · replace c2251 := c_eq tr_2v1120 lit_0 c2251
            exact hp _ _ tx4 
      · replace c2248 := c_neq tx4 tx5 c2248
        refine sX10_isSeal   (hI := hI) (tx1 := tx4)  (hp := fun r_3v1112 zr_3v1112 tr_3v1112 p2267 => ?_)
        refine ⟨fun c2268 => ?_, fun c2268 => ?_⟩
        · replace c2268 := c_eq tr_3v1112 lit_0 c2268
          unfold pX10_kin_108
          refine ⟨fun c2269 => ?_, fun c2269 => ?_⟩
          · replace c2269 := c_eq tx3 lit_0 c2269
            exact hp _ _ tx4 
          · replace c2269 := c_neq tx3 lit_0 c2269
            refine sX10_isSeal   (hI := hI) (tx1 := tx4)  (hp := fun r_2v1126 zr_2v1126 tr_2v1126 p2270 => ?_)
            refine ⟨fun c2271 => ?_, fun c2271 => ?_⟩
            · replace c2271 := c_neq tr_2v1126 lit_0 c2271
              refine ⟨vp_of tx1 (by omega) (by omega), ?_⟩
              refine ⟨vp_of tx2 (by omega) (by omega), ?_⟩
              refine ⟨vp_of tx4 (by omega) (by omega), ?_⟩
              obtain ⟨z2272, t2273⟩ := t_any (w.2.1 166 x1.toNatClampNeg)
              obtain ⟨z2274, t2275⟩ := t_any (w.2.1 166 x2.toNatClampNeg)
              obtain ⟨z2276, t2277, f2278⟩ := t_add t2273 t2275
              first | replace f2278 := f2278 (by omega) | clear f2278
              obtain ⟨z2279, t2280⟩ := t_any (w.2.1 166 x4.toNatClampNeg)
              obtain ⟨z2281, t2282, f2283⟩ := t_mul lit_2 t2280
              first | replace f2283 := f2283 (by omega) | clear f2283
              obtain ⟨z2284, t2285, f2286⟩ := t_sub t2277 t2282
              first | replace f2286 := f2286 (by omega) | clear f2286
              exact hp _ _ t2285 
            · replace c2271 := c_eq tr_2v1126 lit_0 c2271
              exact hp _ _ tx4 
        · replace c2268 := c_neq tr_3v1112 lit_0 c2268
          refine sX10_isSeal   (hI := hI) (tx1 := tx5)  (hp := fun r_6v1122 zr_6v1122 tr_6v1122 p2287 => ?_)
          refine ⟨fun c2288 => ?_, fun c2288 => ?_⟩
          · replace c2288 := c_eq tr_6v1122 lit_0 c2288
            unfold pX10_kin_108
            refine ⟨fun c2289 => ?_, fun c2289 => ?_⟩
            · replace c2289 := c_eq tx3 lit_0 c2289
              exact hp _ _ tx4 
            · replace c2289 := c_neq tx3 lit_0 c2289
              refine sX10_isSeal   (hI := hI) (tx1 := tx4)  (hp := fun r_2v1130 zr_2v1130 tr_2v1130 p2290 => ?_)
              refine ⟨fun c2291 => ?_, fun c2291 => ?_⟩
              · replace c2291 := c_neq tr_2v1130 lit_0 c2291
                refine ⟨vp_of tx1 (by omega) (by omega), ?_⟩
                refine ⟨vp_of tx2 (by omega) (by omega), ?_⟩
                refine ⟨vp_of tx4 (by omega) (by omega), ?_⟩
                obtain ⟨z2292, t2293⟩ := t_any (w.2.1 166 x1.toNatClampNeg)
                obtain ⟨z2294, t2295⟩ := t_any (w.2.1 166 x2.toNatClampNeg)
                obtain ⟨z2296, t2297, f2298⟩ := t_add t2293 t2295
                first | replace f2298 := f2298 (by omega) | clear f2298
                obtain ⟨z2299, t2300⟩ := t_any (w.2.1 166 x4.toNatClampNeg)
                obtain ⟨z2301, t2302, f2303⟩ := t_mul lit_2 t2300
                first | replace f2303 := f2303 (by omega) | clear f2303
                obtain ⟨z2304, t2305, f2306⟩ := t_sub t2297 t2302
                first | replace f2306 := f2306 (by omega) | clear f2306
                exact hp _ _ t2305 
              · replace c2291 := c_eq tr_2v1130 lit_0 c2291
                exact hp _ _ tx4 
          · replace c2288 := c_neq tr_6v1122 lit_0 c2288
            refine ⟨fun c2307 => ?_, fun c2307 => ?_⟩
            · replace c2307 := c_le tx4 tx5 c2307
              refine ⟨vp_of tx5 (by omega) (by omega), ?_⟩
              obtain ⟨z2308, t2309⟩ := t_any (w.2.1 163 x5.toNatClampNeg)
              intro x5_10v1128 ex5_10v1128
              have tx5_10v1128 : Ti x5_10v1128 z2308 := by rw [ex5_10v1128]; exact t2309
              unfold pX10_kin_102
              obtain ⟨z2310, t2311, f2312⟩ := t_add tx6 lit_1
              first | replace f2312 := f2312 (by omega) | clear f2312
              intro x6_1v1132 ex6_1v1132
              have tx6_1v1132 : Ti x6_1v1132 z2310 := by rw [ex6_1v1132]; exact t2311
              exact ih _ _ _ _ _ _ _ _ _ _ _ _  tx1 tx2 tx3 tx4 tx5_10v1128 tx6_1v1132 hI (by omega) (by omega) (by omega) (by omega)
            · replace c2307 := c_nle tx4 tx5 c2307
              refine ⟨vp_of tx4 (by omega) (by omega), ?_⟩
              obtain ⟨z2313, t2314⟩ := t_any (w.2.1 163 x4.toNatClampNeg)
              intro x4_11v1129 ex4_11v1129
              have tx4_11v1129 : Ti x4_11v1129 z2313 := by rw [ex4_11v1129]; exact t2314
              unfold pX10_kin_102
              obtain ⟨z2315, t2316, f2317⟩ := t_add tx6 lit_1
              first | replace f2317 := f2317 (by omega) | clear f2317
              intro x6_1v1133 ex6_1v1133
              have tx6_1v1133 : Ti x6_1v1133 z2315 := by rw [ex6_1v1133]; exact t2316
              exact ih _ _ _ _ _ _ _ _ _ _ _ _  tx1 tx2 tx3 tx4_11v1129 tx5 tx6_1v1133 hI (by omega) (by omega) (by omega) (by omega)
set_option maxHeartbeats 4000000 in
set_option maxRecDepth 100000 in
theorem sX10_kin {T D : Int} {k : Nat} {post : Int32 → Wd → Prop} {x1 : Int32} {zx1 : Int} {x2 : Int32} {zx2 : Int} {x3 : Int32} {zx3 : Int} {w : Wd}  (tx1 : Ti x1 zx1) (tx2 : Ti x2 zx2) (tx3 : Ti x3 zx3) (hI : IX k T D w)  (hp : ∀ (r : Int32) (zr : Int), Ti r zr → post r w) : pX10_kin   post  x1 x2 x3 w := by
  unfold pX10_kin
  have hk := ix_k hI
  refine sX10_isSeal   (hI := hI) (tx1 := tx1)  (hp := fun r_1v1134 zr_1v1134 tr_1v1134 p2318 => ?_)
  refine ⟨fun c2319 => ?_, fun c2319 => ?_⟩
  · replace c2319 := c_eq tr_1v1134 lit_0 c2319
    exact hp _ _ lit_m1 
  · replace c2319 := c_neq tr_1v1134 lit_0 c2319
    refine sX10_isSeal   (hI := hI) (tx1 := tx2)  (hp := fun r_4v1138 zr_4v1138 tr_4v1138 p2320 => ?_)
    refine ⟨fun c2321 => ?_, fun c2321 => ?_⟩
    · replace c2321 := c_eq tr_4v1138 lit_0 c2321
      exact hp _ _ lit_m1 
    · replace c2321 := c_neq tr_4v1138 lit_0 c2321
      refine ⟨fun c2322 => ?_, fun c2322 => ?_⟩
      · replace c2322 := c_lt tx3 lit_0 c2322
        exact hp _ _ lit_m1 
      · replace c2322 := c_nlt tx3 lit_0 c2322
        refine ⟨fun c2323 => ?_, fun c2323 => ?_⟩
        · replace c2323 := c_le tx3 lit_1 c2323
          exact ⟨70000, sX10_kin_36    (hp := hp) 70000 _ _ _ _ _ _ _ _ _ _ _ _  tx1 tx2 tx3 tx1 tx2 lit_0 hI (by omega) (by omega) (by omega) (by omega)⟩
        · replace c2323 := c_nle tx3 lit_1 c2323
          exact hp _ _ lit_m1 
set_option maxHeartbeats 4000000 in
set_option maxRecDepth 100000 in
theorem sX10_thumb_20 {T D : Int} {k : Nat} {post : Int32 → Wd → Prop} {w : Wd}  (hp : ∀ (r : Int32) (zr : Int), Ti r zr → post r w) : ∀ (n : Nat) (x3 : Int32) (x4 : Int32) (x5 : Int32) (zx3 : Int) (zx4 : Int) (zx5 : Int), Ti x3 zx3 → Ti x4 zx4 → Ti x5 zx5 → IX k T D w → (0 ≤ zx5 ∧ zx5 ≤ 24) → (zx3 ≤ 23) → (25 - zx5) < (n : Int) → pX10_thumb_20   post  n x3 x4 x5 w := by
  intro n
  induction n with
  | zero =>
    intro x3 x4 x5 zx3 zx4 zx5  tx3 tx4 tx5 hI h0 h1 hm
    exact absurd hm (by omega)
  | succ n ih =>
    intro x3 x4 x5 zx3 zx4 zx5  tx3 tx4 tx5 hI h0 h1 hm
    unfold pX10_thumb_20
    have hk := ix_k hI
    refine ⟨fun c2324 => ?_, fun c2324 => ?_⟩
    · replace c2324 := c_le lit_24 tx5 c2324
      exact hp _ _ lit_m1 
    · replace c2324 := c_nle lit_24 tx5 c2324
      refine ⟨fun c2325 => ?_, fun c2325 => ?_⟩
      · replace c2325 := c_le tx3 lit_0 c2325
        exact hp _ _ lit_m1 
      · replace c2325 := c_nle tx3 lit_0 c2325
        refine ⟨vp_of tx3 (by omega) (by omega), ?_⟩
        obtain ⟨z2326, t2327⟩ := t_any (w.2.1 163 x3.toNatClampNeg)
        intro x6_3v1140 ex6_3v1140
        have tx6_3v1140 : Ti x6_3v1140 z2326 := by rw [ex6_3v1140]; exact t2327
        obtain ⟨z2328, t2329⟩ := t_any (w.1 (rl (w.2.2.2.2 0)) 0)
        have f2330 := ixg_r0 hI t2329
        obtain ⟨z2331, t2332, f2333⟩ := t_sub t2329 lit_1
        first | replace f2333 := f2333 (by omega) | clear f2333
        obtain ⟨z2334, t2335, f2336⟩ := t_sub t2332 tx4
        first | replace f2336 := f2336 (by omega) | clear f2336
        intro x4_4v1141 ex4_4v1141
        have tx4_4v1141 : Ti x4_4v1141 z2334 := by rw [ex4_4v1141]; exact t2335
        refine sX10_sealHas   (hI := hI) (tx1 := tx6_3v1140) (tx2 := tx4_4v1141)  (hp := fun r_5v1142 zr_5v1142 tr_5v1142 p2337 => ?_)
        refine ⟨fun c2338 => ?_, fun c2338 => ?_⟩
        · replace c2338 := c_neq tr_5v1142 lit_0 c2338
          obtain ⟨z2339, t2340, f2341⟩ := t_add tx5 lit_1
          first | replace f2341 := f2341 (by omega) | clear f2341
          intro x5_8v1145 ex5_8v1145
          have tx5_8v1145 : Ti x5_8v1145 z2339 := by rw [ex5_8v1145]; exact t2340
          exact ih _ _ _ _ _ _  tx6_3v1140 tx4_4v1141 tx5_8v1145 hI (by omega) (by omega) (by omega)
        · replace c2338 := c_eq tr_5v1142 lit_0 c2338
          refine ⟨vp_of tx3 (by omega) (by omega), ?_⟩
          obtain ⟨z2342, t2343⟩ := t_any (w.2.1 164 x3.toNatClampNeg)
          exact hp _ _ t2343 
set_option maxHeartbeats 4000000 in
set_option maxRecDepth 100000 in
theorem sX10_thumb {T D : Int} {k : Nat} {post : Int32 → Wd → Prop} {x1 : Int32} {zx1 : Int} {x2 : Int32} {zx2 : Int} {w : Wd}  (tx1 : Ti x1 zx1) (tx2 : Ti x2 zx2) (hI : IX k T D w)  (hp : ∀ (r : Int32) (zr : Int), Ti r zr → post r w) : pX10_thumb   post  x1 x2 w := by
  unfold pX10_thumb
  have hk := ix_k hI
  refine sX10_sealHas   (hI := hI) (tx1 := tx1) (tx2 := tx2)  (hp := fun r_1v1146 zr_1v1146 tr_1v1146 p2344 => ?_)
  refine ⟨fun c2345 => ?_, fun c2345 => ?_⟩
  · replace c2345 := c_neq tr_1v1146 lit_0 c2345
    exact ⟨70000, sX10_thumb_20    (hp := hp) 70000 _ _ _ _ _ _  tx1 tx2 lit_0 hI (by omega) (by omega) (by omega)⟩
  · replace c2345 := c_eq tr_1v1146 lit_0 c2345
    exact hp _ _ lit_m2 
set_option maxHeartbeats 4000000 in
set_option maxRecDepth 100000 in
theorem sX10_marksIn_6 {T D : Int} {k : Nat} {post : Int32 → Wd → Prop} {w : Wd}  (hp : ∀ (r : Int32) (zr : Int), Ti r zr → post r w) : ∀ (n : Nat) (x1 : Int32) (x2 : Int32) (x3 : Int32) (x4 : Int32) (x5 : Int32) (zx1 : Int) (zx2 : Int) (zx3 : Int) (zx4 : Int) (zx5 : Int), Ti x1 zx1 → Ti x2 zx2 → Ti x3 zx3 → Ti x4 zx4 → Ti x5 zx5 → IX k T D w → (0 ≤ zx5 ∧ zx5 ≤ 12) → (1 ≤ zx2 ∧ zx2 ≤ 4) → (13 - zx5) < (n : Int) → pX10_marksIn_6   post  n x1 x2 x3 x4 x5 w := by
  intro n
  induction n with
  | zero =>
    intro x1 x2 x3 x4 x5 zx1 zx2 zx3 zx4 zx5  tx1 tx2 tx3 tx4 tx5 hI h0 h1 hm
    exact absurd hm (by omega)
  | succ n ih =>
    intro x1 x2 x3 x4 x5 zx1 zx2 zx3 zx4 zx5  tx1 tx2 tx3 tx4 tx5 hI h0 h1 hm
    unfold pX10_marksIn_6
    have hk := ix_k hI
    obtain ⟨z2346, t2347⟩ := t_any (w.1 (rl (w.2.2.2.2 0)) 0)
    have f2348 := ixg_r0 hI t2347
    refine ⟨fun c2349 => ?_, fun c2349 => ?_⟩
    · replace c2349 := c_le t2347 tx5 c2349
      exact hp _ _ tx4 
    · replace c2349 := c_nle t2347 tx5 c2349
      obtain ⟨z2350, t2351, f2352⟩ := t_and (x := (x1 >>> (x5 &&& 31))) lit_1 (by decide)
      refine ⟨fun c2353 => ?_, fun c2353 => ?_⟩
      · replace c2353 := c_eq t2351 lit_0 c2353
        unfold pX10_marksIn_46
        obtain ⟨z2354, t2355, f2356⟩ := t_add tx5 lit_1
        first | replace f2356 := f2356 (by omega) | clear f2356
        intro x5_1v1149 ex5_1v1149
        have tx5_1v1149 : Ti x5_1v1149 z2354 := by rw [ex5_1v1149]; exact t2355
        exact ih _ _ _ _ _ _ _ _ _ _  tx1 tx2 tx3 tx4 tx5_1v1149 hI (by omega) (by omega) (by omega)
      · replace c2353 := c_neq t2351 lit_0 c2353
        refine ⟨nz_of t2347 (by omega), ?_⟩
        obtain ⟨z2357, t2358, f2359⟩ := t_mulv tx5 tx2
        first | replace f2359 := f2359 (by omega) | clear f2359
        obtain ⟨z2360, t2361, f2362⟩ := t_divv t2358 t2347
        first | replace f2362 := f2362 (by omega) | clear f2362
        refine ⟨fun c2363 => ?_, fun c2363 => ?_⟩
        · replace c2363 := c_neq t2361 tx3 c2363
          unfold pX10_marksIn_46
          obtain ⟨z2364, t2365, f2366⟩ := t_add tx5 lit_1
          first | replace f2366 := f2366 (by omega) | clear f2366
          intro x5_1v1150 ex5_1v1150
          have tx5_1v1150 : Ti x5_1v1150 z2364 := by rw [ex5_1v1150]; exact t2365
          exact ih _ _ _ _ _ _ _ _ _ _  tx1 tx2 tx3 tx4 tx5_1v1150 hI (by omega) (by omega) (by omega)
        · replace c2363 := c_eq t2361 tx3 c2363
          obtain ⟨z2367, t2368, f2369⟩ := t_add tx4 lit_1
          first | replace f2369 := f2369 (by omega) | clear f2369
          intro x4_4v1148 ex4_4v1148
          have tx4_4v1148 : Ti x4_4v1148 z2367 := by rw [ex4_4v1148]; exact t2368
          unfold pX10_marksIn_46
          obtain ⟨z2370, t2371, f2372⟩ := t_add tx5 lit_1
          first | replace f2372 := f2372 (by omega) | clear f2372
          intro x5_1v1151 ex5_1v1151
          have tx5_1v1151 : Ti x5_1v1151 z2370 := by rw [ex5_1v1151]; exact t2371
          exact ih _ _ _ _ _ _ _ _ _ _  tx1 tx2 tx3 tx4_4v1148 tx5_1v1151 hI (by omega) (by omega) (by omega)
set_option maxHeartbeats 4000000 in
set_option maxRecDepth 100000 in
theorem sX10_marksIn {T D : Int} {k : Nat} {post : Int32 → Wd → Prop} {x1 : Int32} {zx1 : Int} {x2 : Int32} {zx2 : Int} {x3 : Int32} {zx3 : Int} {w : Wd}  (tx1 : Ti x1 zx1) (tx2 : Ti x2 zx2) (tx3 : Ti x3 zx3) (hI : IX k T D w) (h0 : 1 ≤ zx2 ∧ zx2 ≤ 4) (hp : ∀ (r : Int32) (zr : Int), Ti r zr → post r w) : pX10_marksIn   post  x1 x2 x3 w := by
  unfold pX10_marksIn
  have hk := ix_k hI
  exact ⟨70000, sX10_marksIn_6    (hp := hp) 70000 _ _ _ _ _ _ _ _ _ _  tx1 tx2 tx3 lit_0 lit_0 hI (by omega) (by omega) (by omega)⟩
set_option maxHeartbeats 4000000 in
set_option maxRecDepth 100000 in
theorem sX10_share_64 {T D : Int} {k : Nat} {post : Int32 → Wd → Prop} {w : Wd}  (hp : ∀ (r : Int32) (zr : Int), Ti r zr → post r w) : ∀ (n : Nat) (x1 : Int32) (x2 : Int32) (x3 : Int32) (x4 : Int32) (x5 : Int32) (x6 : Int32) (x7 : Int32) (x8 : Int32) (zx1 : Int) (zx2 : Int) (zx3 : Int) (zx4 : Int) (zx5 : Int) (zx6 : Int) (zx7 : Int) (zx8 : Int), Ti x1 zx1 → Ti x2 zx2 → Ti x3 zx3 → Ti x4 zx4 → Ti x5 zx5 → Ti x6 zx6 → Ti x7 zx7 → Ti x8 zx8 → IX k T D w → (0 ≤ zx8 ∧ zx8 ≤ 4) → (1 ≤ zx2 ∧ zx2 ≤ 4) → (zx4 ≠ 0) → (5 - zx8) < (n : Int) → pX10_share_64   post  n x1 x2 x3 x4 x5 x6 x7 x8 w := by
  intro n
  induction n with
  | zero =>
    intro x1 x2 x3 x4 x5 x6 x7 x8 zx1 zx2 zx3 zx4 zx5 zx6 zx7 zx8  tx1 tx2 tx3 tx4 tx5 tx6 tx7 tx8 hI h0 h1 h2 hm
    exact absurd hm (by omega)
  | succ n ih =>
    intro x1 x2 x3 x4 x5 x6 x7 x8 zx1 zx2 zx3 zx4 zx5 zx6 zx7 zx8  tx1 tx2 tx3 tx4 tx5 tx6 tx7 tx8 hI h0 h1 h2 hm
    unfold pX10_share_64
    have hk := ix_k hI
    refine ⟨fun c2373 => ?_, fun c2373 => ?_⟩
    · replace c2373 := c_le tx2 tx8 c2373
      refine ⟨nz_of tx4 (by omega), ?_⟩
      refine ⟨fun c2374 => ?_, fun c2374 => ?_⟩
      · replace c2374 := c_le tx6 tx7 c2374
        obtain ⟨z2375, t2376, f2377⟩ := t_divv tx5 tx4
        first | replace f2377 := f2377 (by omega) | clear f2377
        obtain ⟨z2378, t2379, f2380⟩ := t_add t2376 lit_0
        first | replace f2380 := f2380 (by omega) | clear f2380
        exact hp _ _ t2379 
      · replace c2374 := c_nle tx6 tx7 c2374
        obtain ⟨z2381, t2382, f2383⟩ := t_divv tx5 tx4
        first | replace f2383 := f2383 (by omega) | clear f2383
        obtain ⟨z2384, t2385, f2386⟩ := t_add t2382 lit_1
        first | replace f2386 := f2386 (by omega) | clear f2386
        exact hp _ _ t2385 
    · replace c2373 := c_nle tx2 tx8 c2373
      refine sX10_marksIn   (hI := hI) (tx1 := tx1) (tx2 := tx2) (tx3 := tx8) (h0 := (by omega)) (hp := fun r_3v1152 zr_3v1152 tr_3v1152 => ?_)
      obtain ⟨z2387, t2388, f2389⟩ := t_mul lit_100 tr_3v1152
      first | replace f2389 := f2389 (by omega) | clear f2389
      intro x9_5v1156 ex9_5v1156
      have tx9_5v1156 : Ti x9_5v1156 z2387 := by rw [ex9_5v1156]; exact t2388
      refine ⟨nz_of tx4 (by omega), ?_⟩
      obtain ⟨z2390, t2391, f2392⟩ := t_divv tx9_5v1156 tx4
      first | replace f2392 := f2392 (by omega) | clear f2392
      obtain ⟨z2393, t2394, f2395⟩ := t_sub tx6 t2391
      first | replace f2395 := f2395 (by omega) | clear f2395
      intro x6_6v1157 ex6_6v1157
      have tx6_6v1157 : Ti x6_6v1157 z2393 := by rw [ex6_6v1157]; exact t2394
      refine ⟨nz_of tx4 (by omega), ?_⟩
      refine ⟨nz_of tx4 (by omega), ?_⟩
      obtain ⟨z2396, t2397, f2398⟩ := t_remv tx5 tx4
      first | replace f2398 := f2398 (by omega) | clear f2398
      obtain ⟨z2399, t2400, f2401⟩ := t_remv tx9_5v1156 tx4
      first | replace f2401 := f2401 (by omega) | clear f2401
      refine ⟨fun c2402 => ?_, fun c2402 => ?_⟩
      · replace c2402 := c_lt t2397 t2400 c2402
        unfold pX10_share_125
        unfold pX10_share_130
        refine ⟨fun c2403 => ?_, fun c2403 => ?_⟩
        · replace c2403 := c_eq lit_1 lit_0 c2403
          unfold pX10_share_144
          obtain ⟨z2404, t2405, f2406⟩ := t_add tx7 lit_0
          first | replace f2406 := f2406 (by omega) | clear f2406
          intro x7_1v1158 ex7_1v1158
          have tx7_1v1158 : Ti x7_1v1158 z2404 := by rw [ex7_1v1158]; exact t2405
          obtain ⟨z2407, t2408, f2409⟩ := t_add tx8 lit_1
          first | replace f2409 := f2409 (by omega) | clear f2409
          intro x8_2v1159 ex8_2v1159
          have tx8_2v1159 : Ti x8_2v1159 z2407 := by rw [ex8_2v1159]; exact t2408
          exact ih _ _ _ _ _ _ _ _ _ _ _ _ _ _ _ _  tx1 tx2 tx3 tx4 tx5 tx6_6v1157 tx7_1v1158 tx8_2v1159 hI (by omega) (by omega) (by omega) (by omega)
        · replace c2403 := c_neq lit_1 lit_0 c2403
          unfold pX10_share_144
          obtain ⟨z2410, t2411, f2412⟩ := t_add tx7 lit_1
          first | replace f2412 := f2412 (by omega) | clear f2412
          intro x7_1v1160 ex7_1v1160
          have tx7_1v1160 : Ti x7_1v1160 z2410 := by rw [ex7_1v1160]; exact t2411
          obtain ⟨z2413, t2414, f2415⟩ := t_add tx8 lit_1
          first | replace f2415 := f2415 (by omega) | clear f2415
          intro x8_2v1161 ex8_2v1161
          have tx8_2v1161 : Ti x8_2v1161 z2413 := by rw [ex8_2v1161]; exact t2414
          exact ih _ _ _ _ _ _ _ _ _ _ _ _ _ _ _ _  tx1 tx2 tx3 tx4 tx5 tx6_6v1157 tx7_1v1160 tx8_2v1161 hI (by omega) (by omega) (by omega) (by omega)
      · replace c2402 := c_nlt t2397 t2400 c2402
        refine ⟨nz_of tx4 (by omega), ?_⟩
        refine ⟨nz_of tx4 (by omega), ?_⟩
        refine ⟨fun c2416 => ?_, fun c2416 => ?_⟩
        · replace c2416 := c_neq t2400 t2397 c2416
          unfold pX10_share_129
          unfold pX10_share_130
          refine ⟨fun c2417 => ?_, fun c2417 => ?_⟩
          · replace c2417 := c_eq lit_0 lit_0 c2417
            unfold pX10_share_144
            obtain ⟨z2418, t2419, f2420⟩ := t_add tx7 lit_0
            first | replace f2420 := f2420 (by omega) | clear f2420
            intro x7_1v1162 ex7_1v1162
            have tx7_1v1162 : Ti x7_1v1162 z2418 := by rw [ex7_1v1162]; exact t2419
            obtain ⟨z2421, t2422, f2423⟩ := t_add tx8 lit_1
            first | replace f2423 := f2423 (by omega) | clear f2423
            intro x8_2v1163 ex8_2v1163
            have tx8_2v1163 : Ti x8_2v1163 z2421 := by rw [ex8_2v1163]; exact t2422
            exact ih _ _ _ _ _ _ _ _ _ _ _ _ _ _ _ _  tx1 tx2 tx3 tx4 tx5 tx6_6v1157 tx7_1v1162 tx8_2v1163 hI (by omega) (by omega) (by omega) (by omega)
          · replace c2417 := c_neq lit_0 lit_0 c2417
            unfold pX10_share_144
            obtain ⟨z2424, t2425, f2426⟩ := t_add tx7 lit_1
            first | replace f2426 := f2426 (by omega) | clear f2426
            intro x7_1v1164 ex7_1v1164
            have tx7_1v1164 : Ti x7_1v1164 z2424 := by rw [ex7_1v1164]; exact t2425
            obtain ⟨z2427, t2428, f2429⟩ := t_add tx8 lit_1
            first | replace f2429 := f2429 (by omega) | clear f2429
            intro x8_2v1165 ex8_2v1165
            have tx8_2v1165 : Ti x8_2v1165 z2427 := by rw [ex8_2v1165]; exact t2428
            exact ih _ _ _ _ _ _ _ _ _ _ _ _ _ _ _ _  tx1 tx2 tx3 tx4 tx5 tx6_6v1157 tx7_1v1164 tx8_2v1165 hI (by omega) (by omega) (by omega) (by omega)
        · replace c2416 := c_eq t2400 t2397 c2416
          refine ⟨fun c2430 => ?_, fun c2430 => ?_⟩
          · replace c2430 := c_le tx3 tx8 c2430
            unfold pX10_share_129
            unfold pX10_share_130
            refine ⟨fun c2431 => ?_, fun c2431 => ?_⟩
            · replace c2431 := c_eq lit_0 lit_0 c2431
              unfold pX10_share_144
              obtain ⟨z2432, t2433, f2434⟩ := t_add tx7 lit_0
              first | replace f2434 := f2434 (by omega) | clear f2434
              intro x7_1v1166 ex7_1v1166
              have tx7_1v1166 : Ti x7_1v1166 z2432 := by rw [ex7_1v1166]; exact t2433
              obtain ⟨z2435, t2436, f2437⟩ := t_add tx8 lit_1
              first | replace f2437 := f2437 (by omega) | clear f2437
              intro x8_2v1167 ex8_2v1167
              have tx8_2v1167 : Ti x8_2v1167 z2435 := by rw [ex8_2v1167]; exact t2436
              exact ih _ _ _ _ _ _ _ _ _ _ _ _ _ _ _ _  tx1 tx2 tx3 tx4 tx5 tx6_6v1157 tx7_1v1166 tx8_2v1167 hI (by omega) (by omega) (by omega) (by omega)
            · replace c2431 := c_neq lit_0 lit_0 c2431
              unfold pX10_share_144
              obtain ⟨z2438, t2439, f2440⟩ := t_add tx7 lit_1
              first | replace f2440 := f2440 (by omega) | clear f2440
              intro x7_1v1168 ex7_1v1168
              have tx7_1v1168 : Ti x7_1v1168 z2438 := by rw [ex7_1v1168]; exact t2439
              obtain ⟨z2441, t2442, f2443⟩ := t_add tx8 lit_1
              first | replace f2443 := f2443 (by omega) | clear f2443
              intro x8_2v1169 ex8_2v1169
              have tx8_2v1169 : Ti x8_2v1169 z2441 := by rw [ex8_2v1169]; exact t2442
              exact ih _ _ _ _ _ _ _ _ _ _ _ _ _ _ _ _  tx1 tx2 tx3 tx4 tx5 tx6_6v1157 tx7_1v1168 tx8_2v1169 hI (by omega) (by omega) (by omega) (by omega)
          · replace c2430 := c_nle tx3 tx8 c2430
            unfold pX10_share_125
            unfold pX10_share_130
            refine ⟨fun c2444 => ?_, fun c2444 => ?_⟩
            · replace c2444 := c_eq lit_1 lit_0 c2444
              unfold pX10_share_144
              obtain ⟨z2445, t2446, f2447⟩ := t_add tx7 lit_0
              first | replace f2447 := f2447 (by omega) | clear f2447
              intro x7_1v1170 ex7_1v1170
              have tx7_1v1170 : Ti x7_1v1170 z2445 := by rw [ex7_1v1170]; exact t2446
              obtain ⟨z2448, t2449, f2450⟩ := t_add tx8 lit_1
              first | replace f2450 := f2450 (by omega) | clear f2450
              intro x8_2v1171 ex8_2v1171
              have tx8_2v1171 : Ti x8_2v1171 z2448 := by rw [ex8_2v1171]; exact t2449
              exact ih _ _ _ _ _ _ _ _ _ _ _ _ _ _ _ _  tx1 tx2 tx3 tx4 tx5 tx6_6v1157 tx7_1v1170 tx8_2v1171 hI (by omega) (by omega) (by omega) (by omega)
            · replace c2444 := c_neq lit_1 lit_0 c2444
              unfold pX10_share_144
              obtain ⟨z2451, t2452, f2453⟩ := t_add tx7 lit_1
              first | replace f2453 := f2453 (by omega) | clear f2453
              intro x7_1v1172 ex7_1v1172
              have tx7_1v1172 : Ti x7_1v1172 z2451 := by rw [ex7_1v1172]; exact t2452
              obtain ⟨z2454, t2455, f2456⟩ := t_add tx8 lit_1
              first | replace f2456 := f2456 (by omega) | clear f2456
              intro x8_2v1173 ex8_2v1173
              have tx8_2v1173 : Ti x8_2v1173 z2454 := by rw [ex8_2v1173]; exact t2455
              exact ih _ _ _ _ _ _ _ _ _ _ _ _ _ _ _ _  tx1 tx2 tx3 tx4 tx5 tx6_6v1157 tx7_1v1172 tx8_2v1173 hI (by omega) (by omega) (by omega) (by omega)
set_option maxHeartbeats 4000000 in
set_option maxRecDepth 100000 in
theorem sX10_share {T D : Int} {k : Nat} {post : Int32 → Wd → Prop} {x1 : Int32} {zx1 : Int} {x2 : Int32} {zx2 : Int} {x3 : Int32} {zx3 : Int} {w : Wd}  (tx1 : Ti x1 zx1) (tx2 : Ti x2 zx2) (tx3 : Ti x3 zx3) (hI : IX k T D w)  (hp : ∀ (r : Int32) (zr : Int), Ti r zr → post r w) : pX10_share   post  x1 x2 x3 w := by
  unfold pX10_share
  have hk := ix_k hI
  refine sX10_isRow   (hI := hI) (tx1 := tx1)  (hp := fun r_1v1174 zr_1v1174 tr_1v1174 p2457 => ?_)
  refine ⟨fun c2458 => ?_, fun c2458 => ?_⟩
  · replace c2458 := c_eq tr_1v1174 lit_0 c2458
    exact hp _ _ lit_m1 
  · replace c2458 := c_neq tr_1v1174 lit_0 c2458
    refine ⟨fun c2459 => ?_, fun c2459 => ?_⟩
    · replace c2459 := c_lt tx2 lit_1 c2459
      exact hp _ _ lit_m1 
    · replace c2459 := c_nlt tx2 lit_1 c2459
      refine ⟨fun c2460 => ?_, fun c2460 => ?_⟩
      · replace c2460 := c_lt lit_4 tx2 c2460
        exact hp _ _ lit_m1 
      · replace c2460 := c_nlt lit_4 tx2 c2460
        refine ⟨fun c2461 => ?_, fun c2461 => ?_⟩
        · replace c2461 := c_lt tx3 lit_0 c2461
          exact hp _ _ lit_m1 
        · replace c2461 := c_nlt tx3 lit_0 c2461
          refine ⟨fun c2462 => ?_, fun c2462 => ?_⟩
          · replace c2462 := c_lt tx3 tx2 c2462
            refine sJ6_bitCount_0f7a4   (hI := hI) (tx0 := tx1)  (hp := fun r_8v1181 zr_8v1181 tr_8v1181 p2463 => ?_)
            refine ⟨fun c2464 => ?_, fun c2464 => ?_⟩
            · replace c2464 := c_neq tr_8v1181 lit_0 c2464
              refine sX10_marksIn   (hI := hI) (tx1 := tx1) (tx2 := tx2) (tx3 := tx3) (h0 := (by omega)) (hp := fun r_11v1186 zr_11v1186 tr_11v1186 => ?_)
              obtain ⟨z2465, t2466, f2467⟩ := t_mul lit_100 tr_11v1186
              first | replace f2467 := f2467 (by omega) | clear f2467
              intro x5_13v1189 ex5_13v1189
              have tx5_13v1189 : Ti x5_13v1189 z2465 := by rw [ex5_13v1189]; exact t2466
              exact ⟨70000, sX10_share_64    (hp := hp) 70000 _ _ _ _ _ _ _ _ _ _ _ _ _ _ _ _  tx1 tx2 tx3 tr_8v1181 tx5_13v1189 lit_100 lit_0 lit_0 hI (by omega) (by omega) (by omega) (by omega)⟩
            · replace c2464 := c_eq tr_8v1181 lit_0 c2464
              exact hp _ _ lit_0 
          · replace c2462 := c_nlt tx3 tx2 c2462
            exact hp _ _ lit_m1 
set_option maxHeartbeats 4000000 in
set_option maxRecDepth 100000 in
theorem sX10_forge_43 {T D : Int} {k : Nat} {post : Int32 → Wd → Prop}   (hp : ∀ (r : Int32) (zr : Int) (w9 : Wd), Ti r zr → IX k T D w9 → post r w9) : ∀ (n : Nat) (x1 : Int32) (x2 : Int32) (x3 : Int32) (x4 : Int32) (x5 : Int32) (x6 : Int32) (x7 : Int32) (x8 : Int32) (zx1 : Int) (zx2 : Int) (zx3 : Int) (zx4 : Int) (zx5 : Int) (zx6 : Int) (zx7 : Int) (zx8 : Int) (w : Wd), Ti x1 zx1 → Ti x2 zx2 → Ti x3 zx3 → Ti x4 zx4 → Ti x5 zx5 → Ti x6 zx6 → Ti x7 zx7 → Ti x8 zx8 → IX k T D w → (0 ≤ zx8 ∧ zx8 ≤ 4096) → (0 ≤ zx1 ∧ zx1 ≤ 23) → (4097 - zx8) < (n : Int) → pX10_forge_43   post  n x1 x2 x3 x4 x5 x6 x7 x8 w := by
  intro n
  induction n with
  | zero =>
    intro x1 x2 x3 x4 x5 x6 x7 x8 zx1 zx2 zx3 zx4 zx5 zx6 zx7 zx8 w tx1 tx2 tx3 tx4 tx5 tx6 tx7 tx8 hI h0 h1 hm
    exact absurd hm (by omega)
  | succ n ih =>
    intro x1 x2 x3 x4 x5 x6 x7 x8 zx1 zx2 zx3 zx4 zx5 zx6 zx7 zx8 w tx1 tx2 tx3 tx4 tx5 tx6 tx7 tx8 hI h0 h1 hm
    unfold pX10_forge_43
    have hk := ix_k hI
    refine sX7_rows   (hI := hI)   (hp := fun r_1v1190 zr_1v1190 tr_1v1190 p2468 => ?_)
    refine ⟨fun c2469 => ?_, fun c2469 => ?_⟩
    · replace c2469 := c_le tr_1v1190 tx8 c2469
      refine ⟨fun c2470 => ?_, fun c2470 => ?_⟩
      · replace c2470 := c_neq tx5 lit_0 c2470
        exact hp _ _ _  tx7 hI 
      · replace c2470 := c_eq tx5 lit_0 c2470
        refine ⟨fun c2471 => ?_, fun c2471 => ?_⟩
        · replace c2471 := c_eq tx7 lit_m1 c2471
          exact hp _ _ _  tx7 hI 
        · replace c2471 := c_neq tx7 lit_m1 c2471
          exact hp _ _ _  tx6 hI 
    · replace c2469 := c_nle tr_1v1190 tx8 c2469
      refine ⟨vp_of tx1 (by omega) (by omega), ?_⟩
      obtain ⟨z2472, t2473⟩ := t_any (x8 ^^^ (w.2.1 162 x1.toNatClampNeg))
      refine sJ6_bitCount_0f7a4   (hI := hI) (tx0 := t2473)  (hp := fun r_6v1196 zr_6v1196 tr_6v1196 p2474 => ?_)
      refine ⟨fun c2475 => ?_, fun c2475 => ?_⟩
      · replace c2475 := c_le tx6 tr_6v1196 c2475
        unfold pX10_forge_104
        obtain ⟨z2476, t2477, f2478⟩ := t_add tx8 lit_1
        first | replace f2478 := f2478 (by omega) | clear f2478
        intro x8_1v1202 ex8_1v1202
        have tx8_1v1202 : Ti x8_1v1202 z2476 := by rw [ex8_1v1202]; exact t2477
        exact ih _ _ _ _ _ _ _ _ _ _ _ _ _ _ _ _ _ tx1 tx2 tx3 tx4 tx5 tx6 tx7 tx8_1v1202 hI (by omega) (by omega) (by omega)
      · replace c2475 := c_nle tx6 tr_6v1196 c2475
        refine sX1_rowAfter   (hI := hI) (tx1 := tx8) (tx2 := tx2) (tx3 := tx3) (tx4 := lit_0)  (hp := fun r_9v1200 zr_9v1200 w_10v1201  tr_9v1200 hIw_10v1201  => ?_)
        refine ⟨fun c2479 => ?_, fun c2479 => ?_⟩
        · replace c2479 := c_neq tr_9v1200 tx4 c2479
          unfold pX10_forge_104
          obtain ⟨z2480, t2481, f2482⟩ := t_add tx8 lit_1
          first | replace f2482 := f2482 (by omega) | clear f2482
          intro x8_1v1203 ex8_1v1203
          have tx8_1v1203 : Ti x8_1v1203 z2480 := by rw [ex8_1v1203]; exact t2481
          exact ih _ _ _ _ _ _ _ _ _ _ _ _ _ _ _ _ _ tx1 tx2 tx3 tx4 tx5 tx6 tx7 tx8_1v1203 hIw_10v1201 (by omega) (by omega) (by omega)
        · replace c2479 := c_eq tr_9v1200 tx4 c2479
          unfold pX10_forge_104
          obtain ⟨z2483, t2484, f2485⟩ := t_add tx8 lit_1
          first | replace f2485 := f2485 (by omega) | clear f2485
          intro x8_1v1204 ex8_1v1204
          have tx8_1v1204 : Ti x8_1v1204 z2483 := by rw [ex8_1v1204]; exact t2484
          exact ih _ _ _ _ _ _ _ _ _ _ _ _ _ _ _ _ _ tx1 tx2 tx3 tx4 tx5 tr_6v1196 tx8 tx8_1v1204 hIw_10v1201 (by omega) (by omega) (by omega)
set_option maxHeartbeats 4000000 in
set_option maxRecDepth 100000 in
theorem sX10_forge {T D : Int} {k : Nat} {post : Int32 → Wd → Prop} {x1 : Int32} {zx1 : Int} {x2 : Int32} {zx2 : Int} {x3 : Int32} {zx3 : Int} {x4 : Int32} {zx4 : Int} {x5 : Int32} {zx5 : Int} {w : Wd}  (tx1 : Ti x1 zx1) (tx2 : Ti x2 zx2) (tx3 : Ti x3 zx3) (tx4 : Ti x4 zx4) (tx5 : Ti x5 zx5) (hI : IX k T D w)  (hp : ∀ (r : Int32) (zr : Int) (w9 : Wd), Ti r zr → IX k T D w9 → post r w9) : pX10_forge   post  x1 x2 x3 x4 x5 w := by
  unfold pX10_forge
  have hk := ix_k hI
  refine sX10_canCast   (hI := hI) (tx1 := tx1) (tx2 := tx2) (tx3 := tx3)  (hp := fun r_1v1205 zr_1v1205 tr_1v1205 p2486 => ?_)
  refine ⟨fun c2487 => ?_, fun c2487 => ?_⟩
  · replace c2487 := c_eq tr_1v1205 lit_0 c2487
    exact hp _ _ _  lit_m1 hI 
  · replace c2487 := c_neq tr_1v1205 lit_0 c2487
    refine sX10_isRow   (hI := hI) (tx1 := tx4)  (hp := fun r_4v1209 zr_4v1209 tr_4v1209 p2488 => ?_)
    refine ⟨fun c2489 => ?_, fun c2489 => ?_⟩
    · replace c2489 := c_eq tr_4v1209 lit_0 c2489
      exact hp _ _ _  lit_m1 hI 
    · replace c2489 := c_neq tr_4v1209 lit_0 c2489
      refine ⟨fun c2490 => ?_, fun c2490 => ?_⟩
      · replace c2490 := c_lt tx5 lit_0 c2490
        exact hp _ _ _  lit_m1 hI 
      · replace c2490 := c_nlt tx5 lit_0 c2490
        refine ⟨fun c2491 => ?_, fun c2491 => ?_⟩
        · replace c2491 := c_le tx5 lit_1 c2491
          exact ⟨70000, sX10_forge_43    (hp := hp) 70000 _ _ _ _ _ _ _ _ _ _ _ _ _ _ _ _ _ tx1 tx2 tx3 tx4 tx5 lit_1000 lit_m1 lit_0 hI (by omega) (by omega) (by omega)⟩
        · replace c2491 := c_nle tx5 lit_1 c2491
          exact hp _ _ _  lit_m1 hI 
