set_option maxHeartbeats 4000000 in
set_option maxRecDepth 100000 in
theorem sX10_canCast {T D : Int} {k : Nat} {post : Int32 → Wd → Prop} {x1 : Int32} {zx1 : Int} {x2 : Int32} {zx2 : Int} {x3 : Int32} {zx3 : Int} {w : Wd}  (tx1 : Ti x1 zx1) (tx2 : Ti x2 zx2) (tx3 : Ti x3 zx3) (hI : IX k T D w)  (hp : ∀ (r : Int32) (zr : Int), Ti r zr → ((zr = 0 ∨ (0 ≤ zx1 ∧ zx1 ≤ 23 ∧ 0 ≤ zx2 ∧ zx2 ≤ 3 ∧ 0 ≤ zx3 ∧ zx3 ≤ 9))) → post r w) : pX10_canCast   post  x1 x2 x3 w := by
  unfold pX10_canCast
  have hk := ix_k hI
  refine sX10_isSeal   (hI := hI) (tx1 := tx1)  (hp := fun r_1v948 zr_1v948 tr_1v948 p1996 => ?_)
  refine ⟨fun c1997 => ?_, fun c1997 => ?_⟩
  · replace c1997 := c_eq tr_1v948 lit_0 c1997
    exact hp _ _ lit_0 (by omega)
  · replace c1997 := c_neq tr_1v948 lit_0 c1997
    refine sX10_isHand   (hI := hI) (tx1 := tx2)  (hp := fun r_4v954 zr_4v954 tr_4v954 p1998 => ?_)
    refine ⟨fun c1999 => ?_, fun c1999 => ?_⟩
    · replace c1999 := c_eq tr_4v954 lit_0 c1999
      exact hp _ _ lit_0 (by omega)
    · replace c1999 := c_neq tr_4v954 lit_0 c1999
      refine sX10_isHeat   (hI := hI) (tx0 := tx3)  (hp := fun r_7v958 zr_7v958 tr_7v958 p2000 => ?_)
      refine ⟨fun c2001 => ?_, fun c2001 => ?_⟩
      · replace c2001 := c_eq tr_7v958 lit_0 c2001
        exact hp _ _ lit_0 (by omega)
      · replace c2001 := c_neq tr_7v958 lit_0 c2001
        exact hp _ _ lit_1 (by omega)
set_option maxHeartbeats 4000000 in
set_option maxRecDepth 100000 in
theorem sX10_cast {T D : Int} {k : Nat} {post : Int32 → Wd → Prop} {x1 : Int32} {zx1 : Int} {x2 : Int32} {zx2 : Int} {x3 : Int32} {zx3 : Int} {w : Wd}  (tx1 : Ti x1 zx1) (tx2 : Ti x2 zx2) (tx3 : Ti x3 zx3) (hI : IX k T D w)  (hp : ∀ (r : Int32) (zr : Int) (w9 : Wd) (D9 : Int), Ti r zr → IX k T D9 w9 → post r w9) : pX10_cast   post  x1 x2 x3 w := by
  unfold pX10_cast
  have hk := ix_k hI
  refine sX10_canCast   (hI := hI) (tx1 := tx1) (tx2 := tx2) (tx3 := tx3)  (hp := fun r_1v960 zr_1v960 tr_1v960 p2002 => ?_)
  refine ⟨fun c2003 => ?_, fun c2003 => ?_⟩
  · replace c2003 := c_eq tr_1v960 lit_0 c2003
    exact hp _ _ _ _ lit_m1 hI 
  · replace c2003 := c_neq tr_1v960 lit_0 c2003
    obtain ⟨z2004, t2005⟩ := t_any (w.1 160 0)
    have f2006 := ixg_c0 hI t2005
    refine ⟨fun c2007 => ?_, fun c2007 => ?_⟩
    · replace c2007 := c_le lit_24 t2005 c2007
      exact hp _ _ _ _ lit_m1 hI 
    · replace c2007 := c_nle lit_24 t2005 c2007
      obtain ⟨z2008, t2009, f2010⟩ := t_add lit_1 tx3
      first | replace f2010 := f2010 (by omega) | clear f2010
      obtain ⟨z2011, t2012⟩ := t_any (w.1 160 11)
      refine ⟨fun c2013 => ?_, fun c2013 => ?_⟩
      · replace c2013 := c_le t2009 t2012 c2013
        refine sX0_add   (hI := hI) (tx1 := lit_0) (tx2 := tx1) (tx3 := tx2) (tx4 := tx3)  (hp := fun  w_6v963 g2014  hIw_6v963  => ?_)
        have f2015 := ix_k hIw_6v963
        obtain ⟨z2016, t2017⟩ := t_any (w_6v963.1 160 0)
        have f2018 := ixg_c0 hIw_6v963 t2017
        obtain ⟨z2019, t2020, f2021⟩ := t_sub t2017 lit_1
        first | replace f2021 := f2021 (by omega) | clear f2021
        exact hp _ _ _ _ t2020 hIw_6v963 
      · replace c2013 := c_nle t2009 t2012 c2013
        exact hp _ _ _ _ lit_m1 hI 
set_option maxHeartbeats 4000000 in
set_option maxRecDepth 100000 in
theorem sX10_print {T D : Int} {k : Nat} {post : Int32 → Wd → Prop} {x1 : Int32} {zx1 : Int} {w : Wd}  (tx1 : Ti x1 zx1) (hI : IX k T D w)  (hp : ∀ (r : Int32) (zr : Int) (w9 : Wd) (D9 : Int), Ti r zr → IX k T D9 w9 → post r w9) : pX10_print   post  x1 w := by
  unfold pX10_print
  have hk := ix_k hI
  refine sX10_isSeal   (hI := hI) (tx1 := tx1)  (hp := fun r_1v964 zr_1v964 tr_1v964 p2022 => ?_)
  refine ⟨fun c2023 => ?_, fun c2023 => ?_⟩
  · replace c2023 := c_eq tr_1v964 lit_0 c2023
    exact hp _ _ _ _ lit_m1 hI 
  · replace c2023 := c_neq tr_1v964 lit_0 c2023
    obtain ⟨z2024, t2025⟩ := t_any (w.1 160 6)
    have f2026 := ixg_c6 hI t2025
    refine ⟨fun c2027 => ?_, fun c2027 => ?_⟩
    · replace c2027 := c_le lit_40 t2025 c2027
      exact hp _ _ _ _ lit_m1 hI 
    · replace c2027 := c_nle lit_40 t2025 c2027
      obtain ⟨z2028, t2029⟩ := t_any (w.1 160 11)
      refine ⟨fun c2030 => ?_, fun c2030 => ?_⟩
      · replace c2030 := c_le lit_1 t2029 c2030
        refine sX0_add   (hI := hI) (tx1 := lit_1) (tx2 := tx1) (tx3 := lit_0) (tx4 := lit_0)  (hp := fun  w_6v967 g2031  hIw_6v967  => ?_)
        have f2032 := ix_k hIw_6v967
        obtain ⟨z2033, t2034⟩ := t_any (w_6v967.1 160 6)
        have f2035 := ixg_c6 hIw_6v967 t2034
        obtain ⟨z2036, t2037, f2038⟩ := t_sub t2034 lit_1
        first | replace f2038 := f2038 (by omega) | clear f2038
        exact hp _ _ _ _ t2037 hIw_6v967 
      · replace c2030 := c_nle lit_1 t2029 c2030
        exact hp _ _ _ _ lit_m1 hI 
set_option maxHeartbeats 4000000 in
set_option maxRecDepth 100000 in
theorem sX10_isMark {T D : Int} {k : Nat} {post : Int32 → Wd → Prop} {x1 : Int32} {zx1 : Int} {w : Wd}  (tx1 : Ti x1 zx1) (hI : IX k T D w)  (hp : ∀ (r : Int32) (zr : Int), Ti r zr → ((zr = 0 ∨ (0 ≤ zx1 ∧ zx1 ≤ 11))) → post r w) : pX10_isMark   post  x1 w := by
  unfold pX10_isMark
  have hk := ix_k hI
  refine ⟨fun c2039 => ?_, fun c2039 => ?_⟩
  · replace c2039 := c_lt tx1 lit_0 c2039
    exact hp _ _ lit_0 (by omega)
  · replace c2039 := c_nlt tx1 lit_0 c2039
    obtain ⟨z2040, t2041⟩ := t_any (w.1 (rl (w.2.2.2.2 0)) 0)
    have f2042 := ixg_r0 hI t2041
    refine ⟨fun c2043 => ?_, fun c2043 => ?_⟩
    · replace c2043 := c_le t2041 tx1 c2043
      exact hp _ _ lit_0 (by omega)
    · replace c2043 := c_nle t2041 tx1 c2043
      exact hp _ _ lit_1 (by omega)
set_option maxHeartbeats 4000000 in
set_option maxRecDepth 100000 in
theorem sX10_sealHas {T D : Int} {k : Nat} {post : Int32 → Wd → Prop} {x1 : Int32} {zx1 : Int} {x2 : Int32} {zx2 : Int} {w : Wd}  (tx1 : Ti x1 zx1) (tx2 : Ti x2 zx2) (hI : IX k T D w)  (hp : ∀ (r : Int32) (zr : Int), Ti r zr → ((zr = 0 ∨ (0 ≤ zx1 ∧ zx1 ≤ 23))) → post r w) : pX10_sealHas   post  x1 x2 w := by
  unfold pX10_sealHas
  have hk := ix_k hI
  refine sX10_isSeal   (hI := hI) (tx1 := tx1)  (hp := fun r_1v968 zr_1v968 tr_1v968 p2044 => ?_)
  refine ⟨fun c2045 => ?_, fun c2045 => ?_⟩
  · replace c2045 := c_eq tr_1v968 lit_0 c2045
    exact hp _ _ lit_0 (by omega)
  · replace c2045 := c_neq tr_1v968 lit_0 c2045
    refine sX10_isMark   (hI := hI) (tx1 := tx2)  (hp := fun r_4v972 zr_4v972 tr_4v972 p2046 => ?_)
    refine ⟨fun c2047 => ?_, fun c2047 => ?_⟩
    · replace c2047 := c_eq tr_4v972 lit_0 c2047
      exact hp _ _ lit_0 (by omega)
    · replace c2047 := c_neq tr_4v972 lit_0 c2047
      refine ⟨vp_of tx1 (by omega) (by omega), ?_⟩
      obtain ⟨z2048, t2049, f2050⟩ := t_and (x := ((w.2.1 162 x1.toNatClampNeg) >>> (x2 &&& 31))) lit_1 (by decide)
      refine ⟨fun c2051 => ?_, fun c2051 => ?_⟩
      · replace c2051 := c_eq t2049 lit_0 c2051
        exact hp _ _ lit_0 (by omega)
      · replace c2051 := c_neq t2049 lit_0 c2051
        exact hp _ _ lit_1 (by omega)
set_option maxHeartbeats 4000000 in
set_option maxRecDepth 100000 in
theorem sX10_crack {T D : Int} {k : Nat} {post : Int32 → Wd → Prop} {x1 : Int32} {zx1 : Int} {x2 : Int32} {zx2 : Int} {w : Wd}  (tx1 : Ti x1 zx1) (tx2 : Ti x2 zx2) (hI : IX k T D w)  (hp : ∀ (r : Int32) (zr : Int) (w9 : Wd) (D9 : Int), Ti r zr → IX k T D9 w9 → post r w9) : pX10_crack   post  x1 x2 w := by
  unfold pX10_crack
  have hk := ix_k hI
  refine sX10_sealHas   (hI := hI) (tx1 := tx1) (tx2 := tx2)  (hp := fun r_1v974 zr_1v974 tr_1v974 p2052 => ?_)
  refine ⟨fun c2053 => ?_, fun c2053 => ?_⟩
  · replace c2053 := c_neq tr_1v974 lit_0 c2053
    refine sX0_add   (hI := hI) (tx1 := lit_2) (tx2 := tx1) (tx3 := tx2) (tx4 := lit_0)  (hp := fun  w_4v977 g2054  hIw_4v977  => ?_)
    have f2055 := ix_k hIw_4v977
    exact hp _ _ _ _ lit_1 hIw_4v977 
  · replace c2053 := c_eq tr_1v974 lit_0 c2053
    exact hp _ _ _ _ lit_0 hI 
set_option maxHeartbeats 4000000 in
set_option maxRecDepth 100000 in
theorem sX10_year {T D : Int} {k : Nat} {post : Int32 → Wd → Prop}  {w : Wd}   (hI : IX k T D w)  (hp : ∀ (r : Int32) (zr : Int) (w9 : Wd) (D9 : Int), Ti r zr → IX k T D9 w9 → post r w9) : pX10_year   post   w := by
  unfold pX10_year
  have hk := ix_k hI
  obtain ⟨z2056, t2057⟩ := t_any (w.1 160 12)
  refine ⟨fun c2058 => ?_, fun c2058 => ?_⟩
  · replace c2058 := c_lt t2057 lit_999 c2058
    refine sX0_add   (hI := hI) (tx1 := lit_3) (tx2 := lit_0) (tx3 := lit_0) (tx4 := lit_0)  (hp := fun  w_2v978 g2059  hIw_2v978  => ?_)
    have f2060 := ix_k hIw_2v978
    obtain ⟨z2061, t2062⟩ := t_any (w_2v978.1 160 12)
    exact hp _ _ _ _ t2062 hIw_2v978 
  · replace c2058 := c_nlt t2057 lit_999 c2058
    exact hp _ _ _ _ lit_m1 hI 
theorem sX0_takeBack {T D : Int} {k : Nat} {post : Wd → Prop} {x1 : Int32} {zx1 : Int} {w : Wd} (tx1 : Ti x1 zx1) (hI : IX k T D w) (hk : k < 1000) (h0 : 0 ≤ zx1 ∧ zx1 ≤ 39) (hp : ∀ (w9 : Wd), IX (k + 1) T D w9 → post w9) : pX0_takeBack post x1 w := by
  unfold pX0_takeBack
  have hJ := ix_up hI hk
  obtain ⟨z0, t0⟩ := t_any (w.1 160 0)
  obtain ⟨z6, t6⟩ := t_any (w.1 160 6)
  have b0 := ixg_c0 hI t0
  have b6 := ixg_c6 hI t6
  obtain ⟨y0, u0, f0⟩ := t_sub t0 lit_1
  replace f0 := f0 (by omega)
  obtain ⟨y6, u6, f6⟩ := t_sub t6 lit_1
  replace f6 := f6 (by omega)
  have hv : vp_in x1 40 := vp_of tx1 (by omega) (by omega)
  refine ⟨hv, fun c => ?_, fun c => ?_, fun c => ?_, fun c => ?_⟩
  · intro w_2 e2
    exact hp _ (ixs_n hJ e2 (by unfold nX; omega))
  · intro w_3 e3
    have i3 := ixs_c0 (c := 0) hJ e3 u0 (by omega) (by omega)
    refine ⟨hv, ?_⟩
    intro w_4 e4
    have i4 := ixs_n i3 e4 (by unfold nX; omega)
    refine ⟨hv, ?_⟩
    intro w_5 e5
    exact hp _ (ixs_n i4 e5 (by unfold nX; omega))
  · intro w_6 e6
    have i6 := ixs_c6 (c := 0) hJ e6 u6 (by omega) (by omega)
    intro w_7 e7
    exact hp _ (ixs_n i6 e7 (by unfold nX; omega))
  · refine ⟨hv, hv, ?_⟩
    exact sX2_flip (tx1 := rfl) (tx2 := rfl) (hI := hJ) (hp := fun w_8 i8 => hp _ i8)
theorem sX0_goBack {T D : Int} {k : Nat} {post : Int32 → Wd → Prop} {w : Wd} (hI : IX k T D w) (hk : k < 1000) (hp : ∀ (r : Int32) (zr : Int) (w9 : Wd) (D9 : Int), Ti r zr → IX (k + 1) T D9 w9 → (zr = 0 ∨ zr = 1) → post r w9) : pX0_goBack post w := by
  unfold pX0_goBack
  have hJ := ix_up hI hk
  obtain ⟨z, t⟩ := t_any (w.1 50 7)
  have b := ixg_50_7 hI t
  have b2 := ix_k hI
  obtain ⟨y, u, f⟩ := t_sub t lit_1
  replace f := f (by omega)
  refine ⟨fun c => hp _ _ _ _ lit_0 hJ (by omega), fun c => ⟨fun c2 => ?_, fun c2 => hp _ _ _ _ lit_0 hJ (by omega)⟩⟩
  replace c := c_nlt t lit_1 c
  replace c2 := c_le t lit_40 c2
  intro w_3 e3
  have i3 := ixs_50_7 hI e3 u (by omega) (by omega)
  intro w_4 e4
  have i4 := ixs_n i3 e4 (by unfold nX; omega)
  obtain ⟨z4, t4⟩ := t_any (w_4.1 50 7)
  have b4 := ixg_50_7 i4 t4
  exact sX0_takeBack t4 i4 hk (by omega) (fun w_5 i5 => hp _ _ _ _ lit_1 i5 (by omega))
theorem sX10_undo {T D : Int} {k : Nat} {post : Int32 → Wd → Prop} {w : Wd} (hI : IX k T D w) (hk : k < 1000) (hp : ∀ (r : Int32) (zr : Int) (w9 : Wd) (D9 : Int), Ti r zr → IX (k + 1) T D9 w9 → post r w9) : pX10_undo post w := by
  unfold pX10_undo
  exact sX0_goBack hI hk (fun r zr w9 D9 t i9 h => ⟨nar_ok t h, hp _ _ _ _ t i9⟩)
set_option maxHeartbeats 4000000 in
set_option maxRecDepth 100000 in
theorem sX0_goOn {T D : Int} {k : Nat} {post : Int32 → Wd → Prop}  {w : Wd}   (hI : IX k T D w)  (hp : ∀ (r : Int32) (zr : Int) (w9 : Wd) (D9 : Int), Ti r zr → IX k T D9 w9 → ((zr = 0 ∨ zr = 1)) → post r w9) : pX0_goOn   post   w := by
  unfold pX0_goOn
  have hk := ix_k hI
  obtain ⟨z2063, t2064⟩ := t_any (w.1 50 8)
  refine ⟨fun c2065 => ?_, fun c2065 => ?_⟩
  · replace c2065 := c_lt t2064 lit_1 c2065
    exact hp _ _ _ _ lit_0 hI (by omega)
  · replace c2065 := c_nlt t2064 lit_1 c2065
    obtain ⟨z2066, t2067⟩ := t_any (w.1 50 7)
    have f2068 := ixg_50_7 hI t2067
    refine ⟨fun c2069 => ?_, fun c2069 => ?_⟩
    · replace c2069 := c_lt t2067 lit_0 c2069
      exact hp _ _ _ _ lit_0 hI (by omega)
    · replace c2069 := c_nlt t2067 lit_0 c2069
      refine ⟨fun c2070 => ?_, fun c2070 => ?_⟩
      · replace c2070 := c_lt t2067 lit_40 c2070
        refine sX0_perform   (hI := hI) (tx1 := t2067) (h0 := (by omega)) (hp := fun  w_4v979   hIw_4v979  => ?_)
        intro w_5v980 ew_5v980
        obtain ⟨z2071, t2072⟩ := t_any (w_4v979.1 50 7)
        have f2073 := ixg_50_7 hIw_4v979 t2072
        obtain ⟨z2074, t2075, f2076⟩ := t_add t2072 lit_1
        first | replace f2076 := f2076 (by omega) | clear f2076
        have hIw_5v980 := ixs_50_7 hIw_4v979 ew_5v980 t2075 (by omega) (by omega)
        intro w_6v981 ew_6v981
        have hIw_6v981 := ixs_n hIw_5v980 ew_6v981 (by unfold nX; omega)
        exact hp _ _ _ _ lit_1 hIw_6v981 (by omega)
      · replace c2070 := c_nlt t2067 lit_40 c2070
        exact hp _ _ _ _ lit_0 hI (by omega)
set_option maxHeartbeats 4000000 in
set_option maxRecDepth 100000 in
theorem sX10_redo {T D : Int} {k : Nat} {post : Int32 → Wd → Prop}  {w : Wd}   (hI : IX k T D w)  (hp : ∀ (r : Int32) (zr : Int) (w9 : Wd) (D9 : Int), Ti r zr → IX k T D9 w9 → post r w9) : pX10_redo   post   w := by
  unfold pX10_redo
  have hk := ix_k hI
  refine sX0_goOn   (hI := hI)   (hp := fun r_1v982 zr_1v982 w_2v983 g2078 tr_1v982 hIw_2v983 p2077 => ?_)
  have f2079 := ix_k hIw_2v983
  refine ⟨nar_ok tr_1v982 (by omega), ?_⟩
  exact hp _ _ _ _ tr_1v982 hIw_2v983 
set_option maxHeartbeats 4000000 in
set_option maxRecDepth 100000 in
theorem sX10_whose_31 {T D : Int} {k : Nat} {post : Int32 → Wd → Prop}   (hp : ∀ (r : Int32) (zr : Int) (w9 : Wd), Ti r zr → IX k T D w9 → post r w9) : ∀ (n : Nat) (x1 : Int32) (x2 : Int32) (x3 : Int32) (x4 : Int32) (x5 : Int32) (zx1 : Int) (zx2 : Int) (zx3 : Int) (zx4 : Int) (zx5 : Int) (w : Wd), Ti x1 zx1 → Ti x2 zx2 → Ti x3 zx3 → Ti x4 zx4 → Ti x5 zx5 → IX k T D w → (0 ≤ zx5 ∧ zx5 ≤ 4) → (0 ≤ zx1 ∧ zx1 ≤ 23) → (5 - zx5) < (n : Int) → pX10_whose_31   post  n x1 x2 x3 x4 x5 w := by
  intro n
  induction n with
  | zero =>
    intro x1 x2 x3 x4 x5 zx1 zx2 zx3 zx4 zx5 w tx1 tx2 tx3 tx4 tx5 hI h0 h1 hm
    exact absurd hm (by omega)
  | succ n ih =>
    intro x1 x2 x3 x4 x5 zx1 zx2 zx3 zx4 zx5 w tx1 tx2 tx3 tx4 tx5 hI h0 h1 hm
    unfold pX10_whose_31
    have hk := ix_k hI
    obtain ⟨z2080, t2081⟩ := t_any (w.1 (rl (w.2.2.2.2 0)) 2)
    have f2082 := ixg_r2 hI t2081
    refine ⟨fun c2083 => ?_, fun c2083 => ?_⟩
    · replace c2083 := c_le t2081 tx5 c2083
      exact hp _ _ _  tx4 hI 
    · replace c2083 := c_nle t2081 tx5 c2083
      refine ⟨vp_of tx1 (by omega) (by omega), ?_⟩
      obtain ⟨z2084, t2085⟩ := t_any (w.2.1 162 x1.toNatClampNeg)
      refine sX1_rowAfter   (hI := hI) (tx1 := t2085) (tx2 := tx5) (tx3 := tx2) (tx4 := lit_0)  (hp := fun r_2v984 zr_2v984 w_3v985  tr_2v984 hIw_3v985  => ?_)
      refine ⟨fun c2086 => ?_, fun c2086 => ?_⟩
      · replace c2086 := c_neq tr_2v984 tx3 c2086
        unfold pX10_whose_76
        obtain ⟨z2087, t2088, f2089⟩ := t_add tx5 lit_1
        first | replace f2089 := f2089 (by omega) | clear f2089
        intro x5_1v987 ex5_1v987
        have tx5_1v987 : Ti x5_1v987 z2087 := by rw [ex5_1v987]; exact t2088
        exact ih _ _ _ _ _ _ _ _ _ _ _ tx1 tx2 tx3 tx4 tx5_1v987 hIw_3v985 (by omega) (by omega) (by omega)
      · replace c2086 := c_eq tr_2v984 tx3 c2086
        obtain ⟨z2090, t2091⟩ := t_any (x4 ||| ((1 : Int32) <<< (x5 &&& 31)))
        intro x4_5v986 ex4_5v986
        have tx4_5v986 : Ti x4_5v986 z2090 := by rw [ex4_5v986]; exact t2091
        unfold pX10_whose_76
        obtain ⟨z2092, t2093, f2094⟩ := t_add tx5 lit_1
        first | replace f2094 := f2094 (by omega) | clear f2094
        intro x5_1v988 ex5_1v988
        have tx5_1v988 : Ti x5_1v988 z2092 := by rw [ex5_1v988]; exact t2093
        exact ih _ _ _ _ _ _ _ _ _ _ _ tx1 tx2 tx3 tx4_5v986 tx5_1v988 hIw_3v985 (by omega) (by omega) (by omega)
set_option maxHeartbeats 4000000 in
set_option maxRecDepth 100000 in
theorem sX10_whose {T D : Int} {k : Nat} {post : Int32 → Wd → Prop} {x1 : Int32} {zx1 : Int} {x2 : Int32} {zx2 : Int} {x3 : Int32} {zx3 : Int} {w : Wd}  (tx1 : Ti x1 zx1) (tx2 : Ti x2 zx2) (tx3 : Ti x3 zx3) (hI : IX k T D w)  (hp : ∀ (r : Int32) (zr : Int) (w9 : Wd), Ti r zr → IX k T D w9 → post r w9) : pX10_whose   post  x1 x2 x3 w := by
  unfold pX10_whose
  have hk := ix_k hI
  refine sX10_isSeal   (hI := hI) (tx1 := tx1)  (hp := fun r_1v989 zr_1v989 tr_1v989 p2095 => ?_)
  refine ⟨fun c2096 => ?_, fun c2096 => ?_⟩
  · replace c2096 := c_eq tr_1v989 lit_0 c2096
    exact hp _ _ _  lit_m1 hI 
  · replace c2096 := c_neq tr_1v989 lit_0 c2096
    refine sX10_isHeat   (hI := hI) (tx0 := tx2)  (hp := fun r_4v995 zr_4v995 tr_4v995 p2097 => ?_)
    refine ⟨fun c2098 => ?_, fun c2098 => ?_⟩
    · replace c2098 := c_eq tr_4v995 lit_0 c2098
      exact hp _ _ _  lit_m1 hI 
    · replace c2098 := c_neq tr_4v995 lit_0 c2098
      refine sX10_isRow   (hI := hI) (tx1 := tx3)  (hp := fun r_7v999 zr_7v999 tr_7v999 p2099 => ?_)
      refine ⟨fun c2100 => ?_, fun c2100 => ?_⟩
      · replace c2100 := c_neq tr_7v999 lit_0 c2100
        exact ⟨70000, sX10_whose_31    (hp := hp) 70000 _ _ _ _ _ _ _ _ _ _ _ tx1 tx2 tx3 lit_0 lit_0 hI (by omega) (by omega) (by omega)⟩
      · replace c2100 := c_eq tr_7v999 lit_0 c2100
        exact hp _ _ _  lit_m1 hI 
set_option maxHeartbeats 4000000 in
set_option maxRecDepth 100000 in
theorem sX10_printOf {T D : Int} {k : Nat} {post : Int32 → Wd → Prop} {x1 : Int32} {zx1 : Int} {w : Wd}  (tx1 : Ti x1 zx1) (hI : IX k T D w)  (hp : ∀ (r : Int32) (zr : Int), Ti r zr → post r w) : pX10_printOf   post  x1 w := by
  unfold pX10_printOf
  have hk := ix_k hI
  refine sX10_isSeal   (hI := hI) (tx1 := tx1)  (hp := fun r_1v1001 zr_1v1001 tr_1v1001 p2101 => ?_)
  refine ⟨fun c2102 => ?_, fun c2102 => ?_⟩
  · replace c2102 := c_eq tr_1v1001 lit_0 c2102
    exact hp _ _ lit_0 
  · replace c2102 := c_neq tr_1v1001 lit_0 c2102
    refine ⟨vp_of tx1 (by omega) (by omega), ?_⟩
    obtain ⟨z2103, t2104⟩ := t_any (w.2.1 162 x1.toNatClampNeg)
    obtain ⟨z2105, t2106⟩ := t_any (w.1 (rl (w.2.2.2.2 0)) 0)
    have f2107 := ixg_r0 hI t2106
    refine sX10_turn   (hI := hI) (tx0 := t2104) (tx1 := t2106)  (hp := fun r_4v1005 zr_4v1005 tr_4v1005 => ?_)
    exact hp _ _ tr_4v1005 
set_option maxHeartbeats 4000000 in
set_option maxRecDepth 100000 in
theorem sX10_made_25 {T D : Int} {k : Nat} {post : Int32 → Wd → Prop} {w : Wd}  (hp : ∀ (r : Int32) (zr : Int), Ti r zr → post r w) : ∀ (n : Nat) (x1 : Int32) (x2 : Int32) (x3 : Int32) (x4 : Int32) (zx1 : Int) (zx2 : Int) (zx3 : Int) (zx4 : Int), Ti x1 zx1 → Ti x2 zx2 → Ti x3 zx3 → Ti x4 zx4 → IX k T D w → (0 ≤ zx4 ∧ zx4 ≤ 24) → (25 - zx4) < (n : Int) → pX10_made_25   post  n x1 x2 x3 x4 w := by
  intro n
  induction n with
  | zero =>
    intro x1 x2 x3 x4 zx1 zx2 zx3 zx4  tx1 tx2 tx3 tx4 hI h0 hm
    exact absurd hm (by omega)
  | succ n ih =>
    intro x1 x2 x3 x4 zx1 zx2 zx3 zx4  tx1 tx2 tx3 tx4 hI h0 hm
    unfold pX10_made_25
    have hk := ix_k hI
    obtain ⟨z2108, t2109⟩ := t_any (w.1 160 0)
    have f2110 := ixg_c0 hI t2109
    refine ⟨fun c2111 => ?_, fun c2111 => ?_⟩
    · replace c2111 := c_le t2109 tx4 c2111
      exact hp _ _ tx3 
    · replace c2111 := c_nle t2109 tx4 c2111
      refine sX10_printOf   (hI := hI) (tx1 := tx4)  (hp := fun r_2v1007 zr_2v1007 tr_2v1007 => ?_)
      obtain ⟨z2112, t2113⟩ := t_any (x1 &&& (r_2v1007 ^^^ (-1 : Int32)))
      refine ⟨fun c2114 => ?_, fun c2114 => ?_⟩
      · replace c2114 := c_neq t2113 lit_0 c2114
        unfold pX10_made_74
        obtain ⟨z2115, t2116, f2117⟩ := t_add tx4 lit_1
        first | replace f2117 := f2117 (by omega) | clear f2117
        intro x4_1v1015 ex4_1v1015
        have tx4_1v1015 : Ti x4_1v1015 z2115 := by rw [ex4_1v1015]; exact t2116
        exact ih _ _ _ _ _ _ _ _  tx1 tx2 tx3 tx4_1v1015 hI (by omega) (by omega)
      · replace c2114 := c_eq t2113 lit_0 c2114
        obtain ⟨z2118, t2119⟩ := t_any (r_2v1007 &&& (x1 ^^^ (-1 : Int32)))
        refine sJ6_bitCount_0f7a4   (hI := hI) (tx0 := t2119)  (hp := fun r_5v1012 zr_5v1012 tr_5v1012 p2120 => ?_)
        refine ⟨fun c2121 => ?_, fun c2121 => ?_⟩
        · replace c2121 := c_lt tx2 tr_5v1012 c2121
          unfold pX10_made_74
          obtain ⟨z2122, t2123, f2124⟩ := t_add tx4 lit_1
          first | replace f2124 := f2124 (by omega) | clear f2124
          intro x4_1v1017 ex4_1v1017
          have tx4_1v1017 : Ti x4_1v1017 z2122 := by rw [ex4_1v1017]; exact t2123
          exact ih _ _ _ _ _ _ _ _  tx1 tx2 tx3 tx4_1v1017 hI (by omega) (by omega)
        · replace c2121 := c_nlt tx2 tr_5v1012 c2121
          obtain ⟨z2125, t2126⟩ := t_any (x3 ||| ((1 : Int32) <<< (x4 &&& 31)))
          intro x3_8v1016 ex3_8v1016
          have tx3_8v1016 : Ti x3_8v1016 z2125 := by rw [ex3_8v1016]; exact t2126
          unfold pX10_made_74
          obtain ⟨z2127, t2128, f2129⟩ := t_add tx4 lit_1
          first | replace f2129 := f2129 (by omega) | clear f2129
          intro x4_1v1018 ex4_1v1018
          have tx4_1v1018 : Ti x4_1v1018 z2127 := by rw [ex4_1v1018]; exact t2128
          exact ih _ _ _ _ _ _ _ _  tx1 tx2 tx3_8v1016 tx4_1v1018 hI (by omega) (by omega)
set_option maxHeartbeats 4000000 in
set_option maxRecDepth 100000 in
theorem sX10_made {T D : Int} {k : Nat} {post : Int32 → Wd → Prop} {x1 : Int32} {zx1 : Int} {x2 : Int32} {zx2 : Int} {w : Wd}  (tx1 : Ti x1 zx1) (tx2 : Ti x2 zx2) (hI : IX k T D w)  (hp : ∀ (r : Int32) (zr : Int), Ti r zr → post r w) : pX10_made   post  x1 x2 w := by
  unfold pX10_made
  have hk := ix_k hI
  refine sX10_isRow   (hI := hI) (tx1 := tx1)  (hp := fun r_1v1019 zr_1v1019 tr_1v1019 p2130 => ?_)
  refine ⟨fun c2131 => ?_, fun c2131 => ?_⟩
  · replace c2131 := c_eq tr_1v1019 lit_0 c2131
    exact hp _ _ lit_m1 
  · replace c2131 := c_neq tr_1v1019 lit_0 c2131
    refine ⟨fun c2132 => ?_, fun c2132 => ?_⟩
    · replace c2132 := c_lt tx2 lit_0 c2132
      exact hp _ _ lit_m1 
    · replace c2132 := c_nlt tx2 lit_0 c2132
      refine ⟨fun c2133 => ?_, fun c2133 => ?_⟩
      · replace c2133 := c_le tx2 lit_12 c2133
        exact ⟨70000, sX10_made_25    (hp := hp) 70000 _ _ _ _ _ _ _ _  tx1 tx2 lit_0 lit_0 hI (by omega) (by omega)⟩
      · replace c2133 := c_nle tx2 lit_12 c2133
        exact hp _ _ lit_m1 
set_option maxHeartbeats 4000000 in
set_option maxRecDepth 100000 in
theorem sX10_apart {T D : Int} {k : Nat} {post : Int32 → Wd → Prop} {x1 : Int32} {zx1 : Int} {x2 : Int32} {zx2 : Int} {x3 : Int32} {zx3 : Int} {w : Wd}  (tx1 : Ti x1 zx1) (tx2 : Ti x2 zx2) (tx3 : Ti x3 zx3) (hI : IX k T D w)  (hp : ∀ (r : Int32) (zr : Int), Ti r zr → post r w) : pX10_apart   post  x1 x2 x3 w := by
  unfold pX10_apart
  have hk := ix_k hI
  refine sX10_isSeal   (hI := hI) (tx1 := tx1)  (hp := fun r_1v1021 zr_1v1021 tr_1v1021 p2134 => ?_)
  refine ⟨fun c2135 => ?_, fun c2135 => ?_⟩
  · replace c2135 := c_eq tr_1v1021 lit_0 c2135
    exact hp _ _ lit_m1 
  · replace c2135 := c_neq tr_1v1021 lit_0 c2135
    refine sX10_isSeal   (hI := hI) (tx1 := tx2)  (hp := fun r_4v1027 zr_4v1027 tr_4v1027 p2136 => ?_)
    refine ⟨fun c2137 => ?_, fun c2137 => ?_⟩
    · replace c2137 := c_neq tr_4v1027 lit_0 c2137
      refine ⟨fun c2138 => ?_, fun c2138 => ?_⟩
      · replace c2138 := c_eq tx3 lit_0 c2138
        refine ⟨vp_of tx2 (by omega) (by omega), ?_⟩
        unfold pX10_apart_39
        refine ⟨vp_of tx1 (by omega) (by omega), ?_⟩
        obtain ⟨z2139, t2140⟩ := t_any ((w.2.1 162 x1.toNatClampNeg) ^^^ (w.2.1 162 x2.toNatClampNeg))
        refine sJ6_bitCount_0f7a4   (hI := hI) (tx0 := t2140)  (hp := fun r_1v1033 zr_1v1033 tr_1v1033 p2141 => ?_)
        exact hp _ _ tr_1v1033 
      · replace c2138 := c_neq tx3 lit_0 c2138
        refine sX10_printOf   (hI := hI) (tx1 := tx2)  (hp := fun r_8v1031 zr_8v1031 tr_8v1031 => ?_)
        unfold pX10_apart_39
        refine ⟨vp_of tx1 (by omega) (by omega), ?_⟩
        obtain ⟨z2142, t2143⟩ := t_any ((w.2.1 162 x1.toNatClampNeg) ^^^ r_8v1031)
        refine sJ6_bitCount_0f7a4   (hI := hI) (tx0 := t2143)  (hp := fun r_1v1035 zr_1v1035 tr_1v1035 p2144 => ?_)
        exact hp _ _ tr_1v1035 
    · replace c2137 := c_eq tr_4v1027 lit_0 c2137
      exact hp _ _ lit_m1 
set_option maxHeartbeats 4000000 in
set_option maxRecDepth 100000 in
theorem sX10_heats_32 {T D : Int} {k : Nat} {post : Int32 → Wd → Prop}   (hp : ∀ (r : Int32) (zr : Int) (w9 : Wd), Ti r zr → IX k T D w9 → post r w9) : ∀ (n : Nat) (x1 : Int32) (x2 : Int32) (x3 : Int32) (x4 : Int32) (x5 : Int32) (zx1 : Int) (zx2 : Int) (zx3 : Int) (zx4 : Int) (zx5 : Int) (w : Wd), Ti x1 zx1 → Ti x2 zx2 → Ti x3 zx3 → Ti x4 zx4 → Ti x5 zx5 → IX k T D w → (0 ≤ zx5 ∧ zx5 ≤ 10) → (0 ≤ zx1 ∧ zx1 ≤ 23) → (11 - zx5) < (n : Int) → pX10_heats_32   post  n x1 x2 x3 x4 x5 w := by
  intro n
  induction n with
  | zero =>
    intro x1 x2 x3 x4 x5 zx1 zx2 zx3 zx4 zx5 w tx1 tx2 tx3 tx4 tx5 hI h0 h1 hm
    exact absurd hm (by omega)
  | succ n ih =>
    intro x1 x2 x3 x4 x5 zx1 zx2 zx3 zx4 zx5 w tx1 tx2 tx3 tx4 tx5 hI h0 h1 hm
    unfold pX10_heats_32
    have hk := ix_k hI
    refine ⟨fun c2145 => ?_, fun c2145 => ?_⟩
    · replace c2145 := c_le lit_10 tx5 c2145
      exact hp _ _ _  tx4 hI 
    · replace c2145 := c_nle lit_10 tx5 c2145
      refine ⟨vp_of tx1 (by omega) (by omega), ?_⟩
      obtain ⟨z2146, t2147⟩ := t_any (w.2.1 162 x1.toNatClampNeg)
      refine sX1_rowAfter   (hI := hI) (tx1 := t2147) (tx2 := tx2) (tx3 := tx5) (tx4 := lit_0)  (hp := fun r_2v1037 zr_2v1037 w_3v1038  tr_2v1037 hIw_3v1038  => ?_)
      refine ⟨fun c2148 => ?_, fun c2148 => ?_⟩
      · replace c2148 := c_neq tr_2v1037 tx3 c2148
        unfold pX10_heats_72
        obtain ⟨z2149, t2150, f2151⟩ := t_add tx5 lit_1
        first | replace f2151 := f2151 (by omega) | clear f2151
        intro x5_1v1040 ex5_1v1040
        have tx5_1v1040 : Ti x5_1v1040 z2149 := by rw [ex5_1v1040]; exact t2150
        exact ih _ _ _ _ _ _ _ _ _ _ _ tx1 tx2 tx3 tx4 tx5_1v1040 hIw_3v1038 (by omega) (by omega) (by omega)
      · replace c2148 := c_eq tr_2v1037 tx3 c2148
        obtain ⟨z2152, t2153⟩ := t_any (x4 ||| ((1 : Int32) <<< (x5 &&& 31)))
        intro x4_5v1039 ex4_5v1039
        have tx4_5v1039 : Ti x4_5v1039 z2152 := by rw [ex4_5v1039]; exact t2153
        unfold pX10_heats_72
        obtain ⟨z2154, t2155, f2156⟩ := t_add tx5 lit_1
        first | replace f2156 := f2156 (by omega) | clear f2156
        intro x5_1v1041 ex5_1v1041
        have tx5_1v1041 : Ti x5_1v1041 z2154 := by rw [ex5_1v1041]; exact t2155
        exact ih _ _ _ _ _ _ _ _ _ _ _ tx1 tx2 tx3 tx4_5v1039 tx5_1v1041 hIw_3v1038 (by omega) (by omega) (by omega)
set_option maxHeartbeats 4000000 in
set_option maxRecDepth 100000 in
theorem sX10_heats {T D : Int} {k : Nat} {post : Int32 → Wd → Prop} {x1 : Int32} {zx1 : Int} {x2 : Int32} {zx2 : Int} {x3 : Int32} {zx3 : Int} {w : Wd}  (tx1 : Ti x1 zx1) (tx2 : Ti x2 zx2) (tx3 : Ti x3 zx3) (hI : IX k T D w)  (hp : ∀ (r : Int32) (zr : Int) (w9 : Wd), Ti r zr → IX k T D w9 → post r w9) : pX10_heats   post  x1 x2 x3 w := by
  unfold pX10_heats
  have hk := ix_k hI
  refine sX10_isSeal   (hI := hI) (tx1 := tx1)  (hp := fun r_1v1042 zr_1v1042 tr_1v1042 p2157 => ?_)
  refine ⟨fun c2158 => ?_, fun c2158 => ?_⟩
  · replace c2158 := c_eq tr_1v1042 lit_0 c2158
    exact hp _ _ _  lit_m1 hI 
  · replace c2158 := c_neq tr_1v1042 lit_0 c2158
    refine sX10_isHand   (hI := hI) (tx1 := tx2)  (hp := fun r_4v1048 zr_4v1048 tr_4v1048 p2159 => ?_)
    refine ⟨fun c2160 => ?_, fun c2160 => ?_⟩
    · replace c2160 := c_eq tr_4v1048 lit_0 c2160
      exact hp _ _ _  lit_m1 hI 
    · replace c2160 := c_neq tr_4v1048 lit_0 c2160
      refine sX10_isRow   (hI := hI) (tx1 := tx3)  (hp := fun r_7v1052 zr_7v1052 tr_7v1052 p2161 => ?_)
      refine ⟨fun c2162 => ?_, fun c2162 => ?_⟩
      · replace c2162 := c_neq tr_7v1052 lit_0 c2162
        exact ⟨70000, sX10_heats_32    (hp := hp) 70000 _ _ _ _ _ _ _ _ _ _ _ tx1 tx2 tx3 lit_0 lit_0 hI (by omega) (by omega) (by omega)⟩
      · replace c2162 := c_eq tr_7v1052 lit_0 c2162
        exact hp _ _ _  lit_m1 hI 
set_option maxHeartbeats 4000000 in
set_option maxRecDepth 100000 in
theorem sX10_luck_27 {T D : Int} {k : Nat} {post : Int32 → Wd → Prop}   (hp : ∀ (r : Int32) (zr : Int) (w9 : Wd), Ti r zr → IX k T D w9 → post r w9) : ∀ (n : Nat) (x1 : Int32) (x2 : Int32) (x3 : Int32) (x4 : Int32) (x5 : Int32) (x6 : Int32) (zx1 : Int) (zx2 : Int) (zx3 : Int) (zx4 : Int) (zx5 : Int) (zx6 : Int) (w : Wd), Ti x1 zx1 → Ti x2 zx2 → Ti x3 zx3 → Ti x4 zx4 → Ti x5 zx5 → Ti x6 zx6 → IX k T D w → (0 ≤ zx6 ∧ zx6 ≤ 100) → (0 ≤ zx1 ∧ zx1 ≤ 23) → (101 - zx6) < (n : Int) → pX10_luck_27   post  n x1 x2 x3 x4 x5 x6 w := by
  intro n
  induction n with
  | zero =>
    intro x1 x2 x3 x4 x5 x6 zx1 zx2 zx3 zx4 zx5 zx6 w tx1 tx2 tx3 tx4 tx5 tx6 hI h0 h1 hm
    exact absurd hm (by omega)
  | succ n ih =>
    intro x1 x2 x3 x4 x5 x6 zx1 zx2 zx3 zx4 zx5 zx6 w tx1 tx2 tx3 tx4 tx5 tx6 hI h0 h1 hm
    unfold pX10_luck_27
    have hk := ix_k hI
    refine ⟨fun c2163 => ?_, fun c2163 => ?_⟩
    · replace c2163 := c_le lit_100 tx6 c2163
      exact hp _ _ _  tx5 hI 
    · replace c2163 := c_nle lit_100 tx6 c2163
      refine ⟨vp_of tx1 (by omega) (by omega), ?_⟩
      obtain ⟨z2164, t2165⟩ := t_any (w.2.1 162 x1.toNatClampNeg)
      refine sX1_rowAfter   (hI := hI) (tx1 := t2165) (tx2 := tx2) (tx3 := tx3) (tx4 := tx6)  (hp := fun r_2v1054 zr_2v1054 w_3v1055  tr_2v1054 hIw_3v1055  => ?_)
      refine ⟨fun c2166 => ?_, fun c2166 => ?_⟩
      · replace c2166 := c_neq tr_2v1054 tx4 c2166
        unfold pX10_luck_62
        obtain ⟨z2167, t2168, f2169⟩ := t_add tx6 lit_1
        first | replace f2169 := f2169 (by omega) | clear f2169
        intro x6_1v1057 ex6_1v1057
        have tx6_1v1057 : Ti x6_1v1057 z2167 := by rw [ex6_1v1057]; exact t2168
        exact ih _ _ _ _ _ _ _ _ _ _ _ _ _ tx1 tx2 tx3 tx4 tx5 tx6_1v1057 hIw_3v1055 (by omega) (by omega) (by omega)
      · replace c2166 := c_eq tr_2v1054 tx4 c2166
        obtain ⟨z2170, t2171, f2172⟩ := t_add tx5 lit_1
        first | replace f2172 := f2172 (by omega) | clear f2172
        intro x5_5v1056 ex5_5v1056
        have tx5_5v1056 : Ti x5_5v1056 z2170 := by rw [ex5_5v1056]; exact t2171
        unfold pX10_luck_62
        obtain ⟨z2173, t2174, f2175⟩ := t_add tx6 lit_1
        first | replace f2175 := f2175 (by omega) | clear f2175
        intro x6_1v1058 ex6_1v1058
        have tx6_1v1058 : Ti x6_1v1058 z2173 := by rw [ex6_1v1058]; exact t2174
        exact ih _ _ _ _ _ _ _ _ _ _ _ _ _ tx1 tx2 tx3 tx4 tx5_5v1056 tx6_1v1058 hIw_3v1055 (by omega) (by omega) (by omega)
set_option maxHeartbeats 4000000 in
set_option maxRecDepth 100000 in
theorem sX10_luck {T D : Int} {k : Nat} {post : Int32 → Wd → Prop} {x1 : Int32} {zx1 : Int} {x2 : Int32} {zx2 : Int} {x3 : Int32} {zx3 : Int} {x4 : Int32} {zx4 : Int} {w : Wd}  (tx1 : Ti x1 zx1) (tx2 : Ti x2 zx2) (tx3 : Ti x3 zx3) (tx4 : Ti x4 zx4) (hI : IX k T D w)  (hp : ∀ (r : Int32) (zr : Int) (w9 : Wd), Ti r zr → IX k T D w9 → post r w9) : pX10_luck   post  x1 x2 x3 x4 w := by
  unfold pX10_luck
  have hk := ix_k hI
  refine sX10_canCast   (hI := hI) (tx1 := tx1) (tx2 := tx2) (tx3 := tx3)  (hp := fun r_1v1059 zr_1v1059 tr_1v1059 p2176 => ?_)
  refine ⟨fun c2177 => ?_, fun c2177 => ?_⟩
  · replace c2177 := c_eq tr_1v1059 lit_0 c2177
    exact hp _ _ _  lit_m1 hI 
  · replace c2177 := c_neq tr_1v1059 lit_0 c2177
    refine sX10_isRow   (hI := hI) (tx1 := tx4)  (hp := fun r_4v1063 zr_4v1063 tr_4v1063 p2178 => ?_)
    refine ⟨fun c2179 => ?_, fun c2179 => ?_⟩
    · replace c2179 := c_neq tr_4v1063 lit_0 c2179
      exact ⟨70000, sX10_luck_27    (hp := hp) 70000 _ _ _ _ _ _ _ _ _ _ _ _ _ tx1 tx2 tx3 tx4 lit_0 lit_0 hI (by omega) (by omega) (by omega)⟩
    · replace c2179 := c_eq tr_4v1063 lit_0 c2179
      exact hp _ _ _  lit_m1 hI 
set_option maxHeartbeats 4000000 in
set_option maxRecDepth 100000 in
theorem sX10_clearByRow_2 {T D : Int} {k : Nat} {post : Wd → Prop}   (hp : ∀ (w9 : Wd), IX k T D w9 → post w9) : ∀ (n : Nat) (x1 : Int32) (zx1 : Int) (w : Wd), Ti x1 zx1 → IX k T D w → (0 ≤ zx1 ∧ zx1 ≤ 4096) → (4097 - zx1) < (n : Int) → pX10_clearByRow_2   post  n x1 w := by
  intro n
  induction n with
  | zero =>
    intro x1 zx1 w tx1 hI h0 hm
    exact absurd hm (by omega)
  | succ n ih =>
    intro x1 zx1 w tx1 hI h0 hm
    unfold pX10_clearByRow_2
    have hk := ix_k hI
    refine sX7_rows   (hI := hI)   (hp := fun r_1v1065 zr_1v1065 tr_1v1065 p2180 => ?_)
    refine ⟨fun c2181 => ?_, fun c2181 => ?_⟩
    · replace c2181 := c_le tr_1v1065 tx1 c2181
      exact hp  _   hI 
    · replace c2181 := c_nle tr_1v1065 tx1 c2181
      refine ⟨vp_of tx1 (by omega) (by omega), ?_⟩
      intro w_4v1069 ew_4v1069
      have hIw_4v1069 := ixs_A hI ew_4v1069 (by decide)
      obtain ⟨z2182, t2183, f2184⟩ := t_add tx1 lit_1
      first | replace f2184 := f2184 (by omega) | clear f2184
      intro x1_5v1070 ex1_5v1070
      have tx1_5v1070 : Ti x1_5v1070 z2182 := by rw [ex1_5v1070]; exact t2183
      exact ih _ _ _ tx1_5v1070 hIw_4v1069 (by omega) (by omega)
set_option maxHeartbeats 4000000 in
set_option maxRecDepth 100000 in
theorem sX10_clearByRow {T D : Int} {k : Nat} {post : Wd → Prop}  {w : Wd}   (hI : IX k T D w)  (hp : ∀ (w9 : Wd), IX k T D w9 → post w9) : pX10_clearByRow   post   w := by
  unfold pX10_clearByRow
  have hk := ix_k hI
  exact ⟨70000, sX10_clearByRow_2    (hp := hp) 70000 _ _ _ lit_0 hI (by omega) (by omega)⟩
set_option maxHeartbeats 4000000 in
set_option maxRecDepth 100000 in
theorem sX10_likely_91 {T D : Int} {k : Nat} {post : Int32 → Wd → Prop}   (hp : ∀ (r : Int32) (zr : Int) (w9 : Wd), Ti r zr → IX k T D w9 → post r w9) : ∀ (n : Nat) (x4 : Int32) (x5 : Int32) (x6 : Int32) (zx4 : Int) (zx5 : Int) (zx6 : Int) (w : Wd), Ti x4 zx4 → Ti x5 zx5 → Ti x6 zx6 → IX k T D w → (0 ≤ zx6 ∧ zx6 ≤ 4096) → (0 ≤ zx5 ∧ zx5 ≤ 4095) → (4097 - zx6) < (n : Int) → pX10_likely_91   post  n x4 x5 x6 w := by
  intro n
  induction n with
  | zero =>
    intro x4 x5 x6 zx4 zx5 zx6 w tx4 tx5 tx6 hI h0 h1 hm
    exact absurd hm (by omega)
  | succ n ih =>
    intro x4 x5 x6 zx4 zx5 zx6 w tx4 tx5 tx6 hI h0 h1 hm
    unfold pX10_likely_91
    have hk := ix_k hI
    refine sX7_rows   (hI := hI)   (hp := fun r_1v1071 zr_1v1071 tr_1v1071 p2185 => ?_)
    refine ⟨fun c2186 => ?_, fun c2186 => ?_⟩
    · replace c2186 := c_le tr_1v1071 tx6 c2186
      refine ⟨fun c2187 => ?_, fun c2187 => ?_⟩
      · replace c2187 := c_neq tx4 lit_0 c2187
        refine ⟨vp_of tx5 (by omega) (by omega), ?_⟩
        obtain ⟨z2188, t2189⟩ := t_any (w.2.1 13 x5.toNatClampNeg)
        exact hp _ _ _  t2189 hI 
      · replace c2187 := c_eq tx4 lit_0 c2187
        exact hp _ _ _  tx5 hI 
    · replace c2186 := c_nle tr_1v1071 tx6 c2186
      refine ⟨vp_of tx6 (by omega) (by omega), ?_⟩
      refine ⟨vp_of tx5 (by omega) (by omega), ?_⟩
      obtain ⟨z2190, t2191⟩ := t_any (w.2.1 13 x6.toNatClampNeg)
      obtain ⟨z2192, t2193⟩ := t_any (w.2.1 13 x5.toNatClampNeg)
      refine ⟨fun c2194 => ?_, fun c2194 => ?_⟩
      · replace c2194 := c_le t2191 t2193 c2194
        unfold pX10_likely_124
        obtain ⟨z2195, t2196, f2197⟩ := t_add tx6 lit_1
        first | replace f2197 := f2197 (by omega) | clear f2197
        intro x6_1v1073 ex6_1v1073
        have tx6_1v1073 : Ti x6_1v1073 z2195 := by rw [ex6_1v1073]; exact t2196
        exact ih _ _ _ _ _ _ _ tx4 tx5 tx6_1v1073 hI (by omega) (by omega) (by omega)
      · replace c2194 := c_nle t2191 t2193 c2194
        unfold pX10_likely_124
        obtain ⟨z2198, t2199, f2200⟩ := t_add tx6 lit_1
        first | replace f2200 := f2200 (by omega) | clear f2200
        intro x6_1v1074 ex6_1v1074
        have tx6_1v1074 : Ti x6_1v1074 z2198 := by rw [ex6_1v1074]; exact t2199
        exact ih _ _ _ _ _ _ _ tx4 tx6 tx6_1v1074 hI (by omega) (by omega) (by omega)
set_option maxHeartbeats 4000000 in
set_option maxRecDepth 100000 in
theorem sX10_likely_30 {T D : Int} {k : Nat} {post : Int32 → Wd → Prop}   (hp : ∀ (r : Int32) (zr : Int) (w9 : Wd), Ti r zr → IX k T D w9 → post r w9) : ∀ (n : Nat) (x1 : Int32) (x2 : Int32) (x3 : Int32) (x4 : Int32) (x5 : Int32) (zx1 : Int) (zx2 : Int) (zx3 : Int) (zx4 : Int) (zx5 : Int) (w : Wd), Ti x1 zx1 → Ti x2 zx2 → Ti x3 zx3 → Ti x4 zx4 → Ti x5 zx5 → IX k T D w → (0 ≤ zx5 ∧ zx5 ≤ 100) → (0 ≤ zx1 ∧ zx1 ≤ 23) → (101 - zx5) < (n : Int) → pX10_likely_30   post  n x1 x2 x3 x4 x5 w := by
  intro n
  induction n with
  | zero =>
    intro x1 x2 x3 x4 x5 zx1 zx2 zx3 zx4 zx5 w tx1 tx2 tx3 tx4 tx5 hI h0 h1 hm
    exact absurd hm (by omega)
  | succ n ih =>
    intro x1 x2 x3 x4 x5 zx1 zx2 zx3 zx4 zx5 w tx1 tx2 tx3 tx4 tx5 hI h0 h1 hm
    unfold pX10_likely_30
    have hk := ix_k hI
    refine ⟨fun c2201 => ?_, fun c2201 => ?_⟩
    · replace c2201 := c_le lit_100 tx5 c2201
      exact ⟨70000, sX10_likely_91    (hp := hp) 70000 _ _ _ _ _ _ _ tx4 lit_0 lit_1 hI (by omega) (by omega) (by omega)⟩
    · replace c2201 := c_nle lit_100 tx5 c2201
      refine ⟨vp_of tx1 (by omega) (by omega), ?_⟩
      obtain ⟨z2202, t2203⟩ := t_any (w.2.1 162 x1.toNatClampNeg)
      refine sX1_rowAfter   (hI := hI) (tx1 := t2203) (tx2 := tx2) (tx3 := tx3) (tx4 := tx5)  (hp := fun r_2v1075 zr_2v1075 w_3v1076  tr_2v1075 hIw_3v1076  => ?_)
      refine sX10_isRow   (hI := hIw_3v1076) (tx1 := tr_2v1075)  (hp := fun r_4v1077 zr_4v1077 tr_4v1077 p2204 => ?_)
      refine ⟨fun c2205 => ?_, fun c2205 => ?_⟩
      · replace c2205 := c_eq tr_4v1077 lit_0 c2205
        unfold pX10_likely_79
        obtain ⟨z2206, t2207, f2208⟩ := t_add tx5 lit_1
        first | replace f2208 := f2208 (by omega) | clear f2208
        intro x5_1v1081 ex5_1v1081
        have tx5_1v1081 : Ti x5_1v1081 z2206 := by rw [ex5_1v1081]; exact t2207
        exact ih _ _ _ _ _ _ _ _ _ _ _ tx1 tx2 tx3 tx4 tx5_1v1081 hIw_3v1076 (by omega) (by omega) (by omega)
      · replace c2205 := c_neq tr_4v1077 lit_0 c2205
        refine ⟨vp_of tr_2v1075 (by omega) (by omega), ?_⟩
        refine ⟨vp_of tr_2v1075 (by omega) (by omega), ?_⟩
        intro w_7v1080 ew_7v1080
        have hIw_7v1080 := ixs_A hIw_3v1076 ew_7v1080 (by decide)
        unfold pX10_likely_79
        obtain ⟨z2209, t2210, f2211⟩ := t_add tx5 lit_1
        first | replace f2211 := f2211 (by omega) | clear f2211
        intro x5_1v1082 ex5_1v1082
        have tx5_1v1082 : Ti x5_1v1082 z2209 := by rw [ex5_1v1082]; exact t2210
        exact ih _ _ _ _ _ _ _ _ _ _ _ tx1 tx2 tx3 tx4 tx5_1v1082 hIw_7v1080 (by omega) (by omega) (by omega)
set_option maxHeartbeats 4000000 in
set_option maxRecDepth 100000 in
theorem sX10_likely {T D : Int} {k : Nat} {post : Int32 → Wd → Prop} {x1 : Int32} {zx1 : Int} {x2 : Int32} {zx2 : Int} {x3 : Int32} {zx3 : Int} {x4 : Int32} {zx4 : Int} {w : Wd}  (tx1 : Ti x1 zx1) (tx2 : Ti x2 zx2) (tx3 : Ti x3 zx3) (tx4 : Ti x4 zx4) (hI : IX k T D w)  (hp : ∀ (r : Int32) (zr : Int) (w9 : Wd), Ti r zr → IX k T D w9 → post r w9) : pX10_likely   post  x1 x2 x3 x4 w := by
  unfold pX10_likely
  have hk := ix_k hI
  refine sX10_canCast   (hI := hI) (tx1 := tx1) (tx2 := tx2) (tx3 := tx3)  (hp := fun r_1v1083 zr_1v1083 tr_1v1083 p2212 => ?_)
  refine ⟨fun c2213 => ?_, fun c2213 => ?_⟩
  · replace c2213 := c_eq tr_1v1083 lit_0 c2213
    exact hp _ _ _  lit_m1 hI 
  · replace c2213 := c_neq tr_1v1083 lit_0 c2213
    refine ⟨fun c2214 => ?_, fun c2214 => ?_⟩
    · replace c2214 := c_lt tx4 lit_0 c2214
      exact hp _ _ _  lit_m1 hI 
    · replace c2214 := c_nlt tx4 lit_0 c2214
      refine ⟨fun c2215 => ?_, fun c2215 => ?_⟩
      · replace c2215 := c_le tx4 lit_1 c2215
        refine sX10_clearByRow   (hI := hI)   (hp := fun  w_6v1086   hIw_6v1086  => ?_)
        exact ⟨70000, sX10_likely_30    (hp := hp) 70000 _ _ _ _ _ _ _ _ _ _ _ tx1 tx2 tx3 tx4 lit_0 hIw_6v1086 (by omega) (by omega) (by omega)⟩
      · replace c2215 := c_nle tx4 lit_1 c2215
        exact hp _ _ _  lit_m1 hI 
set_option maxHeartbeats 4000000 in
set_option maxRecDepth 100000 in
theorem sX10_goRound_10 {T D : Int} {k : Nat} {post : Int32 → Wd → Prop}   (hp : ∀ (r : Int32) (zr : Int) (w9 : Wd), Ti r zr → IX k T D w9 → post r w9) : ∀ (n : Nat) (x2 : Int32) (x3 : Int32) (x4 : Int32) (x5 : Int32) (zx2 : Int) (zx3 : Int) (zx4 : Int) (zx5 : Int) (w : Wd), Ti x2 zx2 → Ti x3 zx3 → Ti x4 zx4 → Ti x5 zx5 → IX k T D w → (0 ≤ zx5 ∧ zx5 ≤ 4097) → (4098 - zx5) < (n : Int) → pX10_goRound_10   post  n x2 x3 x4 x5 w := by
  intro n
  induction n with
  | zero =>
    intro x2 x3 x4 x5 zx2 zx3 zx4 zx5 w tx2 tx3 tx4 tx5 hI h0 hm
    exact absurd hm (by omega)
  | succ n ih =>
    intro x2 x3 x4 x5 zx2 zx3 zx4 zx5 w tx2 tx3 tx4 tx5 hI h0 hm
    unfold pX10_goRound_10
    have hk := ix_k hI
    refine sX7_rows   (hI := hI)   (hp := fun r_1v1087 zr_1v1087 tr_1v1087 p2216 => ?_)
    refine ⟨fun c2217 => ?_, fun c2217 => ?_⟩
    · replace c2217 := c_lt tr_1v1087 tx5 c2217
      exact hp _ _ _  tx4 hI 
    · replace c2217 := c_nlt tr_1v1087 tx5 c2217
      refine sX10_isRow   (hI := hI) (tx1 := tx4)  (hp := fun r_4v1095 zr_4v1095 tr_4v1095 p2218 => ?_)
      refine ⟨fun c2219 => ?_, fun c2219 => ?_⟩
      · replace c2219 := c_eq tr_4v1095 lit_0 c2219
        exact hp _ _ _  tx4 hI 
      · replace c2219 := c_neq tr_4v1095 lit_0 c2219
        refine ⟨vp_of tx4 (by omega) (by omega), ?_⟩
        obtain ⟨z2220, t2221⟩ := t_any (w.2.1 13 x4.toNatClampNeg)
        refine ⟨fun c2222 => ?_, fun c2222 => ?_⟩
        · replace c2222 := c_neq t2221 lit_0 c2222
          exact hp _ _ _  tx4 hI 
        · replace c2222 := c_eq t2221 lit_0 c2222
          refine ⟨vp_of tx4 (by omega) (by omega), ?_⟩
          intro w_8v1101 ew_8v1101
          have hIw_8v1101 := ixs_A hI ew_8v1101 (by decide)
          refine sX1_rowAfter   (hI := hIw_8v1101) (tx1 := tx4) (tx2 := tx2) (tx3 := tx3) (tx4 := lit_0)  (hp := fun r_9v1102 zr_9v1102 w_10v1103  tr_9v1102 hIw_10v1103  => ?_)
          obtain ⟨z2223, t2224, f2225⟩ := t_add tx5 lit_1
          first | replace f2225 := f2225 (by omega) | clear f2225
          intro x5_11v1104 ex5_11v1104
          have tx5_11v1104 : Ti x5_11v1104 z2223 := by rw [ex5_11v1104]; exact t2224
          exact ih _ _ _ _ _ _ _ _ _ tx2 tx3 tr_9v1102 tx5_11v1104 hIw_10v1103 (by omega) (by omega)
set_option maxHeartbeats 4000000 in
set_option maxRecDepth 100000 in
theorem sX10_goRound {T D : Int} {k : Nat} {post : Int32 → Wd → Prop} {x1 : Int32} {zx1 : Int} {x2 : Int32} {zx2 : Int} {x3 : Int32} {zx3 : Int} {w : Wd}  (tx1 : Ti x1 zx1) (tx2 : Ti x2 zx2) (tx3 : Ti x3 zx3) (hI : IX k T D w)  (hp : ∀ (r : Int32) (zr : Int) (w9 : Wd), Ti r zr → IX k T D w9 → post r w9) : pX10_goRound   post  x1 x2 x3 w := by
  unfold pX10_goRound
  have hk := ix_k hI
  refine sX10_clearByRow   (hI := hI)   (hp := fun  w_1v1105   hIw_1v1105  => ?_)
  exact ⟨70000, sX10_goRound_10    (hp := hp) 70000 _ _ _ _ _ _ _ _ _ tx2 tx3 tx1 lit_1 hIw_1v1105 (by omega) (by omega)⟩
set_option maxHeartbeats 4000000 in
set_option maxRecDepth 100000 in
theorem sX10_fades {T D : Int} {k : Nat} {post : Int32 → Wd → Prop} {x1 : Int32} {zx1 : Int} {x2 : Int32} {zx2 : Int} {x3 : Int32} {zx3 : Int} {w : Wd}  (tx1 : Ti x1 zx1) (tx2 : Ti x2 zx2) (tx3 : Ti x3 zx3) (hI : IX k T D w)  (hp : ∀ (r : Int32) (zr : Int) (w9 : Wd), Ti r zr → IX k T D w9 → post r w9) : pX10_fades   post  x1 x2 x3 w := by
  unfold pX10_fades
  have hk := ix_k hI
  refine sX10_canCast   (hI := hI) (tx1 := tx1) (tx2 := tx2) (tx3 := tx3)  (hp := fun r_1v1106 zr_1v1106 tr_1v1106 p2226 => ?_)
  refine ⟨fun c2227 => ?_, fun c2227 => ?_⟩
  · replace c2227 := c_neq tr_1v1106 lit_0 c2227
    refine ⟨vp_of tx1 (by omega) (by omega), ?_⟩
    obtain ⟨z2228, t2229⟩ := t_any (w.2.1 162 x1.toNatClampNeg)
    refine sX10_goRound   (hI := hI) (tx1 := t2229) (tx2 := tx2) (tx3 := tx3)  (hp := fun r_4v1110 zr_4v1110 w_5v1111  tr_4v1110 hIw_5v1111  => ?_)
    obtain ⟨z2230, t2231⟩ := t_any (w_5v1111.2.1 13 (0 : Int32).toNatClampNeg)
    obtain ⟨z2232, t2233, f2234⟩ := t_sub t2231 lit_1
    first | replace f2234 := f2234 (by omega) | clear f2234
    exact hp _ _ _  t2233 hIw_5v1111 
  · replace c2227 := c_eq tr_1v1106 lit_0 c2227
    exact hp _ _ _  lit_m1 hI 
set_option maxHeartbeats 4000000 in
set_option maxRecDepth 100000 in
theorem sX10_kin_36 {T D : Int} {k : Nat} {post : Int32 → Wd → Prop} {w : Wd}  (hp : ∀ (r : Int32) (zr : Int), Ti r zr → post r w) : ∀ (n : Nat) (x1 : Int32) (x2 : Int32) (x3 : Int32) (x4 : Int32) (x5 : Int32) (x6 : Int32) (zx1 : Int) (zx2 : Int) (zx3 : Int) (zx4 : Int) (zx5 : Int) (zx6 : Int), Ti x1 zx1 → Ti x2 zx2 → Ti x3 zx3 → Ti x4 zx4 → Ti x5 zx5 → Ti x6 zx6 → IX k T D w → (0 ≤ zx6 ∧ zx6 ≤ 48) → (0 ≤ zx1 ∧ zx1 ≤ 23) → (0 ≤ zx2 ∧ zx2 ≤ 23) → (49 - zx6) < (n : Int) → pX10_kin_36   post  n x1 x2 x3 x4 x5 x6 w := by
  intro n
  induction n with
  | zero =>
    intro x1 x2 x3 x4 x5 x6 zx1 zx2 zx3 zx4 zx5 zx6  tx1 tx2 tx3 tx4 tx5 tx6 hI h0 h1 h2 hm
    exact absurd hm (by omega)
  | succ n ih =>
    intro x1 x2 x3 x4 x5 x6 zx1 zx2 zx3 zx4 zx5 zx6  tx1 tx2 tx3 tx4 tx5 tx6 hI h0 h1 h2 hm
    unfold pX10_kin_36
    have hk := ix_k hI
    refine ⟨fun c2235 => ?_, fun c2235 => ?_⟩
    · replace c2235 := c_le lit_48 tx6 c2235
      unfold pX10_kin_108
      refine ⟨fun c2236 => ?_, fun c2236 => ?_⟩
      · replace c2236 := c_eq tx3 lit_0 c2236
        exact hp _ _ tx4 
      · replace c2236 := c_neq tx3 lit_0 c2236
        refine sX10_isSeal   (hI := hI) (tx1 := tx4)  (hp := fun r_2v1118 zr_2v1118 tr_2v1118 p2237 => ?_)
        refine ⟨fun c2238 => ?_, fun c2238 => ?_⟩
        · replace c2238 := c_neq tr_2v1118 lit_0 c2238
          refine ⟨vp_of tx1 (by omega) (by omega), ?_⟩
          refine ⟨vp_of tx2 (by omega) (by omega), ?_⟩
          refine ⟨vp_of tx4 (by omega) (by omega), ?_⟩
          obtain ⟨z2239, t2240⟩ := t_any (w.2.1 166 x1.toNatClampNeg)
          obtain ⟨z2241, t2242⟩ := t_any (w.2.1 166 x2.toNatClampNeg)
          obtain ⟨z2243, t2244, f2245⟩ := t_add t2240 t2242
          first | replace f2245 := f2245 (by omega) | clear f2245
          obtain ⟨z2246, t2247⟩ := t_any (w.2.1 166 x4.toNatClampNeg)
          obtain ⟨z2248, t2249, f2250⟩ := t_mul lit_2 t2247
          first | replace f2250 := f2250 (by omega) | clear f2250
          obtain ⟨z2251, t2252, f2253⟩ := t_sub t2244 t2249
          first | replace f2253 := f2253 (by omega) | clear f2253
          exact hp _ _ t2252 
        · replace c2238 := c_eq tr_2v1118 lit_0 c2238
          exact hp _ _ tx4 
    · replace c2235 := c_nle lit_48 tx6 c2235
      refine ⟨fun c2254 => ?_, fun c2254 => ?_⟩
      · replace c2254 := c_eq tx4 tx5 c2254
        unfold pX10_kin_108
        refine ⟨fun c2255 => ?_, fun c2255 => ?_⟩
        · replace c2255 := c_eq tx3 lit_0 c2255
          exact hp _ _ tx4 
        · replace c2255 := c_neq tx3 lit_0 c2255
          refine sX10_isSeal   (hI := hI) (tx1 := tx4)  (hp := fun r_2v1120 zr_2v1120 tr_2v1120 p2256 => ?_)
          refine ⟨fun c2257 => ?_, fun c2257 => ?_⟩
          · replace c2257 := c_neq tr_2v1120 lit_0 c2257
            refine ⟨vp_of tx1 (by omega) (by omega), ?_⟩
            refine ⟨vp_of tx2 (by omega) (by omega), ?_⟩
            refine ⟨vp_of tx4 (by omega) (by omega), ?_⟩
            obtain ⟨z2258, t2259⟩ := t_any (w.2.1 166 x1.toNatClampNeg)
            obtain ⟨z2260, t2261⟩ := t_any (w.2.1 166 x2.toNatClampNeg)
            obtain ⟨z2262, t2263, f2264⟩ := t_add t2259 t2261
            first | replace f2264 := f2264 (by omega) | clear f2264
            obtain ⟨z2265, t2266⟩ := t_any (w.2.1 166 x4.toNatClampNeg)
            obtain ⟨z2267, t2268, f2269⟩ := t_mul lit_2 t2266
            first | replace f2269 := f2269 (by omega) | clear f2269
            obtain ⟨z2270, t2271, f2272⟩ := t_sub t2263 t2268
            first | replace f2272 := f2272 (by omega) | clear f2272
            exact hp _ _ t2271 
          · replace c2257 := c_eq tr_2v1120 lit_0 c2257
            exact hp _ _ tx4 
      · replace c2254 := c_neq tx4 tx5 c2254
        refine sX10_isSeal   (hI := hI) (tx1 := tx4)  (hp := fun r_3v1112 zr_3v1112 tr_3v1112 p2273 => ?_)
        refine ⟨fun c2274 => ?_, fun c2274 => ?_⟩
        · replace c2274 := c_eq tr_3v1112 lit_0 c2274
          unfold pX10_kin_108
          refine ⟨fun c2275 => ?_, fun c2275 => ?_⟩
          · replace c2275 := c_eq tx3 lit_0 c2275
            exact hp _ _ tx4 
          · replace c2275 := c_neq tx3 lit_0 c2275
            refine sX10_isSeal   (hI := hI) (tx1 := tx4)  (hp := fun r_2v1126 zr_2v1126 tr_2v1126 p2276 => ?_)
            refine ⟨fun c2277 => ?_, fun c2277 => ?_⟩
            · replace c2277 := c_neq tr_2v1126 lit_0 c2277
              refine ⟨vp_of tx1 (by omega) (by omega), ?_⟩
              refine ⟨vp_of tx2 (by omega) (by omega), ?_⟩
              refine ⟨vp_of tx4 (by omega) (by omega), ?_⟩
              obtain ⟨z2278, t2279⟩ := t_any (w.2.1 166 x1.toNatClampNeg)
              obtain ⟨z2280, t2281⟩ := t_any (w.2.1 166 x2.toNatClampNeg)
              obtain ⟨z2282, t2283, f2284⟩ := t_add t2279 t2281
              first | replace f2284 := f2284 (by omega) | clear f2284
              obtain ⟨z2285, t2286⟩ := t_any (w.2.1 166 x4.toNatClampNeg)
              obtain ⟨z2287, t2288, f2289⟩ := t_mul lit_2 t2286
              first | replace f2289 := f2289 (by omega) | clear f2289
              obtain ⟨z2290, t2291, f2292⟩ := t_sub t2283 t2288
              first | replace f2292 := f2292 (by omega) | clear f2292
              exact hp _ _ t2291 
            · replace c2277 := c_eq tr_2v1126 lit_0 c2277
              exact hp _ _ tx4 
        · replace c2274 := c_neq tr_3v1112 lit_0 c2274
          refine sX10_isSeal   (hI := hI) (tx1 := tx5)  (hp := fun r_6v1122 zr_6v1122 tr_6v1122 p2293 => ?_)
          refine ⟨fun c2294 => ?_, fun c2294 => ?_⟩
          · replace c2294 := c_eq tr_6v1122 lit_0 c2294
            unfold pX10_kin_108
            refine ⟨fun c2295 => ?_, fun c2295 => ?_⟩
            · replace c2295 := c_eq tx3 lit_0 c2295
              exact hp _ _ tx4 
            · replace c2295 := c_neq tx3 lit_0 c2295
              refine sX10_isSeal   (hI := hI) (tx1 := tx4)  (hp := fun r_2v1130 zr_2v1130 tr_2v1130 p2296 => ?_)
              refine ⟨fun c2297 => ?_, fun c2297 => ?_⟩
              · replace c2297 := c_neq tr_2v1130 lit_0 c2297
                refine ⟨vp_of tx1 (by omega) (by omega), ?_⟩
                refine ⟨vp_of tx2 (by omega) (by omega), ?_⟩
                refine ⟨vp_of tx4 (by omega) (by omega), ?_⟩
                obtain ⟨z2298, t2299⟩ := t_any (w.2.1 166 x1.toNatClampNeg)
                obtain ⟨z2300, t2301⟩ := t_any (w.2.1 166 x2.toNatClampNeg)
                obtain ⟨z2302, t2303, f2304⟩ := t_add t2299 t2301
                first | replace f2304 := f2304 (by omega) | clear f2304
                obtain ⟨z2305, t2306⟩ := t_any (w.2.1 166 x4.toNatClampNeg)
                obtain ⟨z2307, t2308, f2309⟩ := t_mul lit_2 t2306
                first | replace f2309 := f2309 (by omega) | clear f2309
                obtain ⟨z2310, t2311, f2312⟩ := t_sub t2303 t2308
                first | replace f2312 := f2312 (by omega) | clear f2312
                exact hp _ _ t2311 
              · replace c2297 := c_eq tr_2v1130 lit_0 c2297
                exact hp _ _ tx4 
          · replace c2294 := c_neq tr_6v1122 lit_0 c2294
            refine ⟨fun c2313 => ?_, fun c2313 => ?_⟩
            · replace c2313 := c_le tx4 tx5 c2313
              refine ⟨vp_of tx5 (by omega) (by omega), ?_⟩
              obtain ⟨z2314, t2315⟩ := t_any (w.2.1 163 x5.toNatClampNeg)
              intro x5_10v1128 ex5_10v1128
              have tx5_10v1128 : Ti x5_10v1128 z2314 := by rw [ex5_10v1128]; exact t2315
              unfold pX10_kin_102
              obtain ⟨z2316, t2317, f2318⟩ := t_add tx6 lit_1
              first | replace f2318 := f2318 (by omega) | clear f2318
              intro x6_1v1132 ex6_1v1132
              have tx6_1v1132 : Ti x6_1v1132 z2316 := by rw [ex6_1v1132]; exact t2317
              exact ih _ _ _ _ _ _ _ _ _ _ _ _  tx1 tx2 tx3 tx4 tx5_10v1128 tx6_1v1132 hI (by omega) (by omega) (by omega) (by omega)
            · replace c2313 := c_nle tx4 tx5 c2313
              refine ⟨vp_of tx4 (by omega) (by omega), ?_⟩
              obtain ⟨z2319, t2320⟩ := t_any (w.2.1 163 x4.toNatClampNeg)
              intro x4_11v1129 ex4_11v1129
              have tx4_11v1129 : Ti x4_11v1129 z2319 := by rw [ex4_11v1129]; exact t2320
              unfold pX10_kin_102
              obtain ⟨z2321, t2322, f2323⟩ := t_add tx6 lit_1
              first | replace f2323 := f2323 (by omega) | clear f2323
              intro x6_1v1133 ex6_1v1133
              have tx6_1v1133 : Ti x6_1v1133 z2321 := by rw [ex6_1v1133]; exact t2322
              exact ih _ _ _ _ _ _ _ _ _ _ _ _  tx1 tx2 tx3 tx4_11v1129 tx5 tx6_1v1133 hI (by omega) (by omega) (by omega) (by omega)
set_option maxHeartbeats 4000000 in
set_option maxRecDepth 100000 in
theorem sX10_kin {T D : Int} {k : Nat} {post : Int32 → Wd → Prop} {x1 : Int32} {zx1 : Int} {x2 : Int32} {zx2 : Int} {x3 : Int32} {zx3 : Int} {w : Wd}  (tx1 : Ti x1 zx1) (tx2 : Ti x2 zx2) (tx3 : Ti x3 zx3) (hI : IX k T D w)  (hp : ∀ (r : Int32) (zr : Int), Ti r zr → post r w) : pX10_kin   post  x1 x2 x3 w := by
  unfold pX10_kin
  have hk := ix_k hI
  refine sX10_isSeal   (hI := hI) (tx1 := tx1)  (hp := fun r_1v1134 zr_1v1134 tr_1v1134 p2324 => ?_)
  refine ⟨fun c2325 => ?_, fun c2325 => ?_⟩
  · replace c2325 := c_eq tr_1v1134 lit_0 c2325
    exact hp _ _ lit_m1 
  · replace c2325 := c_neq tr_1v1134 lit_0 c2325
    refine sX10_isSeal   (hI := hI) (tx1 := tx2)  (hp := fun r_4v1138 zr_4v1138 tr_4v1138 p2326 => ?_)
    refine ⟨fun c2327 => ?_, fun c2327 => ?_⟩
    · replace c2327 := c_eq tr_4v1138 lit_0 c2327
      exact hp _ _ lit_m1 
    · replace c2327 := c_neq tr_4v1138 lit_0 c2327
      refine ⟨fun c2328 => ?_, fun c2328 => ?_⟩
      · replace c2328 := c_lt tx3 lit_0 c2328
        exact hp _ _ lit_m1 
      · replace c2328 := c_nlt tx3 lit_0 c2328
        refine ⟨fun c2329 => ?_, fun c2329 => ?_⟩
        · replace c2329 := c_le tx3 lit_1 c2329
          exact ⟨70000, sX10_kin_36    (hp := hp) 70000 _ _ _ _ _ _ _ _ _ _ _ _  tx1 tx2 tx3 tx1 tx2 lit_0 hI (by omega) (by omega) (by omega) (by omega)⟩
        · replace c2329 := c_nle tx3 lit_1 c2329
          exact hp _ _ lit_m1 
set_option maxHeartbeats 4000000 in
set_option maxRecDepth 100000 in
theorem sX10_thumb_20 {T D : Int} {k : Nat} {post : Int32 → Wd → Prop} {w : Wd}  (hp : ∀ (r : Int32) (zr : Int), Ti r zr → post r w) : ∀ (n : Nat) (x3 : Int32) (x4 : Int32) (x5 : Int32) (zx3 : Int) (zx4 : Int) (zx5 : Int), Ti x3 zx3 → Ti x4 zx4 → Ti x5 zx5 → IX k T D w → (0 ≤ zx5 ∧ zx5 ≤ 24) → (zx3 ≤ 23) → (25 - zx5) < (n : Int) → pX10_thumb_20   post  n x3 x4 x5 w := by
  intro n
  induction n with
  | zero =>
    intro x3 x4 x5 zx3 zx4 zx5  tx3 tx4 tx5 hI h0 h1 hm
    exact absurd hm (by omega)
  | succ n ih =>
    intro x3 x4 x5 zx3 zx4 zx5  tx3 tx4 tx5 hI h0 h1 hm
    unfold pX10_thumb_20
    have hk := ix_k hI
    refine ⟨fun c2330 => ?_, fun c2330 => ?_⟩
    · replace c2330 := c_le lit_24 tx5 c2330
      exact hp _ _ lit_m1 
    · replace c2330 := c_nle lit_24 tx5 c2330
      refine ⟨fun c2331 => ?_, fun c2331 => ?_⟩
      · replace c2331 := c_le tx3 lit_0 c2331
        exact hp _ _ lit_m1 
      · replace c2331 := c_nle tx3 lit_0 c2331
        refine ⟨vp_of tx3 (by omega) (by omega), ?_⟩
        obtain ⟨z2332, t2333⟩ := t_any (w.2.1 163 x3.toNatClampNeg)
        intro x6_3v1140 ex6_3v1140
        have tx6_3v1140 : Ti x6_3v1140 z2332 := by rw [ex6_3v1140]; exact t2333
        obtain ⟨z2334, t2335⟩ := t_any (w.1 (rl (w.2.2.2.2 0)) 0)
        have f2336 := ixg_r0 hI t2335
        obtain ⟨z2337, t2338, f2339⟩ := t_sub t2335 lit_1
        first | replace f2339 := f2339 (by omega) | clear f2339
        obtain ⟨z2340, t2341, f2342⟩ := t_sub t2338 tx4
        first | replace f2342 := f2342 (by omega) | clear f2342
        intro x4_4v1141 ex4_4v1141
        have tx4_4v1141 : Ti x4_4v1141 z2340 := by rw [ex4_4v1141]; exact t2341
        refine sX10_sealHas   (hI := hI) (tx1 := tx6_3v1140) (tx2 := tx4_4v1141)  (hp := fun r_5v1142 zr_5v1142 tr_5v1142 p2343 => ?_)
        refine ⟨fun c2344 => ?_, fun c2344 => ?_⟩
        · replace c2344 := c_neq tr_5v1142 lit_0 c2344
          obtain ⟨z2345, t2346, f2347⟩ := t_add tx5 lit_1
          first | replace f2347 := f2347 (by omega) | clear f2347
          intro x5_8v1145 ex5_8v1145
          have tx5_8v1145 : Ti x5_8v1145 z2345 := by rw [ex5_8v1145]; exact t2346
          exact ih _ _ _ _ _ _  tx6_3v1140 tx4_4v1141 tx5_8v1145 hI (by omega) (by omega) (by omega)
        · replace c2344 := c_eq tr_5v1142 lit_0 c2344
          refine ⟨vp_of tx3 (by omega) (by omega), ?_⟩
          obtain ⟨z2348, t2349⟩ := t_any (w.2.1 164 x3.toNatClampNeg)
          exact hp _ _ t2349 
set_option maxHeartbeats 4000000 in
set_option maxRecDepth 100000 in
theorem sX10_thumb {T D : Int} {k : Nat} {post : Int32 → Wd → Prop} {x1 : Int32} {zx1 : Int} {x2 : Int32} {zx2 : Int} {w : Wd}  (tx1 : Ti x1 zx1) (tx2 : Ti x2 zx2) (hI : IX k T D w)  (hp : ∀ (r : Int32) (zr : Int), Ti r zr → post r w) : pX10_thumb   post  x1 x2 w := by
  unfold pX10_thumb
  have hk := ix_k hI
  refine sX10_sealHas   (hI := hI) (tx1 := tx1) (tx2 := tx2)  (hp := fun r_1v1146 zr_1v1146 tr_1v1146 p2350 => ?_)
  refine ⟨fun c2351 => ?_, fun c2351 => ?_⟩
  · replace c2351 := c_neq tr_1v1146 lit_0 c2351
    exact ⟨70000, sX10_thumb_20    (hp := hp) 70000 _ _ _ _ _ _  tx1 tx2 lit_0 hI (by omega) (by omega) (by omega)⟩
  · replace c2351 := c_eq tr_1v1146 lit_0 c2351
    exact hp _ _ lit_m2 
set_option maxHeartbeats 4000000 in
set_option maxRecDepth 100000 in
theorem sX10_marksIn_6 {T D : Int} {k : Nat} {post : Int32 → Wd → Prop} {w : Wd}  (hp : ∀ (r : Int32) (zr : Int), Ti r zr → post r w) : ∀ (n : Nat) (x1 : Int32) (x2 : Int32) (x3 : Int32) (x4 : Int32) (x5 : Int32) (zx1 : Int) (zx2 : Int) (zx3 : Int) (zx4 : Int) (zx5 : Int), Ti x1 zx1 → Ti x2 zx2 → Ti x3 zx3 → Ti x4 zx4 → Ti x5 zx5 → IX k T D w → (0 ≤ zx5 ∧ zx5 ≤ 12) → (1 ≤ zx2 ∧ zx2 ≤ 4) → (13 - zx5) < (n : Int) → pX10_marksIn_6   post  n x1 x2 x3 x4 x5 w := by
  intro n
  induction n with
  | zero =>
    intro x1 x2 x3 x4 x5 zx1 zx2 zx3 zx4 zx5  tx1 tx2 tx3 tx4 tx5 hI h0 h1 hm
    exact absurd hm (by omega)
  | succ n ih =>
    intro x1 x2 x3 x4 x5 zx1 zx2 zx3 zx4 zx5  tx1 tx2 tx3 tx4 tx5 hI h0 h1 hm
    unfold pX10_marksIn_6
    have hk := ix_k hI
    obtain ⟨z2352, t2353⟩ := t_any (w.1 (rl (w.2.2.2.2 0)) 0)
    have f2354 := ixg_r0 hI t2353
    refine ⟨fun c2355 => ?_, fun c2355 => ?_⟩
    · replace c2355 := c_le t2353 tx5 c2355
      exact hp _ _ tx4 
    · replace c2355 := c_nle t2353 tx5 c2355
      obtain ⟨z2356, t2357, f2358⟩ := t_and (x := (x1 >>> (x5 &&& 31))) lit_1 (by decide)
      refine ⟨fun c2359 => ?_, fun c2359 => ?_⟩
      · replace c2359 := c_eq t2357 lit_0 c2359
        unfold pX10_marksIn_46
        obtain ⟨z2360, t2361, f2362⟩ := t_add tx5 lit_1
        first | replace f2362 := f2362 (by omega) | clear f2362
        intro x5_1v1149 ex5_1v1149
        have tx5_1v1149 : Ti x5_1v1149 z2360 := by rw [ex5_1v1149]; exact t2361
        exact ih _ _ _ _ _ _ _ _ _ _  tx1 tx2 tx3 tx4 tx5_1v1149 hI (by omega) (by omega) (by omega)
      · replace c2359 := c_neq t2357 lit_0 c2359
        refine ⟨nz_of t2353 (by omega), ?_⟩
        obtain ⟨z2363, t2364, f2365⟩ := t_mulv tx5 tx2
        first | replace f2365 := f2365 (by omega) | clear f2365
        obtain ⟨z2366, t2367, f2368⟩ := t_divv t2364 t2353
        first | replace f2368 := f2368 (by omega) | clear f2368
        refine ⟨fun c2369 => ?_, fun c2369 => ?_⟩
        · replace c2369 := c_neq t2367 tx3 c2369
          unfold pX10_marksIn_46
          obtain ⟨z2370, t2371, f2372⟩ := t_add tx5 lit_1
          first | replace f2372 := f2372 (by omega) | clear f2372
          intro x5_1v1150 ex5_1v1150
          have tx5_1v1150 : Ti x5_1v1150 z2370 := by rw [ex5_1v1150]; exact t2371
          exact ih _ _ _ _ _ _ _ _ _ _  tx1 tx2 tx3 tx4 tx5_1v1150 hI (by omega) (by omega) (by omega)
        · replace c2369 := c_eq t2367 tx3 c2369
          obtain ⟨z2373, t2374, f2375⟩ := t_add tx4 lit_1
          first | replace f2375 := f2375 (by omega) | clear f2375
          intro x4_4v1148 ex4_4v1148
          have tx4_4v1148 : Ti x4_4v1148 z2373 := by rw [ex4_4v1148]; exact t2374
          unfold pX10_marksIn_46
          obtain ⟨z2376, t2377, f2378⟩ := t_add tx5 lit_1
          first | replace f2378 := f2378 (by omega) | clear f2378
          intro x5_1v1151 ex5_1v1151
          have tx5_1v1151 : Ti x5_1v1151 z2376 := by rw [ex5_1v1151]; exact t2377
          exact ih _ _ _ _ _ _ _ _ _ _  tx1 tx2 tx3 tx4_4v1148 tx5_1v1151 hI (by omega) (by omega) (by omega)
set_option maxHeartbeats 4000000 in
set_option maxRecDepth 100000 in
theorem sX10_marksIn {T D : Int} {k : Nat} {post : Int32 → Wd → Prop} {x1 : Int32} {zx1 : Int} {x2 : Int32} {zx2 : Int} {x3 : Int32} {zx3 : Int} {w : Wd}  (tx1 : Ti x1 zx1) (tx2 : Ti x2 zx2) (tx3 : Ti x3 zx3) (hI : IX k T D w) (h0 : 1 ≤ zx2 ∧ zx2 ≤ 4) (hp : ∀ (r : Int32) (zr : Int), Ti r zr → post r w) : pX10_marksIn   post  x1 x2 x3 w := by
  unfold pX10_marksIn
  have hk := ix_k hI
  exact ⟨70000, sX10_marksIn_6    (hp := hp) 70000 _ _ _ _ _ _ _ _ _ _  tx1 tx2 tx3 lit_0 lit_0 hI (by omega) (by omega) (by omega)⟩
set_option maxHeartbeats 4000000 in
set_option maxRecDepth 100000 in
theorem sX10_share_64 {T D : Int} {k : Nat} {post : Int32 → Wd → Prop} {w : Wd}  (hp : ∀ (r : Int32) (zr : Int), Ti r zr → post r w) : ∀ (n : Nat) (x1 : Int32) (x2 : Int32) (x3 : Int32) (x4 : Int32) (x5 : Int32) (x6 : Int32) (x7 : Int32) (x8 : Int32) (zx1 : Int) (zx2 : Int) (zx3 : Int) (zx4 : Int) (zx5 : Int) (zx6 : Int) (zx7 : Int) (zx8 : Int), Ti x1 zx1 → Ti x2 zx2 → Ti x3 zx3 → Ti x4 zx4 → Ti x5 zx5 → Ti x6 zx6 → Ti x7 zx7 → Ti x8 zx8 → IX k T D w → (0 ≤ zx8 ∧ zx8 ≤ 4) → (1 ≤ zx2 ∧ zx2 ≤ 4) → (zx4 ≠ 0) → (5 - zx8) < (n : Int) → pX10_share_64   post  n x1 x2 x3 x4 x5 x6 x7 x8 w := by
  intro n
  induction n with
  | zero =>
    intro x1 x2 x3 x4 x5 x6 x7 x8 zx1 zx2 zx3 zx4 zx5 zx6 zx7 zx8  tx1 tx2 tx3 tx4 tx5 tx6 tx7 tx8 hI h0 h1 h2 hm
    exact absurd hm (by omega)
  | succ n ih =>
    intro x1 x2 x3 x4 x5 x6 x7 x8 zx1 zx2 zx3 zx4 zx5 zx6 zx7 zx8  tx1 tx2 tx3 tx4 tx5 tx6 tx7 tx8 hI h0 h1 h2 hm
    unfold pX10_share_64
    have hk := ix_k hI
    refine ⟨fun c2379 => ?_, fun c2379 => ?_⟩
    · replace c2379 := c_le tx2 tx8 c2379
      refine ⟨nz_of tx4 (by omega), ?_⟩
      refine ⟨fun c2380 => ?_, fun c2380 => ?_⟩
      · replace c2380 := c_le tx6 tx7 c2380
        obtain ⟨z2381, t2382, f2383⟩ := t_divv tx5 tx4
        first | replace f2383 := f2383 (by omega) | clear f2383
        obtain ⟨z2384, t2385, f2386⟩ := t_add t2382 lit_0
        first | replace f2386 := f2386 (by omega) | clear f2386
        exact hp _ _ t2385 
      · replace c2380 := c_nle tx6 tx7 c2380
        obtain ⟨z2387, t2388, f2389⟩ := t_divv tx5 tx4
        first | replace f2389 := f2389 (by omega) | clear f2389
        obtain ⟨z2390, t2391, f2392⟩ := t_add t2388 lit_1
        first | replace f2392 := f2392 (by omega) | clear f2392
        exact hp _ _ t2391 
    · replace c2379 := c_nle tx2 tx8 c2379
      refine sX10_marksIn   (hI := hI) (tx1 := tx1) (tx2 := tx2) (tx3 := tx8) (h0 := (by omega)) (hp := fun r_3v1152 zr_3v1152 tr_3v1152 => ?_)
      obtain ⟨z2393, t2394, f2395⟩ := t_mul lit_100 tr_3v1152
      first | replace f2395 := f2395 (by omega) | clear f2395
      intro x9_5v1156 ex9_5v1156
      have tx9_5v1156 : Ti x9_5v1156 z2393 := by rw [ex9_5v1156]; exact t2394
      refine ⟨nz_of tx4 (by omega), ?_⟩
      obtain ⟨z2396, t2397, f2398⟩ := t_divv tx9_5v1156 tx4
      first | replace f2398 := f2398 (by omega) | clear f2398
      obtain ⟨z2399, t2400, f2401⟩ := t_sub tx6 t2397
      first | replace f2401 := f2401 (by omega) | clear f2401
      intro x6_6v1157 ex6_6v1157
      have tx6_6v1157 : Ti x6_6v1157 z2399 := by rw [ex6_6v1157]; exact t2400
      refine ⟨nz_of tx4 (by omega), ?_⟩
      refine ⟨nz_of tx4 (by omega), ?_⟩
      obtain ⟨z2402, t2403, f2404⟩ := t_remv tx5 tx4
      first | replace f2404 := f2404 (by omega) | clear f2404
      obtain ⟨z2405, t2406, f2407⟩ := t_remv tx9_5v1156 tx4
      first | replace f2407 := f2407 (by omega) | clear f2407
      refine ⟨fun c2408 => ?_, fun c2408 => ?_⟩
      · replace c2408 := c_lt t2403 t2406 c2408
        unfold pX10_share_125
        unfold pX10_share_130
        refine ⟨fun c2409 => ?_, fun c2409 => ?_⟩
        · replace c2409 := c_eq lit_1 lit_0 c2409
          unfold pX10_share_144
          obtain ⟨z2410, t2411, f2412⟩ := t_add tx7 lit_0
          first | replace f2412 := f2412 (by omega) | clear f2412
          intro x7_1v1158 ex7_1v1158
          have tx7_1v1158 : Ti x7_1v1158 z2410 := by rw [ex7_1v1158]; exact t2411
          obtain ⟨z2413, t2414, f2415⟩ := t_add tx8 lit_1
          first | replace f2415 := f2415 (by omega) | clear f2415
          intro x8_2v1159 ex8_2v1159
          have tx8_2v1159 : Ti x8_2v1159 z2413 := by rw [ex8_2v1159]; exact t2414
          exact ih _ _ _ _ _ _ _ _ _ _ _ _ _ _ _ _  tx1 tx2 tx3 tx4 tx5 tx6_6v1157 tx7_1v1158 tx8_2v1159 hI (by omega) (by omega) (by omega) (by omega)
        · replace c2409 := c_neq lit_1 lit_0 c2409
          unfold pX10_share_144
          obtain ⟨z2416, t2417, f2418⟩ := t_add tx7 lit_1
          first | replace f2418 := f2418 (by omega) | clear f2418
          intro x7_1v1160 ex7_1v1160
          have tx7_1v1160 : Ti x7_1v1160 z2416 := by rw [ex7_1v1160]; exact t2417
          obtain ⟨z2419, t2420, f2421⟩ := t_add tx8 lit_1
          first | replace f2421 := f2421 (by omega) | clear f2421
          intro x8_2v1161 ex8_2v1161
          have tx8_2v1161 : Ti x8_2v1161 z2419 := by rw [ex8_2v1161]; exact t2420
          exact ih _ _ _ _ _ _ _ _ _ _ _ _ _ _ _ _  tx1 tx2 tx3 tx4 tx5 tx6_6v1157 tx7_1v1160 tx8_2v1161 hI (by omega) (by omega) (by omega) (by omega)
      · replace c2408 := c_nlt t2403 t2406 c2408
        refine ⟨nz_of tx4 (by omega), ?_⟩
        refine ⟨nz_of tx4 (by omega), ?_⟩
        refine ⟨fun c2422 => ?_, fun c2422 => ?_⟩
        · replace c2422 := c_neq t2406 t2403 c2422
          unfold pX10_share_129
          unfold pX10_share_130
          refine ⟨fun c2423 => ?_, fun c2423 => ?_⟩
          · replace c2423 := c_eq lit_0 lit_0 c2423
            unfold pX10_share_144
            obtain ⟨z2424, t2425, f2426⟩ := t_add tx7 lit_0
            first | replace f2426 := f2426 (by omega) | clear f2426
            intro x7_1v1162 ex7_1v1162
            have tx7_1v1162 : Ti x7_1v1162 z2424 := by rw [ex7_1v1162]; exact t2425
            obtain ⟨z2427, t2428, f2429⟩ := t_add tx8 lit_1
            first | replace f2429 := f2429 (by omega) | clear f2429
            intro x8_2v1163 ex8_2v1163
            have tx8_2v1163 : Ti x8_2v1163 z2427 := by rw [ex8_2v1163]; exact t2428
            exact ih _ _ _ _ _ _ _ _ _ _ _ _ _ _ _ _  tx1 tx2 tx3 tx4 tx5 tx6_6v1157 tx7_1v1162 tx8_2v1163 hI (by omega) (by omega) (by omega) (by omega)
          · replace c2423 := c_neq lit_0 lit_0 c2423
            unfold pX10_share_144
            obtain ⟨z2430, t2431, f2432⟩ := t_add tx7 lit_1
            first | replace f2432 := f2432 (by omega) | clear f2432
            intro x7_1v1164 ex7_1v1164
            have tx7_1v1164 : Ti x7_1v1164 z2430 := by rw [ex7_1v1164]; exact t2431
            obtain ⟨z2433, t2434, f2435⟩ := t_add tx8 lit_1
            first | replace f2435 := f2435 (by omega) | clear f2435
            intro x8_2v1165 ex8_2v1165
            have tx8_2v1165 : Ti x8_2v1165 z2433 := by rw [ex8_2v1165]; exact t2434
            exact ih _ _ _ _ _ _ _ _ _ _ _ _ _ _ _ _  tx1 tx2 tx3 tx4 tx5 tx6_6v1157 tx7_1v1164 tx8_2v1165 hI (by omega) (by omega) (by omega) (by omega)
        · replace c2422 := c_eq t2406 t2403 c2422
          refine ⟨fun c2436 => ?_, fun c2436 => ?_⟩
          · replace c2436 := c_le tx3 tx8 c2436
            unfold pX10_share_129
            unfold pX10_share_130
            refine ⟨fun c2437 => ?_, fun c2437 => ?_⟩
            · replace c2437 := c_eq lit_0 lit_0 c2437
              unfold pX10_share_144
              obtain ⟨z2438, t2439, f2440⟩ := t_add tx7 lit_0
              first | replace f2440 := f2440 (by omega) | clear f2440
              intro x7_1v1166 ex7_1v1166
              have tx7_1v1166 : Ti x7_1v1166 z2438 := by rw [ex7_1v1166]; exact t2439
              obtain ⟨z2441, t2442, f2443⟩ := t_add tx8 lit_1
              first | replace f2443 := f2443 (by omega) | clear f2443
              intro x8_2v1167 ex8_2v1167
              have tx8_2v1167 : Ti x8_2v1167 z2441 := by rw [ex8_2v1167]; exact t2442
              exact ih _ _ _ _ _ _ _ _ _ _ _ _ _ _ _ _  tx1 tx2 tx3 tx4 tx5 tx6_6v1157 tx7_1v1166 tx8_2v1167 hI (by omega) (by omega) (by omega) (by omega)
            · replace c2437 := c_neq lit_0 lit_0 c2437
              unfold pX10_share_144
              obtain ⟨z2444, t2445, f2446⟩ := t_add tx7 lit_1
              first | replace f2446 := f2446 (by omega) | clear f2446
              intro x7_1v1168 ex7_1v1168
              have tx7_1v1168 : Ti x7_1v1168 z2444 := by rw [ex7_1v1168]; exact t2445
              obtain ⟨z2447, t2448, f2449⟩ := t_add tx8 lit_1
              first | replace f2449 := f2449 (by omega) | clear f2449
              intro x8_2v1169 ex8_2v1169
              have tx8_2v1169 : Ti x8_2v1169 z2447 := by rw [ex8_2v1169]; exact t2448
              exact ih _ _ _ _ _ _ _ _ _ _ _ _ _ _ _ _  tx1 tx2 tx3 tx4 tx5 tx6_6v1157 tx7_1v1168 tx8_2v1169 hI (by omega) (by omega) (by omega) (by omega)
          · replace c2436 := c_nle tx3 tx8 c2436
            unfold pX10_share_125
            unfold pX10_share_130
            refine ⟨fun c2450 => ?_, fun c2450 => ?_⟩
            · replace c2450 := c_eq lit_1 lit_0 c2450
              unfold pX10_share_144
              obtain ⟨z2451, t2452, f2453⟩ := t_add tx7 lit_0
              first | replace f2453 := f2453 (by omega) | clear f2453
              intro x7_1v1170 ex7_1v1170
              have tx7_1v1170 : Ti x7_1v1170 z2451 := by rw [ex7_1v1170]; exact t2452
              obtain ⟨z2454, t2455, f2456⟩ := t_add tx8 lit_1
              first | replace f2456 := f2456 (by omega) | clear f2456
              intro x8_2v1171 ex8_2v1171
              have tx8_2v1171 : Ti x8_2v1171 z2454 := by rw [ex8_2v1171]; exact t2455
              exact ih _ _ _ _ _ _ _ _ _ _ _ _ _ _ _ _  tx1 tx2 tx3 tx4 tx5 tx6_6v1157 tx7_1v1170 tx8_2v1171 hI (by omega) (by omega) (by omega) (by omega)
            · replace c2450 := c_neq lit_1 lit_0 c2450
              unfold pX10_share_144
              obtain ⟨z2457, t2458, f2459⟩ := t_add tx7 lit_1
              first | replace f2459 := f2459 (by omega) | clear f2459
              intro x7_1v1172 ex7_1v1172
              have tx7_1v1172 : Ti x7_1v1172 z2457 := by rw [ex7_1v1172]; exact t2458
              obtain ⟨z2460, t2461, f2462⟩ := t_add tx8 lit_1
              first | replace f2462 := f2462 (by omega) | clear f2462
              intro x8_2v1173 ex8_2v1173
              have tx8_2v1173 : Ti x8_2v1173 z2460 := by rw [ex8_2v1173]; exact t2461
              exact ih _ _ _ _ _ _ _ _ _ _ _ _ _ _ _ _  tx1 tx2 tx3 tx4 tx5 tx6_6v1157 tx7_1v1172 tx8_2v1173 hI (by omega) (by omega) (by omega) (by omega)
set_option maxHeartbeats 4000000 in
set_option maxRecDepth 100000 in
theorem sX10_share {T D : Int} {k : Nat} {post : Int32 → Wd → Prop} {x1 : Int32} {zx1 : Int} {x2 : Int32} {zx2 : Int} {x3 : Int32} {zx3 : Int} {w : Wd}  (tx1 : Ti x1 zx1) (tx2 : Ti x2 zx2) (tx3 : Ti x3 zx3) (hI : IX k T D w)  (hp : ∀ (r : Int32) (zr : Int), Ti r zr → post r w) : pX10_share   post  x1 x2 x3 w := by
  unfold pX10_share
  have hk := ix_k hI
  refine sX10_isRow   (hI := hI) (tx1 := tx1)  (hp := fun r_1v1174 zr_1v1174 tr_1v1174 p2463 => ?_)
  refine ⟨fun c2464 => ?_, fun c2464 => ?_⟩
  · replace c2464 := c_eq tr_1v1174 lit_0 c2464
    exact hp _ _ lit_m1 
  · replace c2464 := c_neq tr_1v1174 lit_0 c2464
    refine ⟨fun c2465 => ?_, fun c2465 => ?_⟩
    · replace c2465 := c_lt tx2 lit_1 c2465
      exact hp _ _ lit_m1 
    · replace c2465 := c_nlt tx2 lit_1 c2465
      refine ⟨fun c2466 => ?_, fun c2466 => ?_⟩
      · replace c2466 := c_lt lit_4 tx2 c2466
        exact hp _ _ lit_m1 
      · replace c2466 := c_nlt lit_4 tx2 c2466
        refine ⟨fun c2467 => ?_, fun c2467 => ?_⟩
        · replace c2467 := c_lt tx3 lit_0 c2467
          exact hp _ _ lit_m1 
        · replace c2467 := c_nlt tx3 lit_0 c2467
          refine ⟨fun c2468 => ?_, fun c2468 => ?_⟩
          · replace c2468 := c_lt tx3 tx2 c2468
            refine sJ6_bitCount_0f7a4   (hI := hI) (tx0 := tx1)  (hp := fun r_8v1181 zr_8v1181 tr_8v1181 p2469 => ?_)
            refine ⟨fun c2470 => ?_, fun c2470 => ?_⟩
            · replace c2470 := c_neq tr_8v1181 lit_0 c2470
              refine sX10_marksIn   (hI := hI) (tx1 := tx1) (tx2 := tx2) (tx3 := tx3) (h0 := (by omega)) (hp := fun r_11v1186 zr_11v1186 tr_11v1186 => ?_)
              obtain ⟨z2471, t2472, f2473⟩ := t_mul lit_100 tr_11v1186
              first | replace f2473 := f2473 (by omega) | clear f2473
              intro x5_13v1189 ex5_13v1189
              have tx5_13v1189 : Ti x5_13v1189 z2471 := by rw [ex5_13v1189]; exact t2472
              exact ⟨70000, sX10_share_64    (hp := hp) 70000 _ _ _ _ _ _ _ _ _ _ _ _ _ _ _ _  tx1 tx2 tx3 tr_8v1181 tx5_13v1189 lit_100 lit_0 lit_0 hI (by omega) (by omega) (by omega) (by omega)⟩
            · replace c2470 := c_eq tr_8v1181 lit_0 c2470
              exact hp _ _ lit_0 
          · replace c2468 := c_nlt tx3 tx2 c2468
            exact hp _ _ lit_m1 
set_option maxHeartbeats 4000000 in
set_option maxRecDepth 100000 in
theorem sX10_forge_43 {T D : Int} {k : Nat} {post : Int32 → Wd → Prop}   (hp : ∀ (r : Int32) (zr : Int) (w9 : Wd), Ti r zr → IX k T D w9 → post r w9) : ∀ (n : Nat) (x1 : Int32) (x2 : Int32) (x3 : Int32) (x4 : Int32) (x5 : Int32) (x6 : Int32) (x7 : Int32) (x8 : Int32) (zx1 : Int) (zx2 : Int) (zx3 : Int) (zx4 : Int) (zx5 : Int) (zx6 : Int) (zx7 : Int) (zx8 : Int) (w : Wd), Ti x1 zx1 → Ti x2 zx2 → Ti x3 zx3 → Ti x4 zx4 → Ti x5 zx5 → Ti x6 zx6 → Ti x7 zx7 → Ti x8 zx8 → IX k T D w → (0 ≤ zx8 ∧ zx8 ≤ 4096) → (0 ≤ zx1 ∧ zx1 ≤ 23) → (4097 - zx8) < (n : Int) → pX10_forge_43   post  n x1 x2 x3 x4 x5 x6 x7 x8 w := by
  intro n
  induction n with
  | zero =>
    intro x1 x2 x3 x4 x5 x6 x7 x8 zx1 zx2 zx3 zx4 zx5 zx6 zx7 zx8 w tx1 tx2 tx3 tx4 tx5 tx6 tx7 tx8 hI h0 h1 hm
    exact absurd hm (by omega)
  | succ n ih =>
    intro x1 x2 x3 x4 x5 x6 x7 x8 zx1 zx2 zx3 zx4 zx5 zx6 zx7 zx8 w tx1 tx2 tx3 tx4 tx5 tx6 tx7 tx8 hI h0 h1 hm
    unfold pX10_forge_43
    have hk := ix_k hI
    refine sX7_rows   (hI := hI)   (hp := fun r_1v1190 zr_1v1190 tr_1v1190 p2474 => ?_)
    refine ⟨fun c2475 => ?_, fun c2475 => ?_⟩
    · replace c2475 := c_le tr_1v1190 tx8 c2475
      refine ⟨fun c2476 => ?_, fun c2476 => ?_⟩
      · replace c2476 := c_neq tx5 lit_0 c2476
        exact hp _ _ _  tx7 hI 
      · replace c2476 := c_eq tx5 lit_0 c2476
        refine ⟨fun c2477 => ?_, fun c2477 => ?_⟩
        · replace c2477 := c_eq tx7 lit_m1 c2477
          exact hp _ _ _  tx7 hI 
        · replace c2477 := c_neq tx7 lit_m1 c2477
          exact hp _ _ _  tx6 hI 
    · replace c2475 := c_nle tr_1v1190 tx8 c2475
      refine ⟨vp_of tx1 (by omega) (by omega), ?_⟩
      obtain ⟨z2478, t2479⟩ := t_any (x8 ^^^ (w.2.1 162 x1.toNatClampNeg))
      refine sJ6_bitCount_0f7a4   (hI := hI) (tx0 := t2479)  (hp := fun r_6v1196 zr_6v1196 tr_6v1196 p2480 => ?_)
      refine ⟨fun c2481 => ?_, fun c2481 => ?_⟩
      · replace c2481 := c_le tx6 tr_6v1196 c2481
        unfold pX10_forge_104
        obtain ⟨z2482, t2483, f2484⟩ := t_add tx8 lit_1
        first | replace f2484 := f2484 (by omega) | clear f2484
        intro x8_1v1202 ex8_1v1202
        have tx8_1v1202 : Ti x8_1v1202 z2482 := by rw [ex8_1v1202]; exact t2483
        exact ih _ _ _ _ _ _ _ _ _ _ _ _ _ _ _ _ _ tx1 tx2 tx3 tx4 tx5 tx6 tx7 tx8_1v1202 hI (by omega) (by omega) (by omega)
      · replace c2481 := c_nle tx6 tr_6v1196 c2481
        refine sX1_rowAfter   (hI := hI) (tx1 := tx8) (tx2 := tx2) (tx3 := tx3) (tx4 := lit_0)  (hp := fun r_9v1200 zr_9v1200 w_10v1201  tr_9v1200 hIw_10v1201  => ?_)
        refine ⟨fun c2485 => ?_, fun c2485 => ?_⟩
        · replace c2485 := c_neq tr_9v1200 tx4 c2485
          unfold pX10_forge_104
          obtain ⟨z2486, t2487, f2488⟩ := t_add tx8 lit_1
          first | replace f2488 := f2488 (by omega) | clear f2488
          intro x8_1v1203 ex8_1v1203
          have tx8_1v1203 : Ti x8_1v1203 z2486 := by rw [ex8_1v1203]; exact t2487
          exact ih _ _ _ _ _ _ _ _ _ _ _ _ _ _ _ _ _ tx1 tx2 tx3 tx4 tx5 tx6 tx7 tx8_1v1203 hIw_10v1201 (by omega) (by omega) (by omega)
        · replace c2485 := c_eq tr_9v1200 tx4 c2485
          unfold pX10_forge_104
          obtain ⟨z2489, t2490, f2491⟩ := t_add tx8 lit_1
          first | replace f2491 := f2491 (by omega) | clear f2491
          intro x8_1v1204 ex8_1v1204
          have tx8_1v1204 : Ti x8_1v1204 z2489 := by rw [ex8_1v1204]; exact t2490
          exact ih _ _ _ _ _ _ _ _ _ _ _ _ _ _ _ _ _ tx1 tx2 tx3 tx4 tx5 tr_6v1196 tx8 tx8_1v1204 hIw_10v1201 (by omega) (by omega) (by omega)
set_option maxHeartbeats 4000000 in
set_option maxRecDepth 100000 in
theorem sX10_forge {T D : Int} {k : Nat} {post : Int32 → Wd → Prop} {x1 : Int32} {zx1 : Int} {x2 : Int32} {zx2 : Int} {x3 : Int32} {zx3 : Int} {x4 : Int32} {zx4 : Int} {x5 : Int32} {zx5 : Int} {w : Wd}  (tx1 : Ti x1 zx1) (tx2 : Ti x2 zx2) (tx3 : Ti x3 zx3) (tx4 : Ti x4 zx4) (tx5 : Ti x5 zx5) (hI : IX k T D w)  (hp : ∀ (r : Int32) (zr : Int) (w9 : Wd), Ti r zr → IX k T D w9 → post r w9) : pX10_forge   post  x1 x2 x3 x4 x5 w := by
  unfold pX10_forge
  have hk := ix_k hI
  refine sX10_canCast   (hI := hI) (tx1 := tx1) (tx2 := tx2) (tx3 := tx3)  (hp := fun r_1v1205 zr_1v1205 tr_1v1205 p2492 => ?_)
  refine ⟨fun c2493 => ?_, fun c2493 => ?_⟩
  · replace c2493 := c_eq tr_1v1205 lit_0 c2493
    exact hp _ _ _  lit_m1 hI 
  · replace c2493 := c_neq tr_1v1205 lit_0 c2493
    refine sX10_isRow   (hI := hI) (tx1 := tx4)  (hp := fun r_4v1209 zr_4v1209 tr_4v1209 p2494 => ?_)
    refine ⟨fun c2495 => ?_, fun c2495 => ?_⟩
    · replace c2495 := c_eq tr_4v1209 lit_0 c2495
      exact hp _ _ _  lit_m1 hI 
    · replace c2495 := c_neq tr_4v1209 lit_0 c2495
      refine ⟨fun c2496 => ?_, fun c2496 => ?_⟩
      · replace c2496 := c_lt tx5 lit_0 c2496
        exact hp _ _ _  lit_m1 hI 
      · replace c2496 := c_nlt tx5 lit_0 c2496
        refine ⟨fun c2497 => ?_, fun c2497 => ?_⟩
        · replace c2497 := c_le tx5 lit_1 c2497
          exact ⟨70000, sX10_forge_43    (hp := hp) 70000 _ _ _ _ _ _ _ _ _ _ _ _ _ _ _ _ _ tx1 tx2 tx3 tx4 tx5 lit_1000 lit_m1 lit_0 hI (by omega) (by omega) (by omega)⟩
        · replace c2497 := c_nle tx5 lit_1 c2497
          exact hp _ _ _  lit_m1 hI 
