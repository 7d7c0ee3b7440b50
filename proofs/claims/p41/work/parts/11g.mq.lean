set_option maxHeartbeats 4000000 in
set_option maxRecDepth 100000 in
theorem sX11_falses {T W H P S M : Int} {post : Int32 → Wd → Prop} {x1 : Int32} {zx1 : Int} {w : Wd}  (tx1 : Ti x1 zx1) (hI : IM T W H P S M w)  (hp : ∀ (r : Int32) (zr : Int) (w9 : Wd), Ti r zr → IM T W H P S M w9 → post r w9) : pX11_falses   post  x1 w := by
  unfold pX11_falses
  have hk := im_k hI
  intro w_1v970 ew_1v970
  have hIw_1v970 := ims_48 hI ew_1v970 lit_0 (by omega) (by omega)
  have t1906 : Ti (w_1v970.1 300 48) 0 := by rw [ew_1v970, sI_at]; exact lit_0
  exact ⟨70000, sX11_falses_9    (hp := hp) 70000 _ _ _ _ _ _ _ tx1 lit_0 lit_0 hIw_1v970 (by omega) (Rg.m t1906 (by omega) (by omega)) (by omega)⟩
set_option maxHeartbeats 4000000 in
set_option maxRecDepth 100000 in
theorem sX11_span_36 {T W H P S M : Int} {post : Int32 → Wd → Prop} {w : Wd}  (hp : ∀ (r : Int32) (zr : Int), Ti r zr → post r w) : ∀ (n : Nat) (x1 : Int32) (x2 : Int32) (x3 : Int32) (x4 : Int32) (x5 : Int32) (x6 : Int32) (zx1 : Int) (zx2 : Int) (zx3 : Int) (zx4 : Int) (zx5 : Int) (zx6 : Int), Ti x1 zx1 → Ti x2 zx2 → Ti x3 zx3 → Ti x4 zx4 → Ti x5 zx5 → Ti x6 zx6 → IM T W H P S M w → (0 ≤ zx6 ∧ zx6 ≤ 40) → (41 - zx6) < (n : Int) → pX11_span_36   post  n x1 x2 x3 x4 x5 x6 w := by
  intro n
  induction n with
  | zero =>
    intro x1 x2 x3 x4 x5 x6 zx1 zx2 zx3 zx4 zx5 zx6  tx1 tx2 tx3 tx4 tx5 tx6 hI h0 hm
    exact absurd hm (by omega)
  | succ n ih =>
    intro x1 x2 x3 x4 x5 x6 zx1 zx2 zx3 zx4 zx5 zx6  tx1 tx2 tx3 tx4 tx5 tx6 hI h0 hm
    unfold pX11_span_36
    have hk := im_k hI
    obtain ⟨z1907, t1908⟩ := t_any (w.1 300 58)
    have f1909 := img_58 hI t1908
    refine ⟨fun c1910 => ?_, fun c1910 => ?_⟩
    · replace c1910 := c_le t1908 tx6 c1910
      refine ⟨fun c1911 => ?_, fun c1911 => ?_⟩
      · replace c1911 := c_neq tx2 lit_2 c1911
        refine ⟨fun c1912 => ?_, fun c1912 => ?_⟩
        · replace c1912 := c_le tx4 tx5 c1912
          refine ⟨fun c1913 => ?_, fun c1913 => ?_⟩
          · replace c1913 := c_neq tx2 lit_0 c1913
            exact hp _ _ tx5 
          · replace c1913 := c_eq tx2 lit_0 c1913
            exact hp _ _ tx4 
        · replace c1912 := c_nle tx4 tx5 c1912
          exact hp _ _ lit_m1 
      · replace c1911 := c_eq tx2 lit_2 c1911
        refine ⟨fun c1914 => ?_, fun c1914 => ?_⟩
        · replace c1914 := c_le tx4 tx5 c1914
          obtain ⟨z1915, t1916, f1917⟩ := t_sub tx5 tx4
          first | replace f1917 := f1917 (by omega) | clear f1917
          obtain ⟨z1918, t1919, f1920⟩ := t_add t1916 lit_1
          first | replace f1920 := f1920 (by omega) | clear f1920
          exact hp _ _ t1919 
        · replace c1914 := c_nle tx4 tx5 c1914
          exact hp _ _ lit_0 
    · replace c1910 := c_nle t1908 tx6 c1910
      refine sX11_counts   (hI := hI) (tx1 := tx6) (tx2 := lit_2) (tx3 := tx3) (h0 := (by omega)) (hp := fun r_6v971 zr_6v971 tr_6v971 p1921 => ?_)
      refine ⟨fun c1922 => ?_, fun c1922 => ?_⟩
      · replace c1922 := c_eq tr_6v971 lit_0 c1922
        unfold pX11_span_137
        obtain ⟨z1923, t1924, f1925⟩ := t_add tx6 lit_1
        first | replace f1925 := f1925 (by omega) | clear f1925
        intro x6_1v975 ex6_1v975
        have tx6_1v975 : Ti x6_1v975 z1923 := by rw [ex6_1v975]; exact t1924
        exact ih _ _ _ _ _ _ _ _ _ _ _ _  tx1 tx2 tx3 tx4 tx5 tx6_1v975 hI (by omega) (by omega)
      · replace c1922 := c_neq tr_6v971 lit_0 c1922
        refine ⟨vp_of tx6 (by omega) (by omega), ?_⟩
        obtain ⟨z1926, t1927⟩ := t_any (w.2.1 354 x6.toNatClampNeg)
        refine ⟨fun c1929 => ?_, fun c1929 => ?_⟩
        · replace c1929 := c_eq t1927 tx1 c1929
          refine ⟨vp_of tx6 (by omega) (by omega), ?_⟩
          obtain ⟨z1930, t1931⟩ := t_any (w.2.1 356 x6.toNatClampNeg)
          refine ⟨fun c1933 => ?_, fun c1933 => ?_⟩
          · replace c1933 := c_neq t1931 lit_1 c1933
            unfold pX11_span_106
            refine ⟨vp_of tx6 (by omega) (by omega), ?_⟩
            refine ⟨fun c1934 => ?_, fun c1934 => ?_⟩
            · replace c1934 := c_neq t1931 lit_0 c1934
              unfold pX11_span_137
              obtain ⟨z1935, t1936, f1937⟩ := t_add tx6 lit_1
              first | replace f1937 := f1937 (by omega) | clear f1937
              intro x6_1v977 ex6_1v977
              have tx6_1v977 : Ti x6_1v977 z1935 := by rw [ex6_1v977]; exact t1936
              exact ih _ _ _ _ _ _ _ _ _ _ _ _  tx1 tx2 tx3 tx4 tx5 tx6_1v977 hI (by omega) (by omega)
            · replace c1934 := c_eq t1931 lit_0 c1934
              refine ⟨vp_of tx6 (by omega) (by omega), ?_⟩
              obtain ⟨z1938, t1939⟩ := t_any (w.2.1 355 x6.toNatClampNeg)
              refine ⟨fun c1941 => ?_, fun c1941 => ?_⟩
              · replace c1941 := c_le tx5 t1939 c1941
                unfold pX11_span_137
                obtain ⟨z1942, t1943, f1944⟩ := t_add tx6 lit_1
                first | replace f1944 := f1944 (by omega) | clear f1944
                intro x6_1v978 ex6_1v978
                have tx6_1v978 : Ti x6_1v978 z1942 := by rw [ex6_1v978]; exact t1943
                exact ih _ _ _ _ _ _ _ _ _ _ _ _  tx1 tx2 tx3 tx4 tx5 tx6_1v978 hI (by omega) (by omega)
              · replace c1941 := c_nle tx5 t1939 c1941
                refine ⟨vp_of tx6 (by omega) (by omega), ?_⟩
                intro x5_3v976 ex5_3v976
                have tx5_3v976 : Ti x5_3v976 z1938 := by rw [ex5_3v976]; exact t1939
                unfold pX11_span_137
                obtain ⟨z1945, t1946, f1947⟩ := t_add tx6 lit_1
                first | replace f1947 := f1947 (by omega) | clear f1947
                intro x6_1v979 ex6_1v979
                have tx6_1v979 : Ti x6_1v979 z1945 := by rw [ex6_1v979]; exact t1946
                exact ih _ _ _ _ _ _ _ _ _ _ _ _  tx1 tx2 tx3 tx4 tx5_3v976 tx6_1v979 hI (by omega) (by omega)
          · replace c1933 := c_eq t1931 lit_1 c1933
            refine ⟨vp_of tx6 (by omega) (by omega), ?_⟩
            obtain ⟨z1948, t1949⟩ := t_any (w.2.1 355 x6.toNatClampNeg)
            obtain ⟨z1951, t1952, f1953⟩ := t_add t1949 lit_1
            first | replace f1953 := f1953 (by omega) | clear f1953
            refine ⟨fun c1954 => ?_, fun c1954 => ?_⟩
            · replace c1954 := c_le t1952 tx4 c1954
              unfold pX11_span_106
              refine ⟨vp_of tx6 (by omega) (by omega), ?_⟩
              refine ⟨fun c1955 => ?_, fun c1955 => ?_⟩
              · replace c1955 := c_neq t1931 lit_0 c1955
                unfold pX11_span_137
                obtain ⟨z1956, t1957, f1958⟩ := t_add tx6 lit_1
                first | replace f1958 := f1958 (by omega) | clear f1958
                intro x6_1v981 ex6_1v981
                have tx6_1v981 : Ti x6_1v981 z1956 := by rw [ex6_1v981]; exact t1957
                exact ih _ _ _ _ _ _ _ _ _ _ _ _  tx1 tx2 tx3 tx4 tx5 tx6_1v981 hI (by omega) (by omega)
              · replace c1955 := c_eq t1931 lit_0 c1955
                refine ⟨vp_of tx6 (by omega) (by omega), ?_⟩
                refine ⟨fun c1959 => ?_, fun c1959 => ?_⟩
                · replace c1959 := c_le tx5 t1949 c1959
                  unfold pX11_span_137
                  obtain ⟨z1960, t1961, f1962⟩ := t_add tx6 lit_1
                  first | replace f1962 := f1962 (by omega) | clear f1962
                  intro x6_1v982 ex6_1v982
                  have tx6_1v982 : Ti x6_1v982 z1960 := by rw [ex6_1v982]; exact t1961
                  exact ih _ _ _ _ _ _ _ _ _ _ _ _  tx1 tx2 tx3 tx4 tx5 tx6_1v982 hI (by omega) (by omega)
                · replace c1959 := c_nle tx5 t1949 c1959
                  refine ⟨vp_of tx6 (by omega) (by omega), ?_⟩
                  intro x5_3v980 ex5_3v980
                  have tx5_3v980 : Ti x5_3v980 z1948 := by rw [ex5_3v980]; exact t1949
                  unfold pX11_span_137
                  obtain ⟨z1963, t1964, f1965⟩ := t_add tx6 lit_1
                  first | replace f1965 := f1965 (by omega) | clear f1965
                  intro x6_1v983 ex6_1v983
                  have tx6_1v983 : Ti x6_1v983 z1963 := by rw [ex6_1v983]; exact t1964
                  exact ih _ _ _ _ _ _ _ _ _ _ _ _  tx1 tx2 tx3 tx4 tx5_3v980 tx6_1v983 hI (by omega) (by omega)
            · replace c1954 := c_nle t1952 tx4 c1954
              refine ⟨vp_of tx6 (by omega) (by omega), ?_⟩
              intro x4_12v974 ex4_12v974
              have tx4_12v974 : Ti x4_12v974 z1951 := by rw [ex4_12v974]; exact t1952
              unfold pX11_span_106
              refine ⟨vp_of tx6 (by omega) (by omega), ?_⟩
              refine ⟨fun c1966 => ?_, fun c1966 => ?_⟩
              · replace c1966 := c_neq t1931 lit_0 c1966
                unfold pX11_span_137
                obtain ⟨z1967, t1968, f1969⟩ := t_add tx6 lit_1
                first | replace f1969 := f1969 (by omega) | clear f1969
                intro x6_1v985 ex6_1v985
                have tx6_1v985 : Ti x6_1v985 z1967 := by rw [ex6_1v985]; exact t1968
                exact ih _ _ _ _ _ _ _ _ _ _ _ _  tx1 tx2 tx3 tx4_12v974 tx5 tx6_1v985 hI (by omega) (by omega)
              · replace c1966 := c_eq t1931 lit_0 c1966
                refine ⟨vp_of tx6 (by omega) (by omega), ?_⟩
                refine ⟨fun c1970 => ?_, fun c1970 => ?_⟩
                · replace c1970 := c_le tx5 t1949 c1970
                  unfold pX11_span_137
                  obtain ⟨z1971, t1972, f1973⟩ := t_add tx6 lit_1
                  first | replace f1973 := f1973 (by omega) | clear f1973
                  intro x6_1v986 ex6_1v986
                  have tx6_1v986 : Ti x6_1v986 z1971 := by rw [ex6_1v986]; exact t1972
                  exact ih _ _ _ _ _ _ _ _ _ _ _ _  tx1 tx2 tx3 tx4_12v974 tx5 tx6_1v986 hI (by omega) (by omega)
                · replace c1970 := c_nle tx5 t1949 c1970
                  refine ⟨vp_of tx6 (by omega) (by omega), ?_⟩
                  intro x5_3v984 ex5_3v984
                  have tx5_3v984 : Ti x5_3v984 z1948 := by rw [ex5_3v984]; exact t1949
                  unfold pX11_span_137
                  obtain ⟨z1974, t1975, f1976⟩ := t_add tx6 lit_1
                  first | replace f1976 := f1976 (by omega) | clear f1976
                  intro x6_1v987 ex6_1v987
                  have tx6_1v987 : Ti x6_1v987 z1974 := by rw [ex6_1v987]; exact t1975
                  exact ih _ _ _ _ _ _ _ _ _ _ _ _  tx1 tx2 tx3 tx4_12v974 tx5_3v984 tx6_1v987 hI (by omega) (by omega)
        · replace c1929 := c_neq t1927 tx1 c1929
          unfold pX11_span_137
          obtain ⟨z1977, t1978, f1979⟩ := t_add tx6 lit_1
          first | replace f1979 := f1979 (by omega) | clear f1979
          intro x6_1v988 ex6_1v988
          have tx6_1v988 : Ti x6_1v988 z1977 := by rw [ex6_1v988]; exact t1978
          exact ih _ _ _ _ _ _ _ _ _ _ _ _  tx1 tx2 tx3 tx4 tx5 tx6_1v988 hI (by omega) (by omega)
set_option maxHeartbeats 4000000 in
set_option maxRecDepth 100000 in
theorem sX11_span {T W H P S M : Int} {post : Int32 → Wd → Prop} {x1 : Int32} {zx1 : Int} {x2 : Int32} {zx2 : Int} {x3 : Int32} {zx3 : Int} {w : Wd}  (tx1 : Ti x1 zx1) (tx2 : Ti x2 zx2) (tx3 : Ti x3 zx3) (hI : IM T W H P S M w)  (hp : ∀ (r : Int32) (zr : Int), Ti r zr → post r w) : pX11_span   post  x1 x2 x3 w := by
  unfold pX11_span
  have hk := im_k hI
  refine sX11_width   (hI := hI)   (hp := fun r_1v989 zr_1v989 tr_1v989 p1980 => ?_)
  obtain ⟨z1981, t1982, f1983⟩ := t_sub tr_1v989 lit_1
  first | replace f1983 := f1983 (by omega) | clear f1983
  refine sX11_isIn   (hI := hI) (tx0 := tx1) (tx1 := lit_0) (tx2 := t1982)  (hp := fun r_3v995 zr_3v995 tr_3v995 p1984 p1985 => ?_)
  refine ⟨fun c1986 => ?_, fun c1986 => ?_⟩
  · replace c1986 := c_eq tr_3v995 lit_0 c1986
    exact hp _ _ lit_m1 
  · replace c1986 := c_neq tr_3v995 lit_0 c1986
    refine sX11_isIn   (hI := hI) (tx0 := tx2) (tx1 := lit_0) (tx2 := lit_2)  (hp := fun r_6v999 zr_6v999 tr_6v999 p1987 p1988 => ?_)
    refine ⟨fun c1989 => ?_, fun c1989 => ?_⟩
    · replace c1989 := c_neq tr_6v999 lit_0 c1989
      exact ⟨70000, sX11_span_36    (hp := hp) 70000 _ _ _ _ _ _ _ _ _ _ _ _  tx1 tx2 tx3 lit_0 lit_999 lit_0 hI (by omega) (by omega)⟩
    · replace c1989 := c_eq tr_6v999 lit_0 c1989
      exact hp _ _ lit_m1 
set_option maxHeartbeats 4000000 in
set_option maxRecDepth 100000 in
theorem sX11_layLinks_142 {T W H P S M : Int} {k30 : Int32 → Int32 → Wd → Prop} {M30 : Int} {post : Int32 → Wd → Prop}  (hk30 : ∀ (x1 : Int32) (x2 : Int32) (zx1 : Int) (zx2 : Int) (w : Wd), Ti x1 zx1 → Ti x2 zx2 → IM T W H P S M w → (0 ≤ zx2 ∧ zx2 ≤ 40) → (41 - zx2) < M30 → k30 x1 x2 w) (hp : ∀ (r : Int32) (zr : Int) (w9 : Wd), Ti r zr → IM T W H P S M w9 → post r w9) : ∀ (n : Nat) (x1 : Int32) (x2 : Int32) (x3 : Int32) (x5 : Int32) (x6 : Int32) (x7 : Int32) (zx1 : Int) (zx2 : Int) (zx3 : Int) (zx5 : Int) (zx6 : Int) (zx7 : Int) (w : Wd), Ti x1 zx1 → Ti x2 zx2 → Ti x3 zx3 → Ti x5 zx5 → Ti x6 zx6 → Ti x7 zx7 → IM T W H P S M w → (0 ≤ zx7 ∧ zx7 ≤ 8) → (0 ≤ zx3 ∧ zx3 ≤ 7) → (zx2 ≤ 39) → (0 ≤ zx2 ∧ zx2 ≤ 40) → ((41 - zx2) ≤ M30) → (9 - zx7) < (n : Int) → pX11_layLinks_142 k30  post  n x1 x2 x3 x5 x6 x7 w := by
  intro n
  induction n with
  | zero =>
    intro x1 x2 x3 x5 x6 x7 zx1 zx2 zx3 zx5 zx6 zx7 w tx1 tx2 tx3 tx5 tx6 tx7 hI h0 h1 h2 h3 h4 hm
    exact absurd hm (by omega)
  | succ n ih =>
    intro x1 x2 x3 x5 x6 x7 zx1 zx2 zx3 zx5 zx6 zx7 w tx1 tx2 tx3 tx5 tx6 tx7 hI h0 h1 h2 h3 h4 hm
    unfold pX11_layLinks_142
    have hk := im_k hI
    refine ⟨fun c1990 => ?_, fun c1990 => ?_⟩
    · replace c1990 := c_le lit_8 tx7 c1990
      unfold pX11_layLinks_195
      obtain ⟨z1991, t1992, f1993⟩ := t_add tx2 lit_1
      first | replace f1993 := f1993 (by omega) | clear f1993
      intro x2_1v1003 ex2_1v1003
      have tx2_1v1003 : Ti x2_1v1003 z1991 := by rw [ex2_1v1003]; exact t1992
      exact hk30 _ _ _ _ _ tx1 tx2_1v1003 hI (by omega) (by omega)
    · replace c1990 := c_nle lit_8 tx7 c1990
      refine ⟨vp_of tx7 (by omega) (by omega), ?_⟩
      obtain ⟨z1994, t1995⟩ := t_any (w.2.1 367 x7.toNatClampNeg)
      refine ⟨fun c1997 => ?_, fun c1997 => ?_⟩
      · replace c1997 := c_eq t1995 tx5 c1997
        refine ⟨vp_of tx3 (by omega) (by omega), ?_⟩
        refine ⟨vp_of tx7 (by omega) (by omega), ?_⟩
        intro w_3v1001 ew_3v1001
        have hIw_3v1001 := ims_A hI ew_3v1001 (by decide)
        refine ⟨vp_of tx7 (by omega) (by omega), ?_⟩
        refine ⟨vp_of tx7 (by omega) (by omega), ?_⟩
        intro w_4v1002 ew_4v1002
        have hIw_4v1002 := ims_A hIw_3v1001 ew_4v1002 (by decide)
        unfold pX11_layLinks_189
        obtain ⟨z1998, t1999, f2000⟩ := t_add tx7 lit_1
        first | replace f2000 := f2000 (by omega) | clear f2000
        intro x7_1v1004 ex7_1v1004
        have tx7_1v1004 : Ti x7_1v1004 z1998 := by rw [ex7_1v1004]; exact t1999
        exact ih _ _ _ _ _ _ _ _ _ _ _ _ _ tx1 tx2 tx3 tx5 tx6 tx7_1v1004 hIw_4v1002 (by omega) (by omega) (by omega) (by omega) (by omega) (by omega)
      · replace c1997 := c_neq t1995 tx5 c1997
        unfold pX11_layLinks_189
        obtain ⟨z2001, t2002, f2003⟩ := t_add tx7 lit_1
        first | replace f2003 := f2003 (by omega) | clear f2003
        intro x7_1v1005 ex7_1v1005
        have tx7_1v1005 : Ti x7_1v1005 z2001 := by rw [ex7_1v1005]; exact t2002
        exact ih _ _ _ _ _ _ _ _ _ _ _ _ _ tx1 tx2 tx3 tx5 tx6 tx7_1v1005 hI (by omega) (by omega) (by omega) (by omega) (by omega) (by omega)
set_option maxHeartbeats 4000000 in
set_option maxRecDepth 100000 in
theorem sX11_layLinks_30 {T W H P S M : Int} {post : Int32 → Wd → Prop}   (hp : ∀ (r : Int32) (zr : Int) (w9 : Wd), Ti r zr → IM T W H P S M w9 → post r w9) : ∀ (n : Nat) (x1 : Int32) (x2 : Int32) (zx1 : Int) (zx2 : Int) (w : Wd), Ti x1 zx1 → Ti x2 zx2 → IM T W H P S M w → (0 ≤ zx2 ∧ zx2 ≤ 40) → (41 - zx2) < (n : Int) → pX11_layLinks_30   post  n x1 x2 w := by
  intro n
  induction n with
  | zero =>
    intro x1 x2 zx1 zx2 w tx1 tx2 hI h0 hm
    exact absurd hm (by omega)
  | succ n ih =>
    intro x1 x2 zx1 zx2 w tx1 tx2 hI h0 hm
    unfold pX11_layLinks_30
    have hk := im_k hI
    obtain ⟨z2004, t2005⟩ := t_any (w.1 300 58)
    have f2006 := img_58 hI t2005
    refine ⟨fun c2007 => ?_, fun c2007 => ?_⟩
    · replace c2007 := c_le t2005 tx2 c2007
      exact hp _ _ _  lit_1 hI 
    · replace c2007 := c_nle t2005 tx2 c2007
      refine sX11_counts   (hI := hI) (tx1 := tx2) (tx2 := lit_3) (tx3 := tx1) (h0 := (by omega)) (hp := fun r_2v1006 zr_2v1006 tr_2v1006 p2008 => ?_)
      refine ⟨fun c2009 => ?_, fun c2009 => ?_⟩
      · replace c2009 := c_neq tr_2v1006 lit_0 c2009
        refine ⟨vp_of tx2 (by omega) (by omega), ?_⟩
        obtain ⟨z2010, t2011⟩ := t_any (w.2.1 354 x2.toNatClampNeg)
        have f2012 := img_lnk (e := p2008.resolve_left (by omega)) hI tx2 t2005 (by omega) (by omega)
        have f2013 := Rg.g f2012.1 t2011
        intro x3_5v1012 ex3_5v1012
        have tx3_5v1012 : Ti x3_5v1012 z2010 := by rw [ex3_5v1012]; exact t2011
        refine ⟨vp_of tx2 (by omega) (by omega), ?_⟩
        obtain ⟨z2014, t2015⟩ := t_any (w.2.1 355 x2.toNatClampNeg)
        have f2016 := img_lnk (e := p2008.resolve_left (by omega)) hI tx2 t2005 (by omega) (by omega)
        have f2017 := Rg.g f2016.2 t2015
        intro x4_6v1013 ex4_6v1013
        have tx4_6v1013 : Ti x4_6v1013 z2014 := by rw [ex4_6v1013]; exact t2015
        refine ⟨vp_of tx3_5v1012 (by omega) (by omega), ?_⟩
        refine ⟨vp_of tx4_6v1013 (by omega) (by omega), ?_⟩
        obtain ⟨z2018, t2019⟩ := t_any (w.2.1 367 x3_5v1012.toNatClampNeg)
        obtain ⟨z2021, t2022⟩ := t_any (w.2.1 367 x4_6v1013.toNatClampNeg)
        refine ⟨fun c2024 => ?_, fun c2024 => ?_⟩
        · replace c2024 := c_neq t2019 t2022 c2024
          refine ⟨vp_of tx4_6v1013 (by omega) (by omega), ?_⟩
          intro x5_8v1014 ex5_8v1014
          have tx5_8v1014 : Ti x5_8v1014 z2021 := by rw [ex5_8v1014]; exact t2022
          refine ⟨vp_of tx3_5v1012 (by omega) (by omega), ?_⟩
          refine ⟨vp_of tx4_6v1013 (by omega) (by omega), ?_⟩
          refine ⟨vp_of tx2 (by omega) (by omega), ?_⟩
          obtain ⟨z2025, t2026⟩ := t_any (((w.2.1 366 x3_5v1012.toNatClampNeg) ^^^ (w.2.1 366 x4_6v1013.toNatClampNeg)) ^^^ (w.2.1 356 x2.toNatClampNeg))
          intro x6_9v1015 ex6_9v1015
          have tx6_9v1015 : Ti x6_9v1015 z2025 := by rw [ex6_9v1015]; exact t2026
          exact ⟨70000, sX11_layLinks_142  (M30 := (n : Int)) (hk30 := ih)  (hp := hp) 70000 _ _ _ _ _ _ _ _ _ _ _ _ _ tx1 tx2 tx3_5v1012 tx5_8v1014 tx6_9v1015 lit_0 hI (by omega) (by omega) (by omega) (by omega) (by omega) (by omega)⟩
        · replace c2024 := c_eq t2019 t2022 c2024
          refine ⟨vp_of tx3_5v1012 (by omega) (by omega), ?_⟩
          refine ⟨vp_of tx4_6v1013 (by omega) (by omega), ?_⟩
          refine ⟨vp_of tx2 (by omega) (by omega), ?_⟩
          obtain ⟨z2027, t2028⟩ := t_any ((w.2.1 366 x3_5v1012.toNatClampNeg) ^^^ (w.2.1 366 x4_6v1013.toNatClampNeg))
          obtain ⟨z2029, t2030⟩ := t_any (w.2.1 356 x2.toNatClampNeg)
          refine ⟨fun c2032 => ?_, fun c2032 => ?_⟩
          · replace c2032 := c_eq t2028 t2030 c2032
            unfold pX11_layLinks_195
            obtain ⟨z2033, t2034, f2035⟩ := t_add tx2 lit_1
            first | replace f2035 := f2035 (by omega) | clear f2035
            intro x2_1v1016 ex2_1v1016
            have tx2_1v1016 : Ti x2_1v1016 z2033 := by rw [ex2_1v1016]; exact t2034
            exact ih _ _ _ _ _ tx1 tx2_1v1016 hI (by omega) (by omega)
          · replace c2032 := c_neq t2028 t2030 c2032
            exact hp _ _ _  lit_0 hI 
      · replace c2009 := c_eq tr_2v1006 lit_0 c2009
        unfold pX11_layLinks_195
        obtain ⟨z2036, t2037, f2038⟩ := t_add tx2 lit_1
        first | replace f2038 := f2038 (by omega) | clear f2038
        intro x2_1v1017 ex2_1v1017
        have tx2_1v1017 : Ti x2_1v1017 z2036 := by rw [ex2_1v1017]; exact t2037
        exact ih _ _ _ _ _ tx1 tx2_1v1017 hI (by omega) (by omega)
set_option maxHeartbeats 4000000 in
set_option maxRecDepth 100000 in
theorem sX11_layLinks_2 {T W H P S M : Int} {post : Int32 → Wd → Prop}   (hp : ∀ (r : Int32) (zr : Int) (w9 : Wd), Ti r zr → IM T W H P S M w9 → post r w9) : ∀ (n : Nat) (x1 : Int32) (x2 : Int32) (zx1 : Int) (zx2 : Int) (w : Wd), Ti x1 zx1 → Ti x2 zx2 → IM T W H P S M w → (0 ≤ zx2 ∧ zx2 ≤ 8) → (9 - zx2) < (n : Int) → pX11_layLinks_2   post  n x1 x2 w := by
  intro n
  induction n with
  | zero =>
    intro x1 x2 zx1 zx2 w tx1 tx2 hI h0 hm
    exact absurd hm (by omega)
  | succ n ih =>
    intro x1 x2 zx1 zx2 w tx1 tx2 hI h0 hm
    unfold pX11_layLinks_2
    have hk := im_k hI
    refine ⟨fun c2039 => ?_, fun c2039 => ?_⟩
    · replace c2039 := c_le lit_8 tx2 c2039
      exact ⟨70000, sX11_layLinks_30    (hp := hp) 70000 _ _ _ _ _ tx1 lit_0 hI (by omega) (by omega)⟩
    · replace c2039 := c_nle lit_8 tx2 c2039
      refine ⟨vp_of tx2 (by omega) (by omega), ?_⟩
      intro w_2v1018 ew_2v1018
      have hIw_2v1018 := ims_A hI ew_2v1018 (by decide)
      refine ⟨vp_of tx2 (by omega) (by omega), ?_⟩
      intro w_3v1019 ew_3v1019
      have hIw_3v1019 := ims_A hIw_2v1018 ew_3v1019 (by decide)
      obtain ⟨z2040, t2041, f2042⟩ := t_add tx2 lit_1
      first | replace f2042 := f2042 (by omega) | clear f2042
      intro x2_4v1020 ex2_4v1020
      have tx2_4v1020 : Ti x2_4v1020 z2040 := by rw [ex2_4v1020]; exact t2041
      exact ih _ _ _ _ _ tx1 tx2_4v1020 hIw_3v1019 (by omega) (by omega)
set_option maxHeartbeats 4000000 in
set_option maxRecDepth 100000 in
theorem sX11_layLinks {T W H P S M : Int} {post : Int32 → Wd → Prop} {x1 : Int32} {zx1 : Int} {w : Wd}  (tx1 : Ti x1 zx1) (hI : IM T W H P S M w)  (hp : ∀ (r : Int32) (zr : Int) (w9 : Wd), Ti r zr → IM T W H P S M w9 → post r w9) : pX11_layLinks   post  x1 w := by
  unfold pX11_layLinks
  have hk := im_k hI
  exact ⟨70000, sX11_layLinks_2    (hp := hp) 70000 _ _ _ _ _ tx1 lit_0 hI (by omega) (by omega)⟩
set_option maxHeartbeats 4000000 in
set_option maxRecDepth 100000 in
theorem sX11_backward {T W H P S M : Int} {post : Int32 → Wd → Prop} {x1 : Int32} {zx1 : Int} {x2 : Int32} {zx2 : Int} {w : Wd}  (tx1 : Ti x1 zx1) (tx2 : Ti x2 zx2) (hI : IM T W H P S M w)  (hp : ∀ (r : Int32) (zr : Int) (w9 : Wd), Ti r zr → IM T W H P S M w9 → post r w9) : pX11_backward   post  x1 x2 w := by
  unfold pX11_backward
  have hk := im_k hI
  refine sX11_isIn   (hI := hI) (tx0 := tx1) (tx1 := lit_0) (tx2 := lit_7)  (hp := fun r_1v1021 zr_1v1021 tr_1v1021 p2043 p2044 => ?_)
  refine ⟨fun c2045 => ?_, fun c2045 => ?_⟩
  · replace c2045 := c_neq tr_1v1021 lit_0 c2045
    refine sX11_layLinks   (hI := hI) (tx1 := tx2)  (hp := fun r_4v1025 zr_4v1025 w_5v1026  tr_4v1025 hIw_5v1026  => ?_)
    refine ⟨fun c2046 => ?_, fun c2046 => ?_⟩
    · replace c2046 := c_neq tr_4v1025 lit_0 c2046
      refine ⟨vp_of tx1 (by omega) (by omega), ?_⟩
      obtain ⟨z2047, t2048⟩ := t_any (w_5v1026.2.1 367 x1.toNatClampNeg)
      obtain ⟨z2050, t2051⟩ := t_any (w_5v1026.2.1 367 (0 : Int32).toNatClampNeg)
      refine ⟨fun c2053 => ?_, fun c2053 => ?_⟩
      · replace c2053 := c_neq t2048 t2051 c2053
        exact hp _ _ _  lit_m1 hIw_5v1026 
      · replace c2053 := c_eq t2048 t2051 c2053
        refine ⟨vp_of tx1 (by omega) (by omega), ?_⟩
        obtain ⟨z2054, t2055⟩ := t_any ((w_5v1026.2.1 366 x1.toNatClampNeg) ^^^ (w_5v1026.2.1 366 (0 : Int32).toNatClampNeg))
        exact hp _ _ _  t2055 hIw_5v1026 
    · replace c2046 := c_eq tr_4v1025 lit_0 c2046
      exact hp _ _ _  lit_m2 hIw_5v1026 
  · replace c2045 := c_eq tr_1v1021 lit_0 c2045
    exact hp _ _ _  lit_m1 hI 
set_option maxHeartbeats 4000000 in
set_option maxRecDepth 100000 in
theorem sX11_lies {T W H P S M : Int} {post : Int32 → Wd → Prop} {x1 : Int32} {zx1 : Int} {w : Wd}  (tx1 : Ti x1 zx1) (hI : IM T W H P S M w)  (hp : ∀ (r : Int32) (zr : Int), Ti r zr → post r w) : pX11_lies   post  x1 w := by
  unfold pX11_lies
  have hk := im_k hI
  obtain ⟨z2056, t2057⟩ := t_any (w.1 300 48)
  have f2058 := img_48 hI t2057
  obtain ⟨z2059, t2060, f2061⟩ := t_sub t2057 lit_1
  first | replace f2061 := f2061 (by omega) | clear f2061
  refine sX11_isIn   (hI := hI) (tx0 := tx1) (tx1 := lit_0) (tx2 := t2060)  (hp := fun r_1v1027 zr_1v1027 tr_1v1027 p2062 p2063 => ?_)
  refine ⟨fun c2064 => ?_, fun c2064 => ?_⟩
  · replace c2064 := c_eq tr_1v1027 lit_0 c2064
    exact hp _ _ lit_m2 
  · replace c2064 := c_neq tr_1v1027 lit_0 c2064
    refine ⟨vp_of tx1 (by omega) (by omega), ?_⟩
    obtain ⟨z2065, t2066⟩ := t_any (w.2.1 348 x1.toNatClampNeg)
    exact hp _ _ t2066 
set_option maxHeartbeats 4000000 in
set_option maxRecDepth 100000 in
theorem sX11_about {T W H P S M : Int} {post : Int32 → Wd → Prop} {x1 : Int32} {zx1 : Int} {w : Wd}  (tx1 : Ti x1 zx1) (hI : IM T W H P S M w)  (hp : ∀ (r : Int32) (zr : Int), Ti r zr → post r w) : pX11_about   post  x1 w := by
  unfold pX11_about
  have hk := im_k hI
  refine ⟨fun c2068 => ?_, fun c2068 => ?_, fun c2068 => ?_, fun c2068 => ?_, fun c2068 => ?_, fun c2068 => ?_, fun c2068 => ?_, fun c2068 => ?_, fun c2068 => ?_, fun c2068 => ?_, fun c2068 => ?_, fun c2068 => ?_, fun c2068 => ?_, fun c2068 => ?_, fun c2068 => ?_⟩
  · rw [show x1.toInt = zx1 from tx1] at c2068
    exact hp _ _ lit_m1 
  · rw [show x1.toInt = zx1 from tx1] at c2068
    obtain ⟨z2069, t2070⟩ := t_any (w.1 300 29)
    have f2071 := img_29 hI t2070
    refine ⟨vp_of t2070 (by omega) (by omega), ?_⟩
    obtain ⟨z2072, t2073⟩ := t_any (w.2.1 314 (w.1 300 29).toNatClampNeg)
    have f2074 := img_314 hI t2073
    exact hp _ _ t2073 
  · rw [show x1.toInt = zx1 from tx1] at c2068
    refine sX11_width   (hI := hI)   (hp := fun r_2v1029 zr_2v1029 tr_2v1029 p2075 => ?_)
    exact hp _ _ tr_2v1029 
  · rw [show x1.toInt = zx1 from tx1] at c2068
    obtain ⟨z2076, t2077⟩ := t_any (w.2.1 341 (216 : Int32).toNatClampNeg)
    have f2078 := img_216 hI t2077
    exact hp _ _ t2077 
  · rw [show x1.toInt = zx1 from tx1] at c2068
    obtain ⟨z2079, t2080⟩ := t_any (w.2.1 341 (217 : Int32).toNatClampNeg)
    have f2081 := img_217 hI t2080
    exact hp _ _ t2080 
  · rw [show x1.toInt = zx1 from tx1] at c2068
    obtain ⟨z2082, t2083⟩ := t_any (w.2.1 341 (218 : Int32).toNatClampNeg)
    exact hp _ _ t2083 
  · rw [show x1.toInt = zx1 from tx1] at c2068
    obtain ⟨z2085, t2086⟩ := t_any (w.2.1 341 (219 : Int32).toNatClampNeg)
    exact hp _ _ t2086 
  · rw [show x1.toInt = zx1 from tx1] at c2068
    obtain ⟨z2088, t2089⟩ := t_any (w.2.1 341 (220 : Int32).toNatClampNeg)
    exact hp _ _ t2089 
  · rw [show x1.toInt = zx1 from tx1] at c2068
    obtain ⟨z2091, t2092⟩ := t_any (w.1 300 42)
    exact hp _ _ t2092 
  · rw [show x1.toInt = zx1 from tx1] at c2068
    obtain ⟨z2093, t2094⟩ := t_any (w.1 300 43)
    exact hp _ _ t2094 
  · rw [show x1.toInt = zx1 from tx1] at c2068
    obtain ⟨z2095, t2096⟩ := t_any (w.1 300 58)
    have f2097 := img_58 hI t2096
    exact hp _ _ t2096 
  · rw [show x1.toInt = zx1 from tx1] at c2068
    obtain ⟨z2098, t2099⟩ := t_any (w.1 300 59)
    have f2100 := img_59 hI t2099
    exact hp _ _ t2099 
  · rw [show x1.toInt = zx1 from tx1] at c2068
    obtain ⟨z2101, t2102⟩ := t_any (w.1 300 2)
    have f2103 := img_2 hI t2102
    exact hp _ _ t2102 
  · rw [show x1.toInt = zx1 from tx1] at c2068
    obtain ⟨z2104, t2105⟩ := t_any (w.1 300 29)
    have f2106 := img_29 hI t2105
    refine ⟨vp_of t2105 (by omega) (by omega), ?_⟩
    obtain ⟨z2107, t2108⟩ := t_any (w.2.1 315 (w.1 300 29).toNatClampNeg)
    exact hp _ _ t2108 
  · rw [show x1.toInt = zx1 from tx1] at c2068
    obtain ⟨z2110, t2111⟩ := t_any (w.1 300 48)
    have f2112 := img_48 hI t2111
    exact hp _ _ t2111 
