set_option maxHeartbeats 4000000 in
set_option maxRecDepth 100000 in
theorem sX11_span {T W H P S M : Int} {post : Int32 → Wd → Prop} {x1 : Int32} {zx1 : Int} {x2 : Int32} {zx2 : Int} {x3 : Int32} {zx3 : Int} {w : Wd}  (tx1 : Ti x1 zx1) (tx2 : Ti x2 zx2) (tx3 : Ti x3 zx3) (hI : IM T W H P S M w)  (hp : ∀ (r : Int32) (zr : Int), Ti r zr → post r w) : pX11_span   post  x1 x2 x3 w := by
  unfold pX11_span
  have hk := im_k hI
  refine sX11_width   (hI := hI)   (hp := fun r_1v989 zr_1v989 tr_1v989 p1870 => ?_)
  obtain ⟨z1871, t1872, f1873⟩ := t_sub tr_1v989 lit_1
  first | replace f1873 := f1873 (by omega) | clear f1873
  refine sX11_isIn   (hI := hI) (tx0 := tx1) (tx1 := lit_0) (tx2 := t1872)  (hp := fun r_3v995 zr_3v995 tr_3v995 p1874 p1875 => ?_)
  refine ⟨fun c1876 => ?_, fun c1876 => ?_⟩
  · replace c1876 := c_eq tr_3v995 lit_0 c1876
    exact hp _ _ lit_m1 
  · replace c1876 := c_neq tr_3v995 lit_0 c1876
    refine sX11_isIn   (hI := hI) (tx0 := tx2) (tx1 := lit_0) (tx2 := lit_2)  (hp := fun r_6v999 zr_6v999 tr_6v999 p1877 p1878 => ?_)
    refine ⟨fun c1879 => ?_, fun c1879 => ?_⟩
    · replace c1879 := c_neq tr_6v999 lit_0 c1879
      exact ⟨70000, sX11_span_36    (hp := hp) 70000 _ _ _ _ _ _ _ _ _ _ _ _  tx1 tx2 tx3 lit_0 lit_999 lit_0 hI (by omega) (by omega)⟩
    · replace c1879 := c_eq tr_6v999 lit_0 c1879
      exact hp _ _ lit_m1 
set_option maxHeartbeats 4000000 in
set_option maxRecDepth 100000 in
theorem sX11_layLinks_142 {T W H P S M : Int} {k30 : Int32 → Int32 → Wd → Prop} {M30 : Int} {post : Int32 → Wd → Prop}  (hk30 : ∀ (x1 : Int32) (x2 : Int32) (zx1 : Int) (zx2 : Int) (w : Wd), Ti x1 zx1 → Ti x2 zx2 → IM T W H P S M w → (0 ≤ zx2 ∧ zx2 ≤ 40) → (41 - zx2) < M30 → k30 x1 x2 w) (hp : ∀ (r : Int32) (zr : Int) (w9 : Wd), Ti r zr → IM T W H P S M w9 → post r w9) : ∀ (n : Nat) (x1 : Int32) (x2 : Int32) (x3 : Int32) (x5 : Int32) (x6 : Int32) (x7 : Int32) (zx1 : Int) (zx2 : Int) (zx3 : Int) (zx5 : Int) (zx6 : Int) (zx7 : Int) (w : Wd), Ti x1 zx1 → Ti x2 zx2 → Ti x3 zx3 → Ti x5 zx5 → Ti x6 zx6 → Ti x7 zx7 → IM T W H P S M w → (0 ≤ zx7 ∧ zx7 ≤ 8) → (0 ≤ zx3 ∧ zx3 ≤ 7) → (zx2 ≤ 39) → (0 ≤ zx2 ∧ zx2 ≤ 40) → ((41 - zx2) ≤ M30) → (9 - zx7) < (n : Int) → pX11_layLinks_142 k30  post  n x1 x2 x3 x5 x6 x7 w := by
  intro n
  induction n with
  | zero =>
    intro x1 x2 x3 x5 x6 x7 zx1 zx2 zx3 zx5 zx6 zx7 w tx1 tx2 tx3 tx5 tx6 tx7 hI h0 h1 h2 h3 h4 hm
    exact absurd hm (by omega)
  | succ n ih =>
    intro x1 x2 x3 x5 x6 x7 zx1 zx2 zx3 zx5 zx6 zx7 w tx1 tx2 tx3 tx5 tx6 tx7 hI h0 h1 h2 h3 h4 hm
    unfold pX11_layLinks_142
    have hk := im_k hI
    refine ⟨fun c1880 => ?_, fun c1880 => ?_⟩
    · replace c1880 := c_le lit_8 tx7 c1880
      unfold pX11_layLinks_195
      obtain ⟨z1881, t1882, f1883⟩ := t_add tx2 lit_1
      first | replace f1883 := f1883 (by omega) | clear f1883
      intro x2_1v1003 ex2_1v1003
      have tx2_1v1003 : Ti x2_1v1003 z1881 := by rw [ex2_1v1003]; exact t1882
      exact hk30 _ _ _ _ _ tx1 tx2_1v1003 hI (by omega) (by omega)
    · replace c1880 := c_nle lit_8 tx7 c1880
      refine ⟨vp_of tx7 (by omega) (by omega), ?_⟩
      obtain ⟨z1884, t1885⟩ := t_any (w.2.1 367 x7.toNatClampNeg)
      refine ⟨fun c1887 => ?_, fun c1887 => ?_⟩
      · replace c1887 := c_eq t1885 tx5 c1887
        refine ⟨vp_of tx3 (by omega) (by omega), ?_⟩
        refine ⟨vp_of tx7 (by omega) (by omega), ?_⟩
        intro w_3v1001 ew_3v1001
        have hIw_3v1001 := ims_A hI ew_3v1001 (by decide)
        refine ⟨vp_of tx7 (by omega) (by omega), ?_⟩
        refine ⟨vp_of tx7 (by omega) (by omega), ?_⟩
        intro w_4v1002 ew_4v1002
        have hIw_4v1002 := ims_A hIw_3v1001 ew_4v1002 (by decide)
        unfold pX11_layLinks_189
        obtain ⟨z1888, t1889, f1890⟩ := t_add tx7 lit_1
        first | replace f1890 := f1890 (by omega) | clear f1890
        intro x7_1v1004 ex7_1v1004
        have tx7_1v1004 : Ti x7_1v1004 z1888 := by rw [ex7_1v1004]; exact t1889
        exact ih _ _ _ _ _ _ _ _ _ _ _ _ _ tx1 tx2 tx3 tx5 tx6 tx7_1v1004 hIw_4v1002 (by omega) (by omega) (by omega) (by omega) (by omega) (by omega)
      · replace c1887 := c_neq t1885 tx5 c1887
        unfold pX11_layLinks_189
        obtain ⟨z1891, t1892, f1893⟩ := t_add tx7 lit_1
        first | replace f1893 := f1893 (by omega) | clear f1893
        intro x7_1v1005 ex7_1v1005
        have tx7_1v1005 : Ti x7_1v1005 z1891 := by rw [ex7_1v1005]; exact t1892
        exact ih _ _ _ _ _ _ _ _ _ _ _ _ _ tx1 tx2 tx3 tx5 tx6 tx7_1v1005 hI (by omega) (by omega) (by omega) (by omega) (by omega) (by omega)
set_option maxHeartbeats 4000000 in
set_option maxRecDepth 100000 in
theorem sX11_layLinks_30 {T W H P S M : Int} {post : Int32 → Wd → Prop}   (hp : ∀ (r : Int32) (zr : Int) (w9 : Wd), Ti r zr → IM T W H P S M w9 → post r w9) : ∀ (n : Nat) (x1 : Int32) (x2 : Int32) (zx1 : Int) (zx2 : Int) (w : Wd), Ti x1 zx1 → Ti x2 zx2 → IM T W H P S M w → (0 ≤ zx2 ∧ zx2 ≤ 40) → (41 - zx2) < (n : Int) → pX11_layLinks_30   post  n x1 x2 w := by
  intro n
  induction n with
  | zero =>
    intro x1 x2 zx1 zx2 w tx1 tx2 hI h0 hm
    exact absurd hm (by omega)
  | succ n ih =>
    intro x1 x2 zx1 zx2 w tx1 tx2 hI h0 hm
    unfold pX11_layLinks_30
    have hk := im_k hI
    obtain ⟨z1894, t1895⟩ := t_any (w.1 300 58)
    have f1896 := img_58 hI t1895
    refine ⟨fun c1897 => ?_, fun c1897 => ?_⟩
    · replace c1897 := c_le t1895 tx2 c1897
      exact hp _ _ _  lit_1 hI 
    · replace c1897 := c_nle t1895 tx2 c1897
      refine sX11_counts   (hI := hI) (tx1 := tx2) (tx2 := lit_3) (tx3 := tx1) (h0 := (by omega)) (hp := fun r_2v1006 zr_2v1006 tr_2v1006 p1898 => ?_)
      refine ⟨fun c1899 => ?_, fun c1899 => ?_⟩
      · replace c1899 := c_neq tr_2v1006 lit_0 c1899
        refine ⟨vp_of tx2 (by omega) (by omega), ?_⟩
        obtain ⟨z1900, t1901⟩ := t_any (w.2.1 354 x2.toNatClampNeg)
        have f1902 := img_lnk (e := p1898.resolve_left (by omega)) hI tx2 t1895 (by omega) (by omega)
        have f1903 := Rg.g f1902.1 t1901
        intro x3_5v1012 ex3_5v1012
        have tx3_5v1012 : Ti x3_5v1012 z1900 := by rw [ex3_5v1012]; exact t1901
        refine ⟨vp_of tx2 (by omega) (by omega), ?_⟩
        obtain ⟨z1904, t1905⟩ := t_any (w.2.1 355 x2.toNatClampNeg)
        have f1906 := img_lnk (e := p1898.resolve_left (by omega)) hI tx2 t1895 (by omega) (by omega)
        have f1907 := Rg.g f1906.2 t1905
        intro x4_6v1013 ex4_6v1013
        have tx4_6v1013 : Ti x4_6v1013 z1904 := by rw [ex4_6v1013]; exact t1905
        refine ⟨vp_of tx3_5v1012 (by omega) (by omega), ?_⟩
        refine ⟨vp_of tx4_6v1013 (by omega) (by omega), ?_⟩
        obtain ⟨z1908, t1909⟩ := t_any (w.2.1 367 x3_5v1012.toNatClampNeg)
        obtain ⟨z1911, t1912⟩ := t_any (w.2.1 367 x4_6v1013.toNatClampNeg)
        refine ⟨fun c1914 => ?_, fun c1914 => ?_⟩
        · replace c1914 := c_neq t1909 t1912 c1914
          refine ⟨vp_of tx4_6v1013 (by omega) (by omega), ?_⟩
          intro x5_8v1014 ex5_8v1014
          have tx5_8v1014 : Ti x5_8v1014 z1911 := by rw [ex5_8v1014]; exact t1912
          refine ⟨vp_of tx3_5v1012 (by omega) (by omega), ?_⟩
          refine ⟨vp_of tx4_6v1013 (by omega) (by omega), ?_⟩
          refine ⟨vp_of tx2 (by omega) (by omega), ?_⟩
          obtain ⟨z1915, t1916⟩ := t_any (((w.2.1 366 x3_5v1012.toNatClampNeg) ^^^ (w.2.1 366 x4_6v1013.toNatClampNeg)) ^^^ (w.2.1 356 x2.toNatClampNeg))
          intro x6_9v1015 ex6_9v1015
          have tx6_9v1015 : Ti x6_9v1015 z1915 := by rw [ex6_9v1015]; exact t1916
          exact ⟨70000, sX11_layLinks_142  (M30 := (n : Int)) (hk30 := ih)  (hp := hp) 70000 _ _ _ _ _ _ _ _ _ _ _ _ _ tx1 tx2 tx3_5v1012 tx5_8v1014 tx6_9v1015 lit_0 hI (by omega) (by omega) (by omega) (by omega) (by omega) (by omega)⟩
        · replace c1914 := c_eq t1909 t1912 c1914
          refine ⟨vp_of tx3_5v1012 (by omega) (by omega), ?_⟩
          refine ⟨vp_of tx4_6v1013 (by omega) (by omega), ?_⟩
          refine ⟨vp_of tx2 (by omega) (by omega), ?_⟩
          obtain ⟨z1917, t1918⟩ := t_any ((w.2.1 366 x3_5v1012.toNatClampNeg) ^^^ (w.2.1 366 x4_6v1013.toNatClampNeg))
          obtain ⟨z1919, t1920⟩ := t_any (w.2.1 356 x2.toNatClampNeg)
          refine ⟨fun c1922 => ?_, fun c1922 => ?_⟩
          · replace c1922 := c_eq t1918 t1920 c1922
            unfold pX11_layLinks_195
            obtain ⟨z1923, t1924, f1925⟩ := t_add tx2 lit_1
            first | replace f1925 := f1925 (by omega) | clear f1925
            intro x2_1v1016 ex2_1v1016
            have tx2_1v1016 : Ti x2_1v1016 z1923 := by rw [ex2_1v1016]; exact t1924
            exact ih _ _ _ _ _ tx1 tx2_1v1016 hI (by omega) (by omega)
          · replace c1922 := c_neq t1918 t1920 c1922
            exact hp _ _ _  lit_0 hI 
      · replace c1899 := c_eq tr_2v1006 lit_0 c1899
        unfold pX11_layLinks_195
        obtain ⟨z1926, t1927, f1928⟩ := t_add tx2 lit_1
        first | replace f1928 := f1928 (by omega) | clear f1928
        intro x2_1v1017 ex2_1v1017
        have tx2_1v1017 : Ti x2_1v1017 z1926 := by rw [ex2_1v1017]; exact t1927
        exact ih _ _ _ _ _ tx1 tx2_1v1017 hI (by omega) (by omega)
set_option maxHeartbeats 4000000 in
set_option maxRecDepth 100000 in
theorem sX11_layLinks_2 {T W H P S M : Int} {post : Int32 → Wd → Prop}   (hp : ∀ (r : Int32) (zr : Int) (w9 : Wd), Ti r zr → IM T W H P S M w9 → post r w9) : ∀ (n : Nat) (x1 : Int32) (x2 : Int32) (zx1 : Int) (zx2 : Int) (w : Wd), Ti x1 zx1 → Ti x2 zx2 → IM T W H P S M w → (0 ≤ zx2 ∧ zx2 ≤ 8) → (9 - zx2) < (n : Int) → pX11_layLinks_2   post  n x1 x2 w := by
  intro n
  induction n with
  | zero =>
    intro x1 x2 zx1 zx2 w tx1 tx2 hI h0 hm
    exact absurd hm (by omega)
  | succ n ih =>
    intro x1 x2 zx1 zx2 w tx1 tx2 hI h0 hm
    unfold pX11_layLinks_2
    have hk := im_k hI
    refine ⟨fun c1929 => ?_, fun c1929 => ?_⟩
    · replace c1929 := c_le lit_8 tx2 c1929
      exact ⟨70000, sX11_layLinks_30    (hp := hp) 70000 _ _ _ _ _ tx1 lit_0 hI (by omega) (by omega)⟩
    · replace c1929 := c_nle lit_8 tx2 c1929
      refine ⟨vp_of tx2 (by omega) (by omega), ?_⟩
      intro w_2v1018 ew_2v1018
      have hIw_2v1018 := ims_A hI ew_2v1018 (by decide)
      refine ⟨vp_of tx2 (by omega) (by omega), ?_⟩
      intro w_3v1019 ew_3v1019
      have hIw_3v1019 := ims_A hIw_2v1018 ew_3v1019 (by decide)
      obtain ⟨z1930, t1931, f1932⟩ := t_add tx2 lit_1
      first | replace f1932 := f1932 (by omega) | clear f1932
      intro x2_4v1020 ex2_4v1020
      have tx2_4v1020 : Ti x2_4v1020 z1930 := by rw [ex2_4v1020]; exact t1931
      exact ih _ _ _ _ _ tx1 tx2_4v1020 hIw_3v1019 (by omega) (by omega)
set_option maxHeartbeats 4000000 in
set_option maxRecDepth 100000 in
theorem sX11_layLinks {T W H P S M : Int} {post : Int32 → Wd → Prop} {x1 : Int32} {zx1 : Int} {w : Wd}  (tx1 : Ti x1 zx1) (hI : IM T W H P S M w)  (hp : ∀ (r : Int32) (zr : Int) (w9 : Wd), Ti r zr → IM T W H P S M w9 → post r w9) : pX11_layLinks   post  x1 w := by
  unfold pX11_layLinks
  have hk := im_k hI
  exact ⟨70000, sX11_layLinks_2    (hp := hp) 70000 _ _ _ _ _ tx1 lit_0 hI (by omega) (by omega)⟩
set_option maxHeartbeats 4000000 in
set_option maxRecDepth 100000 in
theorem sX11_backward {T W H P S M : Int} {post : Int32 → Wd → Prop} {x1 : Int32} {zx1 : Int} {x2 : Int32} {zx2 : Int} {w : Wd}  (tx1 : Ti x1 zx1) (tx2 : Ti x2 zx2) (hI : IM T W H P S M w)  (hp : ∀ (r : Int32) (zr : Int) (w9 : Wd), Ti r zr → IM T W H P S M w9 → post r w9) : pX11_backward   post  x1 x2 w := by
  unfold pX11_backward
  have hk := im_k hI
  refine sX11_isIn   (hI := hI) (tx0 := tx1) (tx1 := lit_0) (tx2 := lit_7)  (hp := fun r_1v1021 zr_1v1021 tr_1v1021 p1933 p1934 => ?_)
  refine ⟨fun c1935 => ?_, fun c1935 => ?_⟩
  · replace c1935 := c_neq tr_1v1021 lit_0 c1935
    refine sX11_layLinks   (hI := hI) (tx1 := tx2)  (hp := fun r_4v1025 zr_4v1025 w_5v1026  tr_4v1025 hIw_5v1026  => ?_)
    refine ⟨fun c1936 => ?_, fun c1936 => ?_⟩
    · replace c1936 := c_neq tr_4v1025 lit_0 c1936
      refine ⟨vp_of tx1 (by omega) (by omega), ?_⟩
      obtain ⟨z1937, t1938⟩ := t_any (w_5v1026.2.1 367 x1.toNatClampNeg)
      obtain ⟨z1940, t1941⟩ := t_any (w_5v1026.2.1 367 (0 : Int32).toNatClampNeg)
      refine ⟨fun c1943 => ?_, fun c1943 => ?_⟩
      · replace c1943 := c_neq t1938 t1941 c1943
        exact hp _ _ _  lit_m1 hIw_5v1026 
      · replace c1943 := c_eq t1938 t1941 c1943
        refine ⟨vp_of tx1 (by omega) (by omega), ?_⟩
        obtain ⟨z1944, t1945⟩ := t_any ((w_5v1026.2.1 366 x1.toNatClampNeg) ^^^ (w_5v1026.2.1 366 (0 : Int32).toNatClampNeg))
        exact hp _ _ _  t1945 hIw_5v1026 
    · replace c1936 := c_eq tr_4v1025 lit_0 c1936
      exact hp _ _ _  lit_m2 hIw_5v1026 
  · replace c1935 := c_eq tr_1v1021 lit_0 c1935
    exact hp _ _ _  lit_m1 hI 
set_option maxHeartbeats 4000000 in
set_option maxRecDepth 100000 in
theorem sX11_lies {T W H P S M : Int} {post : Int32 → Wd → Prop} {x1 : Int32} {zx1 : Int} {w : Wd}  (tx1 : Ti x1 zx1) (hI : IM T W H P S M w)  (hp : ∀ (r : Int32) (zr : Int), Ti r zr → post r w) : pX11_lies   post  x1 w := by
  unfold pX11_lies
  have hk := im_k hI
  obtain ⟨z1946, t1947⟩ := t_any (w.1 300 48)
  have f1948 := img_48 hI t1947
  obtain ⟨z1949, t1950, f1951⟩ := t_sub t1947 lit_1
  first | replace f1951 := f1951 (by omega) | clear f1951
  refine sX11_isIn   (hI := hI) (tx0 := tx1) (tx1 := lit_0) (tx2 := t1950)  (hp := fun r_1v1027 zr_1v1027 tr_1v1027 p1952 p1953 => ?_)
  refine ⟨fun c1954 => ?_, fun c1954 => ?_⟩
  · replace c1954 := c_eq tr_1v1027 lit_0 c1954
    exact hp _ _ lit_m2 
  · replace c1954 := c_neq tr_1v1027 lit_0 c1954
    refine ⟨vp_of tx1 (by omega) (by omega), ?_⟩
    obtain ⟨z1955, t1956⟩ := t_any (w.2.1 348 x1.toNatClampNeg)
    exact hp _ _ t1956 
set_option maxHeartbeats 4000000 in
set_option maxRecDepth 100000 in
theorem sX11_about {T W H P S M : Int} {post : Int32 → Wd → Prop} {x1 : Int32} {zx1 : Int} {w : Wd}  (tx1 : Ti x1 zx1) (hI : IM T W H P S M w)  (hp : ∀ (r : Int32) (zr : Int), Ti r zr → post r w) : pX11_about   post  x1 w := by
  unfold pX11_about
  have hk := im_k hI
  refine ⟨fun c1958 => ?_, fun c1958 => ?_, fun c1958 => ?_, fun c1958 => ?_, fun c1958 => ?_, fun c1958 => ?_, fun c1958 => ?_, fun c1958 => ?_, fun c1958 => ?_, fun c1958 => ?_, fun c1958 => ?_, fun c1958 => ?_, fun c1958 => ?_, fun c1958 => ?_, fun c1958 => ?_⟩
  · rw [show x1.toInt = zx1 from tx1] at c1958
    exact hp _ _ lit_m1 
  · rw [show x1.toInt = zx1 from tx1] at c1958
    obtain ⟨z1959, t1960⟩ := t_any (w.1 300 29)
    have f1961 := img_29 hI t1960
    refine ⟨vp_of t1960 (by omega) (by omega), ?_⟩
    obtain ⟨z1962, t1963⟩ := t_any (w.2.1 314 (w.1 300 29).toNatClampNeg)
    have f1964 := img_314 hI t1963
    exact hp _ _ t1963 
  · rw [show x1.toInt = zx1 from tx1] at c1958
    refine sX11_width   (hI := hI)   (hp := fun r_2v1029 zr_2v1029 tr_2v1029 p1965 => ?_)
    exact hp _ _ tr_2v1029 
  · rw [show x1.toInt = zx1 from tx1] at c1958
    obtain ⟨z1966, t1967⟩ := t_any (w.2.1 341 (216 : Int32).toNatClampNeg)
    have f1968 := img_216 hI t1967
    exact hp _ _ t1967 
  · rw [show x1.toInt = zx1 from tx1] at c1958
    obtain ⟨z1969, t1970⟩ := t_any (w.2.1 341 (217 : Int32).toNatClampNeg)
    have f1971 := img_217 hI t1970
    exact hp _ _ t1970 
  · rw [show x1.toInt = zx1 from tx1] at c1958
    obtain ⟨z1972, t1973⟩ := t_any (w.2.1 341 (218 : Int32).toNatClampNeg)
    exact hp _ _ t1973 
  · rw [show x1.toInt = zx1 from tx1] at c1958
    obtain ⟨z1975, t1976⟩ := t_any (w.2.1 341 (219 : Int32).toNatClampNeg)
    exact hp _ _ t1976 
  · rw [show x1.toInt = zx1 from tx1] at c1958
    obtain ⟨z1978, t1979⟩ := t_any (w.2.1 341 (220 : Int32).toNatClampNeg)
    exact hp _ _ t1979 
  · rw [show x1.toInt = zx1 from tx1] at c1958
    obtain ⟨z1981, t1982⟩ := t_any (w.1 300 42)
    exact hp _ _ t1982 
  · rw [show x1.toInt = zx1 from tx1] at c1958
    obtain ⟨z1983, t1984⟩ := t_any (w.1 300 43)
    exact hp _ _ t1984 
  · rw [show x1.toInt = zx1 from tx1] at c1958
    obtain ⟨z1985, t1986⟩ := t_any (w.1 300 58)
    have f1987 := img_58 hI t1986
    exact hp _ _ t1986 
  · rw [show x1.toInt = zx1 from tx1] at c1958
    obtain ⟨z1988, t1989⟩ := t_any (w.1 300 59)
    have f1990 := img_59 hI t1989
    exact hp _ _ t1989 
  · rw [show x1.toInt = zx1 from tx1] at c1958
    obtain ⟨z1991, t1992⟩ := t_any (w.1 300 2)
    have f1993 := img_2 hI t1992
    exact hp _ _ t1992 
  · rw [show x1.toInt = zx1 from tx1] at c1958
    obtain ⟨z1994, t1995⟩ := t_any (w.1 300 29)
    have f1996 := img_29 hI t1995
    refine ⟨vp_of t1995 (by omega) (by omega), ?_⟩
    obtain ⟨z1997, t1998⟩ := t_any (w.2.1 315 (w.1 300 29).toNatClampNeg)
    exact hp _ _ t1998 
  · rw [show x1.toInt = zx1 from tx1] at c1958
    obtain ⟨z2000, t2001⟩ := t_any (w.1 300 48)
    have f2002 := img_48 hI t2001
    exact hp _ _ t2001 
