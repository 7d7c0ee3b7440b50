set_option maxHeartbeats 4000000 in
set_option maxRecDepth 100000 in
theorem sX11_feed_18 {T W H P S M : Int} {post : Int32 → Wd → Prop}   (hp : ∀ (r : Int32) (zr : Int) (w9 : Wd), Ti r zr → IM T W H P S M w9 → post r w9) : ∀ (n : Nat) (x1 : Int32) (x2 : Int32) (x3 : Int32) (x4 : Int32) (x5 : Int32) (x6 : Int32) (zx1 : Int) (zx2 : Int) (zx3 : Int) (zx4 : Int) (zx5 : Int) (zx6 : Int) (w : Wd), Ti x1 zx1 → Ti x2 zx2 → Ti x3 zx3 → Ti x4 zx4 → Ti x5 zx5 → Ti x6 zx6 → IM T W H P S M w → (0 ≤ zx6 ∧ zx6 ≤ 20) → (Rg (w.1 300 2) 0 1580) → (21 - zx6) < (n : Int) → pX11_feed_18   post  n x1 x2 x3 x4 x5 x6 w := by
  intro n
  induction n with
  | zero =>
    intro x1 x2 x3 x4 x5 x6 zx1 zx2 zx3 zx4 zx5 zx6 w tx1 tx2 tx3 tx4 tx5 tx6 hI h0 h1 hm
    exact absurd hm (by omega)
  | succ n ih =>
    intro x1 x2 x3 x4 x5 x6 zx1 zx2 zx3 zx4 zx5 zx6 w tx1 tx2 tx3 tx4 tx5 tx6 hI h0 h1 hm
    unfold pX11_feed_18
    have hk := im_k hI
    obtain ⟨z1, t2⟩ := t_any (w.1 300 2)
    have f3 := img_2 hI t2
    have f4 := Rg.g h1 t2
    refine ⟨fun c5 => ?_, fun c5 => ?_⟩
    · replace c5 := c_le lit_20 tx6 c5
      intro w_2v1 ew_2v1
      obtain ⟨z6, t7, f8⟩ := t_add t2 lit_20
      first | replace f8 := f8 (by omega) | clear f8
      have hIw_2v1 := ims_2 hI ew_2v1 t7 (by omega) (by omega)
      have t9 : Ti (w_2v1.1 300 2) z6 := by rw [ew_2v1, sI_at]; exact t7
      exact hp _ _ _  t9 hIw_2v1 
    · replace c5 := c_nle lit_20 tx6 c5
      refine ⟨fun c10 => ?_, fun c10 => ?_⟩
      · replace c10 := c_le lit_4 tx6 c10
        refine ⟨fun c11 => ?_, fun c11 => ?_⟩
        · replace c11 := c_le lit_8 tx6 c11
          refine ⟨fun c12 => ?_, fun c12 => ?_⟩
          · replace c12 := c_le lit_12 tx6 c12
            refine ⟨fun c13 => ?_, fun c13 => ?_⟩
            · replace c13 := c_le lit_16 tx6 c13
              unfold pX11_feed_71
              obtain ⟨z14, t15, f16⟩ := t_add t2 tx6
              first | replace f16 := f16 (by omega) | clear f16
              refine ⟨vp_of t15 (by omega) (by omega), ?_⟩
              intro w_1v2 ew_1v2
              have hIw_1v2 := ims_A hI ew_1v2 (by decide)
              obtain ⟨z17, t18, f19⟩ := t_add tx6 lit_1
              first | replace f19 := f19 (by omega) | clear f19
              intro x6_2v3 ex6_2v3
              have tx6_2v3 : Ti x6_2v3 z17 := by rw [ex6_2v3]; exact t18
              have t20 : Ti (w_1v2.1 300 2) z1 := by rw [e1_A ew_1v2]; exact t2
              exact ih _ _ _ _ _ _ _ _ _ _ _ _ _ tx1 tx2 tx3 tx4 tx5 tx6_2v3 hIw_1v2 (by omega) (Rg.m t20 (by omega) (by omega)) (by omega)
            · replace c13 := c_nle lit_16 tx6 c13
              unfold pX11_feed_71
              obtain ⟨z21, t22, f23⟩ := t_add t2 tx6
              first | replace f23 := f23 (by omega) | clear f23
              refine ⟨vp_of t22 (by omega) (by omega), ?_⟩
              intro w_1v4 ew_1v4
              have hIw_1v4 := ims_A hI ew_1v4 (by decide)
              obtain ⟨z24, t25, f26⟩ := t_add tx6 lit_1
              first | replace f26 := f26 (by omega) | clear f26
              intro x6_2v5 ex6_2v5
              have tx6_2v5 : Ti x6_2v5 z24 := by rw [ex6_2v5]; exact t25
              have t27 : Ti (w_1v4.1 300 2) z1 := by rw [e1_A ew_1v4]; exact t2
              exact ih _ _ _ _ _ _ _ _ _ _ _ _ _ tx1 tx2 tx3 tx4 tx5 tx6_2v5 hIw_1v4 (by omega) (Rg.m t27 (by omega) (by omega)) (by omega)
          · replace c12 := c_nle lit_12 tx6 c12
            unfold pX11_feed_71
            obtain ⟨z28, t29, f30⟩ := t_add t2 tx6
            first | replace f30 := f30 (by omega) | clear f30
            refine ⟨vp_of t29 (by omega) (by omega), ?_⟩
            intro w_1v6 ew_1v6
            have hIw_1v6 := ims_A hI ew_1v6 (by decide)
            obtain ⟨z31, t32, f33⟩ := t_add tx6 lit_1
            first | replace f33 := f33 (by omega) | clear f33
            intro x6_2v7 ex6_2v7
            have tx6_2v7 : Ti x6_2v7 z31 := by rw [ex6_2v7]; exact t32
            have t34 : Ti (w_1v6.1 300 2) z1 := by rw [e1_A ew_1v6]; exact t2
            exact ih _ _ _ _ _ _ _ _ _ _ _ _ _ tx1 tx2 tx3 tx4 tx5 tx6_2v7 hIw_1v6 (by omega) (Rg.m t34 (by omega) (by omega)) (by omega)
        · replace c11 := c_nle lit_8 tx6 c11
          unfold pX11_feed_71
          obtain ⟨z35, t36, f37⟩ := t_add t2 tx6
          first | replace f37 := f37 (by omega) | clear f37
          refine ⟨vp_of t36 (by omega) (by omega), ?_⟩
          intro w_1v8 ew_1v8
          have hIw_1v8 := ims_A hI ew_1v8 (by decide)
          obtain ⟨z38, t39, f40⟩ := t_add tx6 lit_1
          first | replace f40 := f40 (by omega) | clear f40
          intro x6_2v9 ex6_2v9
          have tx6_2v9 : Ti x6_2v9 z38 := by rw [ex6_2v9]; exact t39
          have t41 : Ti (w_1v8.1 300 2) z1 := by rw [e1_A ew_1v8]; exact t2
          exact ih _ _ _ _ _ _ _ _ _ _ _ _ _ tx1 tx2 tx3 tx4 tx5 tx6_2v9 hIw_1v8 (by omega) (Rg.m t41 (by omega) (by omega)) (by omega)
      · replace c10 := c_nle lit_4 tx6 c10
        unfold pX11_feed_71
        obtain ⟨z42, t43, f44⟩ := t_add t2 tx6
        first | replace f44 := f44 (by omega) | clear f44
        refine ⟨vp_of t43 (by omega) (by omega), ?_⟩
        intro w_1v10 ew_1v10
        have hIw_1v10 := ims_A hI ew_1v10 (by decide)
        obtain ⟨z45, t46, f47⟩ := t_add tx6 lit_1
        first | replace f47 := f47 (by omega) | clear f47
        intro x6_2v11 ex6_2v11
        have tx6_2v11 : Ti x6_2v11 z45 := by rw [ex6_2v11]; exact t46
        have t48 : Ti (w_1v10.1 300 2) z1 := by rw [e1_A ew_1v10]; exact t2
        exact ih _ _ _ _ _ _ _ _ _ _ _ _ _ tx1 tx2 tx3 tx4 tx5 tx6_2v11 hIw_1v10 (by omega) (Rg.m t48 (by omega) (by omega)) (by omega)
set_option maxHeartbeats 4000000 in
set_option maxRecDepth 100000 in
theorem sX11_feed {T W H P S M : Int} {post : Int32 → Wd → Prop} {x1 : Int32} {zx1 : Int} {x2 : Int32} {zx2 : Int} {x3 : Int32} {zx3 : Int} {x4 : Int32} {zx4 : Int} {x5 : Int32} {zx5 : Int} {w : Wd}  (tx1 : Ti x1 zx1) (tx2 : Ti x2 zx2) (tx3 : Ti x3 zx3) (tx4 : Ti x4 zx4) (tx5 : Ti x5 zx5) (hI : IM T W H P S M w)  (hp : ∀ (r : Int32) (zr : Int) (w9 : Wd), Ti r zr → IM T W H P S M w9 → post r w9) : pX11_feed   post  x1 x2 x3 x4 x5 w := by
  unfold pX11_feed
  have hk := im_k hI
  obtain ⟨z49, t50⟩ := t_any (w.1 300 2)
  have f51 := img_2 hI t50
  obtain ⟨z52, t53, f54⟩ := t_add t50 lit_20
  first | replace f54 := f54 (by omega) | clear f54
  refine ⟨fun c55 => ?_, fun c55 => ?_⟩
  · replace c55 := c_le t53 lit_1600 c55
    exact ⟨70000, sX11_feed_18    (hp := hp) 70000 _ _ _ _ _ _ _ _ _ _ _ _ _ tx1 tx2 tx3 tx4 tx5 lit_0 hI (by omega) (Rg.m t50 (by omega) (by omega)) (by omega)⟩
  · replace c55 := c_nle t53 lit_1600 c55
    exact hp _ _ _  lit_m1 hI 
set_option maxHeartbeats 4000000 in
set_option maxRecDepth 100000 in
theorem sX11_end {T W H P S M : Int} {post : Int32 → Wd → Prop} {x1 : Int32} {zx1 : Int} {w : Wd}  (tx1 : Ti x1 zx1) (hI : IM T W H P S M w)  (hp : ∀ (r : Int32) (zr : Int) (w9 : Wd), Ti r zr → IM T W H P S M w9 → post r w9) : pX11_end   post  x1 w := by
  unfold pX11_end
  have hk := im_k hI
  refine ⟨fun c56 => ?_, fun c56 => ?_⟩
  · replace c56 := c_lt tx1 lit_0 c56
    exact hp _ _ _  lit_m1 hI 
  · replace c56 := c_nlt tx1 lit_0 c56
    obtain ⟨z57, t58⟩ := t_any (w.1 300 2)
    have f59 := img_2 hI t58
    refine ⟨fun c60 => ?_, fun c60 => ?_⟩
    · replace c60 := c_le tx1 t58 c60
      intro w_3v12 ew_3v12
      have hIw_3v12 := ims_2 hI ew_3v12 tx1 (by omega) (by omega)
      exact hp _ _ _  tx1 hIw_3v12 
    · replace c60 := c_nle tx1 t58 c60
      exact hp _ _ _  lit_m1 hI 
set_option maxHeartbeats 4000000 in
set_option maxRecDepth 100000 in
theorem sX11_isDigit {T W H P S M : Int} {post : Int32 → Wd → Prop} {x0 : Int32} {zx0 : Int} {w : Wd}  (tx0 : Ti x0 zx0) (hI : IM T W H P S M w)  (hp : ∀ (r : Int32) (zr : Int), Ti r zr → (((zr = 0 ∧ (zx0 < 48 ∨ 57 < zx0)) ∨ (zr = 1 ∧ 48 ≤ zx0 ∧ zx0 ≤ 57))) → post r w) : pX11_isDigit   post  x0 w := by
  unfold pX11_isDigit
  have hk := im_k hI
  refine ⟨fun c61 => ?_, fun c61 => ?_⟩
  · replace c61 := c_lt tx0 lit_48 c61
    exact hp _ _ lit_0 (by omega)
  · replace c61 := c_nlt tx0 lit_48 c61
    refine ⟨fun c62 => ?_, fun c62 => ?_⟩
    · replace c62 := c_lt lit_57 tx0 c62
      exact hp _ _ lit_0 (by omega)
    · replace c62 := c_nlt lit_57 tx0 c62
      exact hp _ _ lit_1 (by omega)
set_option maxHeartbeats 4000000 in
set_option maxRecDepth 100000 in
theorem sX11_isKept {T W H P S M : Int} {post : Int32 → Wd → Prop} {x0 : Int64} {w : Wd}   (hI : IM T W H P S M w)  (hp : ∀ (r : Int32) (zr : Int), Ti r zr → post r w) : pX11_isKept   post  x0 w := by
  unfold pX11_isKept
  have hk := im_k hI
  refine ⟨fun c63 => ?_, fun c63 => ?_⟩
  · unfold pX11_isKept_72
    unfold pX11_isKept_77
    refine ⟨fun c64 => ?_, fun c64 => ?_⟩
    · replace c64 := c_neq lit_1 lit_0 c64
      exact hp _ _ lit_1 
    · replace c64 := c_eq lit_1 lit_0 c64
      refine ⟨fun c65 => ?_, fun c65 => ?_⟩
      · exact hp _ _ lit_1 
      · refine ⟨fun c66 => ?_, fun c66 => ?_⟩
        · exact hp _ _ lit_1 
        · refine ⟨fun c67 => ?_, fun c67 => ?_⟩
          · exact hp _ _ lit_1 
          · refine ⟨fun c68 => ?_, fun c68 => ?_⟩
            · exact hp _ _ lit_1 
            · refine ⟨fun c69 => ?_, fun c69 => ?_⟩
              · exact hp _ _ lit_1 
              · refine ⟨fun c70 => ?_, fun c70 => ?_⟩
                · exact hp _ _ lit_1 
                · refine ⟨fun c71 => ?_, fun c71 => ?_⟩
                  · exact hp _ _ lit_1 
                  · refine ⟨fun c72 => ?_, fun c72 => ?_⟩
                    · exact hp _ _ lit_0 
                    · exact hp _ _ lit_1 
  · refine ⟨fun c73 => ?_, fun c73 => ?_⟩
    · unfold pX11_isKept_72
      unfold pX11_isKept_77
      refine ⟨fun c74 => ?_, fun c74 => ?_⟩
      · replace c74 := c_neq lit_1 lit_0 c74
        exact hp _ _ lit_1 
      · replace c74 := c_eq lit_1 lit_0 c74
        refine ⟨fun c75 => ?_, fun c75 => ?_⟩
        · exact hp _ _ lit_1 
        · refine ⟨fun c76 => ?_, fun c76 => ?_⟩
          · exact hp _ _ lit_1 
          · refine ⟨fun c77 => ?_, fun c77 => ?_⟩
            · exact hp _ _ lit_1 
            · refine ⟨fun c78 => ?_, fun c78 => ?_⟩
              · exact hp _ _ lit_1 
              · refine ⟨fun c79 => ?_, fun c79 => ?_⟩
                · exact hp _ _ lit_1 
                · refine ⟨fun c80 => ?_, fun c80 => ?_⟩
                  · exact hp _ _ lit_1 
                  · refine ⟨fun c81 => ?_, fun c81 => ?_⟩
                    · exact hp _ _ lit_1 
                    · refine ⟨fun c82 => ?_, fun c82 => ?_⟩
                      · exact hp _ _ lit_0 
                      · exact hp _ _ lit_1 
    · refine ⟨fun c83 => ?_, fun c83 => ?_⟩
      · unfold pX11_isKept_72
        unfold pX11_isKept_77
        refine ⟨fun c84 => ?_, fun c84 => ?_⟩
        · replace c84 := c_neq lit_1 lit_0 c84
          exact hp _ _ lit_1 
        · replace c84 := c_eq lit_1 lit_0 c84
          refine ⟨fun c85 => ?_, fun c85 => ?_⟩
          · exact hp _ _ lit_1 
          · refine ⟨fun c86 => ?_, fun c86 => ?_⟩
            · exact hp _ _ lit_1 
            · refine ⟨fun c87 => ?_, fun c87 => ?_⟩
              · exact hp _ _ lit_1 
              · refine ⟨fun c88 => ?_, fun c88 => ?_⟩
                · exact hp _ _ lit_1 
                · refine ⟨fun c89 => ?_, fun c89 => ?_⟩
                  · exact hp _ _ lit_1 
                  · refine ⟨fun c90 => ?_, fun c90 => ?_⟩
                    · exact hp _ _ lit_1 
                    · refine ⟨fun c91 => ?_, fun c91 => ?_⟩
                      · exact hp _ _ lit_1 
                      · refine ⟨fun c92 => ?_, fun c92 => ?_⟩
                        · exact hp _ _ lit_0 
                        · exact hp _ _ lit_1 
      · refine ⟨fun c93 => ?_, fun c93 => ?_⟩
        · unfold pX11_isKept_72
          unfold pX11_isKept_77
          refine ⟨fun c94 => ?_, fun c94 => ?_⟩
          · replace c94 := c_neq lit_1 lit_0 c94
            exact hp _ _ lit_1 
          · replace c94 := c_eq lit_1 lit_0 c94
            refine ⟨fun c95 => ?_, fun c95 => ?_⟩
            · exact hp _ _ lit_1 
            · refine ⟨fun c96 => ?_, fun c96 => ?_⟩
              · exact hp _ _ lit_1 
              · refine ⟨fun c97 => ?_, fun c97 => ?_⟩
                · exact hp _ _ lit_1 
                · refine ⟨fun c98 => ?_, fun c98 => ?_⟩
                  · exact hp _ _ lit_1 
                  · refine ⟨fun c99 => ?_, fun c99 => ?_⟩
                    · exact hp _ _ lit_1 
                    · refine ⟨fun c100 => ?_, fun c100 => ?_⟩
                      · exact hp _ _ lit_1 
                      · refine ⟨fun c101 => ?_, fun c101 => ?_⟩
                        · exact hp _ _ lit_1 
                        · refine ⟨fun c102 => ?_, fun c102 => ?_⟩
                          · exact hp _ _ lit_0 
                          · exact hp _ _ lit_1 
        · refine ⟨fun c103 => ?_, fun c103 => ?_⟩
          · unfold pX11_isKept_72
            unfold pX11_isKept_77
            refine ⟨fun c104 => ?_, fun c104 => ?_⟩
            · replace c104 := c_neq lit_1 lit_0 c104
              exact hp _ _ lit_1 
            · replace c104 := c_eq lit_1 lit_0 c104
              refine ⟨fun c105 => ?_, fun c105 => ?_⟩
              · exact hp _ _ lit_1 
              · refine ⟨fun c106 => ?_, fun c106 => ?_⟩
                · exact hp _ _ lit_1 
                · refine ⟨fun c107 => ?_, fun c107 => ?_⟩
                  · exact hp _ _ lit_1 
                  · refine ⟨fun c108 => ?_, fun c108 => ?_⟩
                    · exact hp _ _ lit_1 
                    · refine ⟨fun c109 => ?_, fun c109 => ?_⟩
                      · exact hp _ _ lit_1 
                      · refine ⟨fun c110 => ?_, fun c110 => ?_⟩
                        · exact hp _ _ lit_1 
                        · refine ⟨fun c111 => ?_, fun c111 => ?_⟩
                          · exact hp _ _ lit_1 
                          · refine ⟨fun c112 => ?_, fun c112 => ?_⟩
                            · exact hp _ _ lit_0 
                            · exact hp _ _ lit_1 
          · refine ⟨fun c113 => ?_, fun c113 => ?_⟩
            · unfold pX11_isKept_72
              unfold pX11_isKept_77
              refine ⟨fun c114 => ?_, fun c114 => ?_⟩
              · replace c114 := c_neq lit_1 lit_0 c114
                exact hp _ _ lit_1 
              · replace c114 := c_eq lit_1 lit_0 c114
                refine ⟨fun c115 => ?_, fun c115 => ?_⟩
                · exact hp _ _ lit_1 
                · refine ⟨fun c116 => ?_, fun c116 => ?_⟩
                  · exact hp _ _ lit_1 
                  · refine ⟨fun c117 => ?_, fun c117 => ?_⟩
                    · exact hp _ _ lit_1 
                    · refine ⟨fun c118 => ?_, fun c118 => ?_⟩
                      · exact hp _ _ lit_1 
                      · refine ⟨fun c119 => ?_, fun c119 => ?_⟩
                        · exact hp _ _ lit_1 
                        · refine ⟨fun c120 => ?_, fun c120 => ?_⟩
                          · exact hp _ _ lit_1 
                          · refine ⟨fun c121 => ?_, fun c121 => ?_⟩
                            · exact hp _ _ lit_1 
                            · refine ⟨fun c122 => ?_, fun c122 => ?_⟩
                              · exact hp _ _ lit_0 
                              · exact hp _ _ lit_1 
            · refine ⟨fun c123 => ?_, fun c123 => ?_⟩
              · unfold pX11_isKept_72
                unfold pX11_isKept_77
                refine ⟨fun c124 => ?_, fun c124 => ?_⟩
                · replace c124 := c_neq lit_1 lit_0 c124
                  exact hp _ _ lit_1 
                · replace c124 := c_eq lit_1 lit_0 c124
                  refine ⟨fun c125 => ?_, fun c125 => ?_⟩
                  · exact hp _ _ lit_1 
                  · refine ⟨fun c126 => ?_, fun c126 => ?_⟩
                    · exact hp _ _ lit_1 
                    · refine ⟨fun c127 => ?_, fun c127 => ?_⟩
                      · exact hp _ _ lit_1 
                      · refine ⟨fun c128 => ?_, fun c128 => ?_⟩
                        · exact hp _ _ lit_1 
                        · refine ⟨fun c129 => ?_, fun c129 => ?_⟩
                          · exact hp _ _ lit_1 
                          · refine ⟨fun c130 => ?_, fun c130 => ?_⟩
                            · exact hp _ _ lit_1 
                            · refine ⟨fun c131 => ?_, fun c131 => ?_⟩
                              · exact hp _ _ lit_1 
                              · refine ⟨fun c132 => ?_, fun c132 => ?_⟩
                                · exact hp _ _ lit_0 
                                · exact hp _ _ lit_1 
              · refine ⟨fun c133 => ?_, fun c133 => ?_⟩
                · unfold pX11_isKept_72
                  unfold pX11_isKept_77
                  refine ⟨fun c134 => ?_, fun c134 => ?_⟩
                  · replace c134 := c_neq lit_1 lit_0 c134
                    exact hp _ _ lit_1 
                  · replace c134 := c_eq lit_1 lit_0 c134
                    refine ⟨fun c135 => ?_, fun c135 => ?_⟩
                    · exact hp _ _ lit_1 
                    · refine ⟨fun c136 => ?_, fun c136 => ?_⟩
                      · exact hp _ _ lit_1 
                      · refine ⟨fun c137 => ?_, fun c137 => ?_⟩
                        · exact hp _ _ lit_1 
                        · refine ⟨fun c138 => ?_, fun c138 => ?_⟩
                          · exact hp _ _ lit_1 
                          · refine ⟨fun c139 => ?_, fun c139 => ?_⟩
                            · exact hp _ _ lit_1 
                            · refine ⟨fun c140 => ?_, fun c140 => ?_⟩
                              · exact hp _ _ lit_1 
                              · refine ⟨fun c141 => ?_, fun c141 => ?_⟩
                                · exact hp _ _ lit_1 
                                · refine ⟨fun c142 => ?_, fun c142 => ?_⟩
                                  · exact hp _ _ lit_0 
                                  · exact hp _ _ lit_1 
                · refine ⟨fun c143 => ?_, fun c143 => ?_⟩
                  · unfold pX11_isKept_77
                    refine ⟨fun c144 => ?_, fun c144 => ?_⟩
                    · replace c144 := c_neq lit_0 lit_0 c144
                      exact hp _ _ lit_1 
                    · replace c144 := c_eq lit_0 lit_0 c144
                      refine ⟨fun c145 => ?_, fun c145 => ?_⟩
                      · exact hp _ _ lit_1 
                      · refine ⟨fun c146 => ?_, fun c146 => ?_⟩
                        · exact hp _ _ lit_1 
                        · refine ⟨fun c147 => ?_, fun c147 => ?_⟩
                          · exact hp _ _ lit_1 
                          · refine ⟨fun c148 => ?_, fun c148 => ?_⟩
                            · exact hp _ _ lit_1 
                            · refine ⟨fun c149 => ?_, fun c149 => ?_⟩
                              · exact hp _ _ lit_1 
                              · refine ⟨fun c150 => ?_, fun c150 => ?_⟩
                                · exact hp _ _ lit_1 
                                · refine ⟨fun c151 => ?_, fun c151 => ?_⟩
                                  · exact hp _ _ lit_1 
                                  · refine ⟨fun c152 => ?_, fun c152 => ?_⟩
                                    · exact hp _ _ lit_0 
                                    · exact hp _ _ lit_1 
                  · unfold pX11_isKept_72
                    unfold pX11_isKept_77
                    refine ⟨fun c153 => ?_, fun c153 => ?_⟩
                    · replace c153 := c_neq lit_1 lit_0 c153
                      exact hp _ _ lit_1 
                    · replace c153 := c_eq lit_1 lit_0 c153
                      refine ⟨fun c154 => ?_, fun c154 => ?_⟩
                      · exact hp _ _ lit_1 
                      · refine ⟨fun c155 => ?_, fun c155 => ?_⟩
                        · exact hp _ _ lit_1 
                        · refine ⟨fun c156 => ?_, fun c156 => ?_⟩
                          · exact hp _ _ lit_1 
                          · refine ⟨fun c157 => ?_, fun c157 => ?_⟩
                            · exact hp _ _ lit_1 
                            · refine ⟨fun c158 => ?_, fun c158 => ?_⟩
                              · exact hp _ _ lit_1 
                              · refine ⟨fun c159 => ?_, fun c159 => ?_⟩
                                · exact hp _ _ lit_1 
                                · refine ⟨fun c160 => ?_, fun c160 => ?_⟩
                                  · exact hp _ _ lit_1 
                                  · refine ⟨fun c161 => ?_, fun c161 => ?_⟩
                                    · exact hp _ _ lit_0 
                                    · exact hp _ _ lit_1 
set_option maxHeartbeats 4000000 in
set_option maxRecDepth 100000 in
theorem sX11_isLetter {T W H P S M : Int} {post : Int32 → Wd → Prop} {x0 : Int32} {zx0 : Int} {w : Wd}  (tx0 : Ti x0 zx0) (hI : IM T W H P S M w)  (hp : ∀ (r : Int32) (zr : Int), Ti r zr → (((zr = 0 ∧ (zx0 < 97 ∨ 122 < zx0)) ∨ (zr = 1 ∧ 97 ≤ zx0 ∧ zx0 ≤ 122))) → post r w) : pX11_isLetter   post  x0 w := by
  unfold pX11_isLetter
  have hk := im_k hI
  refine ⟨fun c162 => ?_, fun c162 => ?_⟩
  · replace c162 := c_lt tx0 lit_97 c162
    exact hp _ _ lit_0 (by omega)
  · replace c162 := c_nlt tx0 lit_97 c162
    refine ⟨fun c163 => ?_, fun c163 => ?_⟩
    · replace c163 := c_lt lit_122 tx0 c163
      exact hp _ _ lit_0 (by omega)
    · replace c163 := c_nlt lit_122 tx0 c163
      exact hp _ _ lit_1 (by omega)
set_option maxHeartbeats 4000000 in
set_option maxRecDepth 100000 in
theorem sX11_isSign {T W H P S M : Int} {post : Int32 → Wd → Prop} {x0 : Int32} {zx0 : Int} {w : Wd}  (tx0 : Ti x0 zx0) (hI : IM T W H P S M w)  (hp : ∀ (r : Int32) (zr : Int), Ti r zr → post r w) : pX11_isSign   post  x0 w := by
  unfold pX11_isSign
  have hk := im_k hI
  refine ⟨fun c164 => ?_, fun c164 => ?_⟩
  · replace c164 := c_eq tx0 lit_59 c164
    exact hp _ _ lit_1 
  · replace c164 := c_neq tx0 lit_59 c164
    refine ⟨fun c165 => ?_, fun c165 => ?_⟩
    · replace c165 := c_eq tx0 lit_40 c165
      exact hp _ _ lit_1 
    · replace c165 := c_neq tx0 lit_40 c165
      refine ⟨fun c166 => ?_, fun c166 => ?_⟩
      · replace c166 := c_eq tx0 lit_41 c166
        exact hp _ _ lit_1 
      · replace c166 := c_neq tx0 lit_41 c166
        refine ⟨fun c167 => ?_, fun c167 => ?_⟩
        · replace c167 := c_eq tx0 lit_60 c167
          exact hp _ _ lit_1 
        · replace c167 := c_neq tx0 lit_60 c167
          refine ⟨fun c168 => ?_, fun c168 => ?_⟩
          · replace c168 := c_eq tx0 lit_62 c168
            exact hp _ _ lit_1 
          · replace c168 := c_neq tx0 lit_62 c168
            refine ⟨fun c169 => ?_, fun c169 => ?_⟩
            · replace c169 := c_eq tx0 lit_61 c169
              exact hp _ _ lit_1 
            · replace c169 := c_neq tx0 lit_61 c169
              refine ⟨fun c170 => ?_, fun c170 => ?_⟩
              · replace c170 := c_eq tx0 lit_43 c170
                exact hp _ _ lit_1 
              · replace c170 := c_neq tx0 lit_43 c170
                refine ⟨fun c171 => ?_, fun c171 => ?_⟩
                · replace c171 := c_eq tx0 lit_45 c171
                  exact hp _ _ lit_1 
                · replace c171 := c_neq tx0 lit_45 c171
                  refine ⟨fun c172 => ?_, fun c172 => ?_⟩
                  · replace c172 := c_eq tx0 lit_42 c172
                    exact hp _ _ lit_1 
                  · replace c172 := c_neq tx0 lit_42 c172
                    refine ⟨fun c173 => ?_, fun c173 => ?_⟩
                    · replace c173 := c_eq tx0 lit_47 c173
                      exact hp _ _ lit_1 
                    · replace c173 := c_neq tx0 lit_47 c173
                      refine ⟨fun c174 => ?_, fun c174 => ?_⟩
                      · replace c174 := c_neq tx0 lit_37 c174
                        exact hp _ _ lit_0 
                      · replace c174 := c_eq tx0 lit_37 c174
                        exact hp _ _ lit_1 
set_option maxHeartbeats 4000000 in
set_option maxRecDepth 100000 in
theorem sX11_fault {T W H P S M : Int} {post : Int32 → Wd → Prop} {x1 : Int32} {zx1 : Int} {w : Wd}  (tx1 : Ti x1 zx1) (hI : IM T W H P S M w)  (hp : ∀ (r : Int32) (zr : Int), Ti r zr → post r w) : pX11_fault   post  x1 w := by
  unfold pX11_fault
  have hk := im_k hI
  refine ⟨fun c175 => ?_, fun c175 => ?_⟩
  · replace c175 := c_neq tx1 lit_0 c175
    refine ⟨fun c176 => ?_, fun c176 => ?_⟩
    · replace c176 := c_neq tx1 lit_1 c176
      exact hp _ _ lit_m1 
    · replace c176 := c_eq tx1 lit_1 c176
      obtain ⟨z177, t178⟩ := t_any (w.1 300 5)
      exact hp _ _ t178 
  · replace c175 := c_eq tx1 lit_0 c175
    obtain ⟨z179, t180⟩ := t_any (w.1 300 4)
    exact hp _ _ t180 
set_option maxHeartbeats 4000000 in
set_option maxRecDepth 100000 in
theorem sX11_deep_4 {T W H P S M : Int} {post : Int32 → Wd → Prop} {w : Wd}  (hp : ∀ (r : Int32) (zr : Int), Ti r zr → post r w) : ∀ (n : Nat) (x2 : Int32) (x3 : Int32) (zx2 : Int) (zx3 : Int), Ti x2 zx2 → Ti x3 zx3 → IM T W H P S M w → (-1 ≤ zx3 ∧ zx3 < S) → (zx3 + 2) < (n : Int) → pX11_deep_4   post  n x2 x3 w := by
  intro n
  induction n with
  | zero =>
    intro x2 x3 zx2 zx3  tx2 tx3 hI h0 hm
    exact absurd hm (by omega)
  | succ n ih =>
    intro x2 x3 zx2 zx3  tx2 tx3 hI h0 hm
    unfold pX11_deep_4
    have hk := im_k hI
    refine ⟨fun c181 => ?_, fun c181 => ?_⟩
    · replace c181 := c_le tx3 lit_0 c181
      exact hp _ _ tx2 
    · replace c181 := c_nle tx3 lit_0 c181
      obtain ⟨z182, t183, f184⟩ := t_add tx2 lit_1
      first | replace f184 := f184 (by omega) | clear f184
      intro x2_2v13 ex2_2v13
      have tx2_2v13 : Ti x2_2v13 z182 := by rw [ex2_2v13]; exact t183
      obtain ⟨z185, t186, f187⟩ := t_mul lit_4 tx3
      first | replace f187 := f187 (by omega) | clear f187
      obtain ⟨z188, t189, f190⟩ := t_add t186 lit_1
      first | replace f190 := f190 (by omega) | clear f190
      refine ⟨vp_of t189 (by omega) (by omega), ?_⟩
      obtain ⟨z191, t192⟩ := t_any (w.2.1 341 (((4 : Int32) * x3) + (1 : Int32)).toNatClampNeg)
      have f193 := img_par (x := zx3) hI t189 t192
      first | replace f193 := f193 (by omega) | clear f193
      intro x3_3v14 ex3_3v14
      have tx3_3v14 : Ti x3_3v14 z191 := by rw [ex3_3v14]; exact t192
      exact ih _ _ _ _  tx2_2v13 tx3_3v14 hI (by omega) (by omega)
set_option maxHeartbeats 4000000 in
set_option maxRecDepth 100000 in
theorem sX11_deep {T W H P S M : Int} {post : Int32 → Wd → Prop} {x1 : Int32} {zx1 : Int} {w : Wd}  (tx1 : Ti x1 zx1) (hI : IM T W H P S M w) (h0 : 0 ≤ zx1 ∧ zx1 < S) (hp : ∀ (r : Int32) (zr : Int), Ti r zr → post r w) : pX11_deep   post  x1 w := by
  unfold pX11_deep
  have hk := im_k hI
  exact ⟨70000, sX11_deep_4    (hp := hp) 70000 _ _ _ _  lit_0 tx1 hI (by omega) (by omega)⟩
set_option maxHeartbeats 4000000 in
set_option maxRecDepth 100000 in
theorem sX11_isIn {T W H P S M : Int} {post : Int32 → Wd → Prop} {x0 : Int32} {zx0 : Int} {x1 : Int32} {zx1 : Int} {x2 : Int32} {zx2 : Int} {w : Wd}  (tx0 : Ti x0 zx0) (tx1 : Ti x1 zx1) (tx2 : Ti x2 zx2) (hI : IM T W H P S M w)  (hp : ∀ (r : Int32) (zr : Int), Ti r zr → ((zr = 0 ∨ zr = 1)) → ((zr = 0 ∨ (zx1 ≤ zx0 ∧ zx0 ≤ zx2))) → post r w) : pX11_isIn   post  x0 x1 x2 w := by
  unfold pX11_isIn
  have hk := im_k hI
  refine ⟨fun c194 => ?_, fun c194 => ?_⟩
  · replace c194 := c_lt tx0 tx1 c194
    exact hp _ _ lit_0 (by omega) (by omega)
  · replace c194 := c_nlt tx0 tx1 c194
    refine ⟨fun c195 => ?_, fun c195 => ?_⟩
    · replace c195 := c_lt tx2 tx0 c195
      exact hp _ _ lit_0 (by omega) (by omega)
    · replace c195 := c_nlt tx2 tx0 c195
      exact hp _ _ lit_1 (by omega) (by omega)
set_option maxHeartbeats 4000000 in
set_option maxRecDepth 100000 in
theorem sX11_isSeal {T W H P S M : Int} {post : Int32 → Wd → Prop} {x1 : Int32} {zx1 : Int} {w : Wd}  (tx1 : Ti x1 zx1) (hI : IM T W H P S M w)  (hp : ∀ (r : Int32) (zr : Int), Ti r zr → ((zr = 0 ∨ (0 ≤ zx1 ∧ zx1 < S))) → post r w) : pX11_isSeal   post  x1 w := by
  unfold pX11_isSeal
  have hk := im_k hI
  obtain ⟨z196, t197⟩ := t_any (w.2.1 341 (216 : Int32).toNatClampNeg)
  have f198 := img_216 hI t197
  obtain ⟨z199, t200, f201⟩ := t_sub t197 lit_1
  first | replace f201 := f201 (by omega) | clear f201
  refine sX11_isIn   (hI := hI) (tx0 := tx1) (tx1 := lit_0) (tx2 := t200)  (hp := fun r_1v15 zr_1v15 tr_1v15 p202 p203 => ?_)
  refine ⟨nar_ok tr_1v15 (by omega), ?_⟩
  exact hp _ _ tr_1v15 (by omega)
set_option maxHeartbeats 4000000 in
set_option maxRecDepth 100000 in
theorem sX11_seal {T W H P S M : Int} {post : Int32 → Wd → Prop} {x1 : Int32} {zx1 : Int} {x2 : Int32} {zx2 : Int} {w : Wd}  (tx1 : Ti x1 zx1) (tx2 : Ti x2 zx2) (hI : IM T W H P S M w)  (hp : ∀ (r : Int32) (zr : Int), Ti r zr → post r w) : pX11_seal   post  x1 x2 w := by
  unfold pX11_seal
  have hk := im_k hI
  refine sX11_isSeal   (hI := hI) (tx1 := tx1)  (hp := fun r_1v17 zr_1v17 tr_1v17 p204 => ?_)
  refine ⟨fun c205 => ?_, fun c205 => ?_⟩
  · replace c205 := c_eq tr_1v17 lit_0 c205
    exact hp _ _ lit_m1 
  · replace c205 := c_neq tr_1v17 lit_0 c205
    refine sX11_isIn   (hI := hI) (tx0 := tx2) (tx1 := lit_0) (tx2 := lit_4)  (hp := fun r_4v23 zr_4v23 tr_4v23 p206 p207 => ?_)
    refine ⟨fun c208 => ?_, fun c208 => ?_⟩
    · replace c208 := c_neq tr_4v23 lit_0 c208
      refine ⟨fun c209 => ?_, fun c209 => ?_⟩
      · replace c209 := c_neq tx2 lit_4 c209
        obtain ⟨z210, t211, f212⟩ := t_mul lit_4 tx1
        first | replace f212 := f212 (by omega) | clear f212
        obtain ⟨z213, t214, f215⟩ := t_add t211 tx2
        first | replace f215 := f215 (by omega) | clear f215
        refine ⟨vp_of t214 (by omega) (by omega), ?_⟩
        obtain ⟨z216, t217⟩ := t_any (w.2.1 341 (((4 : Int32) * x1) + x2).toNatClampNeg)
        exact hp _ _ t217 
      · replace c209 := c_eq tx2 lit_4 c209
        refine sX11_deep   (hI := hI) (tx1 := tx1) (h0 := (by omega)) (hp := fun r_8v27 zr_8v27 tr_8v27 => ?_)
        exact hp _ _ tr_8v27 
    · replace c208 := c_eq tr_4v23 lit_0 c208
      exact hp _ _ lit_m1 
set_option maxHeartbeats 4000000 in
set_option maxRecDepth 100000 in
theorem sX11_shown {T W H P S M : Int} {post : Int32 → Wd → Prop} {x1 : Int32} {zx1 : Int} {x2 : Int32} {zx2 : Int} {w : Wd}  (tx1 : Ti x1 zx1) (tx2 : Ti x2 zx2) (hI : IM T W H P S M w)  (hp : ∀ (r : Int32) (zr : Int), Ti r zr → post r w) : pX11_shown   post  x1 x2 w := by
  unfold pX11_shown
  have hk := im_k hI
  obtain ⟨z219, t220⟩ := t_any (w.2.1 341 (217 : Int32).toNatClampNeg)
  have f221 := img_217 hI t220
  obtain ⟨z222, t223, f224⟩ := t_sub t220 lit_1
  first | replace f224 := f224 (by omega) | clear f224
  refine sX11_isIn   (hI := hI) (tx0 := tx1) (tx1 := lit_0) (tx2 := t223)  (hp := fun r_1v29 zr_1v29 tr_1v29 p225 p226 => ?_)
  refine ⟨fun c227 => ?_, fun c227 => ?_⟩
  · replace c227 := c_eq tr_1v29 lit_0 c227
    exact hp _ _ lit_m1 
  · replace c227 := c_neq tr_1v29 lit_0 c227
    refine sX11_isIn   (hI := hI) (tx0 := tx2) (tx1 := lit_0) (tx2 := lit_2)  (hp := fun r_4v33 zr_4v33 tr_4v33 p228 p229 => ?_)
    refine ⟨fun c230 => ?_, fun c230 => ?_⟩
    · replace c230 := c_eq tr_4v33 lit_0 c230
      exact hp _ _ lit_m1 
    · replace c230 := c_neq tr_4v33 lit_0 c230
      obtain ⟨z231, t232, f233⟩ := t_mul lit_3 tx1
      first | replace f233 := f233 (by omega) | clear f233
      obtain ⟨z234, t235, f236⟩ := t_add lit_96 t232
      first | replace f236 := f236 (by omega) | clear f236
      obtain ⟨z237, t238, f239⟩ := t_add t235 tx2
      first | replace f239 := f239 (by omega) | clear f239
      refine ⟨vp_of t238 (by omega) (by omega), ?_⟩
      obtain ⟨z240, t241⟩ := t_any (w.2.1 341 (((96 : Int32) + ((3 : Int32) * x1)) + x2).toNatClampNeg)
      exact hp _ _ t241 
set_option maxHeartbeats 4000000 in
set_option maxRecDepth 100000 in
theorem sX11_width {T W H P S M : Int} {post : Int32 → Wd → Prop}  {w : Wd}   (hI : IM T W H P S M w)  (hp : ∀ (r : Int32) (zr : Int), Ti r zr → (zr = W) → post r w) : pX11_width   post   w := by
  unfold pX11_width
  have hk := im_k hI
  obtain ⟨z243, t244⟩ := t_any (w.1 300 29)
  have f245 := img_29 hI t244
  refine ⟨vp_of t244 (by omega) (by omega), ?_⟩
  obtain ⟨z246, t247⟩ := t_any (w.2.1 312 (w.1 300 29).toNatClampNeg)
  have f248 := img_312 hI t247
  exact hp _ _ t247 (by omega)
set_option maxHeartbeats 4000000 in
set_option maxRecDepth 100000 in
theorem sX11_isRow {T W H P S M : Int} {post : Int32 → Wd → Prop} {x1 : Int32} {zx1 : Int} {w : Wd}  (tx1 : Ti x1 zx1) (hI : IM T W H P S M w)  (hp : ∀ (r : Int32) (zr : Int), Ti r zr → ((zr = 0 ∨ (0 ≤ zx1 ∧ zx1 < P))) → post r w) : pX11_isRow   post  x1 w := by
  unfold pX11_isRow
  have hk := im_k hI
  refine ⟨fun c249 => ?_, fun c249 => ?_⟩
  · replace c249 := c_lt tx1 lit_0 c249
    exact hp _ _ lit_0 (by omega)
  · replace c249 := c_nlt tx1 lit_0 c249
    refine sX11_width   (hI := hI)   (hp := fun r_2v35 zr_2v35 tr_2v35 p250 => ?_)
    obtain ⟨z251, t252, f253⟩ := t_shlW hI tr_2v35
    first | replace f253 := f253 (by omega) | clear f253
    refine ⟨fun c254 => ?_, fun c254 => ?_⟩
    · replace c254 := c_le t252 tx1 c254
      exact hp _ _ lit_0 (by omega)
    · replace c254 := c_nle t252 tx1 c254
      exact hp _ _ lit_1 (by omega)
set_option maxHeartbeats 4000000 in
set_option maxRecDepth 100000 in
theorem sX11_prints_30 {T W H P S M : Int} {post : Int32 → Wd → Prop} {w : Wd}  (hp : ∀ (r : Int32) (zr : Int), Ti r zr → post r w) : ∀ (n : Nat) (x1 : Int32) (x2 : Int32) (x3 : Int32) (x4 : Int32) (x5 : Int32) (x6 : Int32) (zx1 : Int) (zx2 : Int) (zx3 : Int) (zx4 : Int) (zx5 : Int) (zx6 : Int), Ti x1 zx1 → Ti x2 zx2 → Ti x3 zx3 → Ti x4 zx4 → Ti x5 zx5 → Ti x6 zx6 → IM T W H P S M w → (0 ≤ zx6 ∧ zx6 ≤ 40) → (41 - zx6) < (n : Int) → pX11_prints_30   post  n x1 x2 x3 x4 x5 x6 w := by
  intro n
  induction n with
  | zero =>
    intro x1 x2 x3 x4 x5 x6 zx1 zx2 zx3 zx4 zx5 zx6  tx1 tx2 tx3 tx4 tx5 tx6 hI h0 hm
    exact absurd hm (by omega)
  | succ n ih =>
    intro x1 x2 x3 x4 x5 x6 zx1 zx2 zx3 zx4 zx5 zx6  tx1 tx2 tx3 tx4 tx5 tx6 hI h0 hm
    unfold pX11_prints_30
    have hk := im_k hI
    obtain ⟨z255, t256⟩ := t_any (w.2.1 341 (217 : Int32).toNatClampNeg)
    have f257 := img_217 hI t256
    refine ⟨fun c258 => ?_, fun c258 => ?_⟩
    · replace c258 := c_le t256 tx6 c258
      refine ⟨fun c259 => ?_, fun c259 => ?_⟩
      · replace c259 := c_neq tx2 lit_0 c259
        refine ⟨fun c260 => ?_, fun c260 => ?_⟩
        · replace c260 := c_neq tx2 lit_1 c260
          exact hp _ _ tx5 
        · replace c260 := c_eq tx2 lit_1 c260
          exact hp _ _ tx4 
      · replace c259 := c_eq tx2 lit_0 c259
        exact hp _ _ tx3 
    · replace c258 := c_nle t256 tx6 c258
      obtain ⟨z261, t262, f263⟩ := t_mul lit_3 tx6
      first | replace f263 := f263 (by omega) | clear f263
      obtain ⟨z264, t265, f266⟩ := t_add lit_96 t262
      first | replace f266 := f266 (by omega) | clear f266
      refine ⟨vp_of t265 (by omega) (by omega), ?_⟩
      obtain ⟨z267, t268⟩ := t_any (w.2.1 341 ((96 : Int32) + ((3 : Int32) * x6)).toNatClampNeg)
      refine ⟨fun c270 => ?_, fun c270 => ?_⟩
      · replace c270 := c_eq t268 tx1 c270
        obtain ⟨z271, t272, f273⟩ := t_add tx3 lit_1
        first | replace f273 := f273 (by omega) | clear f273
        intro x3_5v37 ex3_5v37
        have tx3_5v37 : Ti x3_5v37 z271 := by rw [ex3_5v37]; exact t272
        obtain ⟨z274, t275, f276⟩ := t_add t265 lit_2
        first | replace f276 := f276 (by omega) | clear f276
        refine ⟨vp_of t275 (by omega) (by omega), ?_⟩
        obtain ⟨z277, t278⟩ := t_any (w.2.1 341 (((96 : Int32) + ((3 : Int32) * x6)) + (2 : Int32)).toNatClampNeg)
        intro x5_6v38 ex5_6v38
        have tx5_6v38 : Ti x5_6v38 z277 := by rw [ex5_6v38]; exact t278
        refine ⟨fun c280 => ?_, fun c280 => ?_⟩
        · replace c280 := c_le lit_0 tx4 c280
          unfold pX11_prints_90
          obtain ⟨z281, t282, f283⟩ := t_add tx6 lit_1
          first | replace f283 := f283 (by omega) | clear f283
          intro x6_1v39 ex6_1v39
          have tx6_1v39 : Ti x6_1v39 z281 := by rw [ex6_1v39]; exact t282
          exact ih _ _ _ _ _ _ _ _ _ _ _ _  tx1 tx2 tx3_5v37 tx4 tx5_6v38 tx6_1v39 hI (by omega) (by omega)
        · replace c280 := c_nle lit_0 tx4 c280
          unfold pX11_prints_90
          obtain ⟨z284, t285, f286⟩ := t_add tx6 lit_1
          first | replace f286 := f286 (by omega) | clear f286
          intro x6_1v40 ex6_1v40
          have tx6_1v40 : Ti x6_1v40 z284 := by rw [ex6_1v40]; exact t285
          exact ih _ _ _ _ _ _ _ _ _ _ _ _  tx1 tx2 tx3_5v37 tx5_6v38 tx5_6v38 tx6_1v40 hI (by omega) (by omega)
      · replace c270 := c_neq t268 tx1 c270
        unfold pX11_prints_90
        obtain ⟨z287, t288, f289⟩ := t_add tx6 lit_1
        first | replace f289 := f289 (by omega) | clear f289
        intro x6_1v41 ex6_1v41
        have tx6_1v41 : Ti x6_1v41 z287 := by rw [ex6_1v41]; exact t288
        exact ih _ _ _ _ _ _ _ _ _ _ _ _  tx1 tx2 tx3 tx4 tx5 tx6_1v41 hI (by omega) (by omega)
set_option maxHeartbeats 4000000 in
set_option maxRecDepth 100000 in
theorem sX11_prints {T W H P S M : Int} {post : Int32 → Wd → Prop} {x1 : Int32} {zx1 : Int} {x2 : Int32} {zx2 : Int} {w : Wd}  (tx1 : Ti x1 zx1) (tx2 : Ti x2 zx2) (hI : IM T W H P S M w)  (hp : ∀ (r : Int32) (zr : Int), Ti r zr → post r w) : pX11_prints   post  x1 x2 w := by
  unfold pX11_prints
  have hk := im_k hI
  refine sX11_isRow   (hI := hI) (tx1 := tx1)  (hp := fun r_1v42 zr_1v42 tr_1v42 p290 => ?_)
  refine ⟨fun c291 => ?_, fun c291 => ?_⟩
  · replace c291 := c_eq tr_1v42 lit_0 c291
    exact hp _ _ lit_m1 
  · replace c291 := c_neq tr_1v42 lit_0 c291
    refine sX11_isIn   (hI := hI) (tx0 := tx2) (tx1 := lit_0) (tx2 := lit_2)  (hp := fun r_4v46 zr_4v46 tr_4v46 p292 p293 => ?_)
    refine ⟨fun c294 => ?_, fun c294 => ?_⟩
    · replace c294 := c_neq tr_4v46 lit_0 c294
      exact ⟨70000, sX11_prints_30    (hp := hp) 70000 _ _ _ _ _ _ _ _ _ _ _ _  tx1 tx2 lit_0 lit_m1 lit_m1 lit_0 hI (by omega) (by omega)⟩
    · replace c294 := c_eq tr_4v46 lit_0 c294
      exact hp _ _ lit_m1 
set_option maxHeartbeats 4000000 in
set_option maxRecDepth 100000 in
theorem sX11_turnedRow_4 {T W H P S M : Int} {post : Int32 → Wd → Prop} {w : Wd}  (hp : ∀ (r : Int32) (zr : Int), Ti r zr → post r w) : ∀ (n : Nat) (x1 : Int32) (x2 : Int32) (x3 : Int32) (zx1 : Int) (zx2 : Int) (zx3 : Int), Ti x1 zx1 → Ti x2 zx2 → Ti x3 zx3 → IM T W H P S M w → (0 ≤ zx3 ∧ zx3 ≤ 12) → (13 - zx3) < (n : Int) → pX11_turnedRow_4   post  n x1 x2 x3 w := by
  intro n
  induction n with
  | zero =>
    intro x1 x2 x3 zx1 zx2 zx3  tx1 tx2 tx3 hI h0 hm
    exact absurd hm (by omega)
  | succ n ih =>
    intro x1 x2 x3 zx1 zx2 zx3  tx1 tx2 tx3 hI h0 hm
    unfold pX11_turnedRow_4
    have hk := im_k hI
    refine sX11_width   (hI := hI)   (hp := fun r_1v48 zr_1v48 tr_1v48 p295 => ?_)
    refine ⟨fun c296 => ?_, fun c296 => ?_⟩
    · replace c296 := c_le tr_1v48 tx3 c296
      exact hp _ _ tx2 
    · replace c296 := c_nle tr_1v48 tx3 c296
      obtain ⟨z297, t298, f299⟩ := t_and (x := (x1 >>> (x3 &&& 31))) lit_1 (by decide)
      refine ⟨fun c300 => ?_, fun c300 => ?_⟩
      · replace c300 := c_neq t298 lit_1 c300
        unfold pX11_turnedRow_34
        obtain ⟨z301, t302, f303⟩ := t_add tx3 lit_1
        first | replace f303 := f303 (by omega) | clear f303
        intro x3_1v56 ex3_1v56
        have tx3_1v56 : Ti x3_1v56 z301 := by rw [ex3_1v56]; exact t302
        exact ih _ _ _ _ _ _  tx1 tx2 tx3_1v56 hI (by omega) (by omega)
      · replace c300 := c_eq t298 lit_1 c300
        refine sX11_width   (hI := hI)   (hp := fun r_5v53 zr_5v53 tr_5v53 p304 => ?_)
        obtain ⟨z305, t306, f307⟩ := t_sub tr_5v53 lit_1
        first | replace f307 := f307 (by omega) | clear f307
        obtain ⟨z308, t309, f310⟩ := t_sub t306 tx3
        first | replace f310 := f310 (by omega) | clear f310
        obtain ⟨z311, t312, f313⟩ := t_shlW hI t309
        first | replace f313 := f313 (by omega) | clear f313
        obtain ⟨z314, t315, f316⟩ := t_orW hI tx2 t312
        first | replace f316 := f316 (by omega) | clear f316
        intro x2_7v57 ex2_7v57
        have tx2_7v57 : Ti x2_7v57 z314 := by rw [ex2_7v57]; exact t315
        unfold pX11_turnedRow_34
        obtain ⟨z317, t318, f319⟩ := t_add tx3 lit_1
        first | replace f319 := f319 (by omega) | clear f319
        intro x3_1v58 ex3_1v58
        have tx3_1v58 : Ti x3_1v58 z317 := by rw [ex3_1v58]; exact t318
        exact ih _ _ _ _ _ _  tx1 tx2_7v57 tx3_1v58 hI (by omega) (by omega)
set_option maxHeartbeats 4000000 in
set_option maxRecDepth 100000 in
theorem sX11_turnedRow {T W H P S M : Int} {post : Int32 → Wd → Prop} {x1 : Int32} {zx1 : Int} {w : Wd}  (tx1 : Ti x1 zx1) (hI : IM T W H P S M w)  (hp : ∀ (r : Int32) (zr : Int), Ti r zr → post r w) : pX11_turnedRow   post  x1 w := by
  unfold pX11_turnedRow
  have hk := im_k hI
  exact ⟨70000, sX11_turnedRow_4    (hp := hp) 70000 _ _ _ _ _ _  tx1 lit_0 lit_0 hI (by omega) (by omega)⟩
set_option maxHeartbeats 4000000 in
set_option maxRecDepth 100000 in
theorem sX11_turned {T W H P S M : Int} {post : Int32 → Wd → Prop} {x1 : Int32} {zx1 : Int} {w : Wd}  (tx1 : Ti x1 zx1) (hI : IM T W H P S M w)  (hp : ∀ (r : Int32) (zr : Int), Ti r zr → post r w) : pX11_turned   post  x1 w := by
  unfold pX11_turned
  have hk := im_k hI
  refine sX11_isRow   (hI := hI) (tx1 := tx1)  (hp := fun r_1v59 zr_1v59 tr_1v59 p320 => ?_)
  refine ⟨fun c321 => ?_, fun c321 => ?_⟩
  · replace c321 := c_eq tr_1v59 lit_0 c321
    exact hp _ _ lit_m1 
  · replace c321 := c_neq tr_1v59 lit_0 c321
    refine sX11_turnedRow   (hI := hI) (tx1 := tx1)  (hp := fun r_4v63 zr_4v63 tr_4v63 => ?_)
    exact hp _ _ tr_4v63 
set_option maxHeartbeats 4000000 in
set_option maxRecDepth 100000 in
theorem sX11_asked {T W H P S M : Int} {post : Int32 → Wd → Prop} {x1 : Int32} {zx1 : Int} {x2 : Int32} {zx2 : Int} {w : Wd}  (tx1 : Ti x1 zx1) (tx2 : Ti x2 zx2) (hI : IM T W H P S M w)  (hp : ∀ (r : Int32) (zr : Int), Ti r zr → post r w) : pX11_asked   post  x1 x2 w := by
  unfold pX11_asked
  have hk := im_k hI
  refine ⟨fun c322 => ?_, fun c322 => ?_, fun c322 => ?_, fun c322 => ?_, fun c322 => ?_, fun c322 => ?_, fun c322 => ?_, fun c322 => ?_, fun c322 => ?_, fun c322 => ?_, fun c322 => ?_, fun c322 => ?_, fun c322 => ?_, fun c322 => ?_, fun c322 => ?_, fun c322 => ?_, fun c322 => ?_, fun c322 => ?_, fun c322 => ?_, fun c322 => ?_, fun c322 => ?_, fun c322 => ?_, fun c322 => ?_⟩
  · rw [show x1.toInt = zx1 from tx1] at c322
    exact hp _ _ tx2 
  · rw [show x1.toInt = zx1 from tx1] at c322
    obtain ⟨z323, t324⟩ := t_any (w.1 300 39)
    exact hp _ _ t324 
  · rw [show x1.toInt = zx1 from tx1] at c322
    exact hp _ _ tx2 
  · rw [show x1.toInt = zx1 from tx1] at c322
    exact hp _ _ tx2 
  · rw [show x1.toInt = zx1 from tx1] at c322
    exact hp _ _ tx2 
  · rw [show x1.toInt = zx1 from tx1] at c322
    obtain ⟨z325, t326, f327⟩ := t_and (x := ((w.1 300 35) >>> ((w.1 300 36) &&& 31))) lit_1 (by decide)
    exact hp _ _ t326 
  · rw [show x1.toInt = zx1 from tx1] at c322
    exact hp _ _ tx2 
  · rw [show x1.toInt = zx1 from tx1] at c322
    obtain ⟨z328, t329⟩ := t_any (w.2.1 341 (219 : Int32).toNatClampNeg)
    exact hp _ _ t329 
  · rw [show x1.toInt = zx1 from tx1] at c322
    exact hp _ _ tx2 
  · rw [show x1.toInt = zx1 from tx1] at c322
    obtain ⟨z331, t332⟩ := t_any (w.1 300 36)
    refine ⟨fun c333 => ?_, fun c333 => ?_⟩
    · replace c333 := c_le t332 lit_0 c333
      exact hp _ _ lit_0 
    · replace c333 := c_nle t332 lit_0 c333
      obtain ⟨z334, t335, f336⟩ := t_and (x := ((w.1 300 35) >>> (((w.1 300 36) - (1 : Int32)) &&& 31))) lit_1 (by decide)
      exact hp _ _ t335 
  · rw [show x1.toInt = zx1 from tx1] at c322
    obtain ⟨z337, t338⟩ := t_any (w.1 300 36)
    exact hp _ _ t338 
  · rw [show x1.toInt = zx1 from tx1] at c322
    exact hp _ _ tx2 
  · rw [show x1.toInt = zx1 from tx1] at c322
    exact hp _ _ tx2 
  · rw [show x1.toInt = zx1 from tx1] at c322
    exact hp _ _ tx2 
  · rw [show x1.toInt = zx1 from tx1] at c322
    exact hp _ _ tx2 
  · rw [show x1.toInt = zx1 from tx1] at c322
    obtain ⟨z339, t340, f341⟩ := t_and (x := ((w.1 300 35) >>> (((w.1 300 36) + (1 : Int32)) &&& 31))) lit_1 (by decide)
    exact hp _ _ t340 
  · rw [show x1.toInt = zx1 from tx1] at c322
    exact hp _ _ tx2 
  · rw [show x1.toInt = zx1 from tx1] at c322
    obtain ⟨z342, t343⟩ := t_any (w.1 300 38)
    exact hp _ _ t343 
  · rw [show x1.toInt = zx1 from tx1] at c322
    exact hp _ _ tx2 
  · rw [show x1.toInt = zx1 from tx1] at c322
    exact hp _ _ tx2 
  · rw [show x1.toInt = zx1 from tx1] at c322
    exact hp _ _ tx2 
  · rw [show x1.toInt = zx1 from tx1] at c322
    exact hp _ _ tx2 
  · rw [show x1.toInt = zx1 from tx1] at c322
    obtain ⟨z344, t345⟩ := t_any (w.1 300 37)
    exact hp _ _ t345 
set_option maxHeartbeats 4000000 in
set_option maxRecDepth 100000 in
theorem sX11_two {T W H P S M : Int} {post : Int32 → Wd → Prop} {x0 : Int32} {zx0 : Int} {x1 : Int32} {zx1 : Int} {x2 : Int32} {zx2 : Int} {w : Wd}  (tx0 : Ti x0 zx0) (tx1 : Ti x1 zx1) (tx2 : Ti x2 zx2) (hI : IM T W H P S M w)  (hp : ∀ (r : Int32) (zr : Int), Ti r zr → post r w) : pX11_two   post  x0 x1 x2 w := by
  unfold pX11_two
  have hk := im_k hI
  refine ⟨fun c346 => ?_, fun c346 => ?_, fun c346 => ?_, fun c346 => ?_, fun c346 => ?_, fun c346 => ?_, fun c346 => ?_, fun c346 => ?_, fun c346 => ?_, fun c346 => ?_, fun c346 => ?_, fun c346 => ?_, fun c346 => ?_, fun c346 => ?_, fun c346 => ?_, fun c346 => ?_, fun c346 => ?_, fun c346 => ?_, fun c346 => ?_, fun c346 => ?_, fun c346 => ?_, fun c346 => ?_, fun c346 => ?_, fun c346 => ?_, fun c346 => ?_, fun c346 => ?_, fun c346 => ?_⟩
  · rw [show x0.toInt = zx0 from tx0] at c346
    refine ⟨fun c347 => ?_, fun c347 => ?_⟩
    · replace c347 := c_neq tx1 lit_0 c347
      exact hp _ _ lit_1 
    · replace c347 := c_eq tx1 lit_0 c347
      refine ⟨fun c348 => ?_, fun c348 => ?_⟩
      · replace c348 := c_eq tx2 lit_0 c348
        exact hp _ _ lit_0 
      · replace c348 := c_neq tx2 lit_0 c348
        exact hp _ _ lit_1 
  · rw [show x0.toInt = zx0 from tx0] at c346
    refine ⟨fun c349 => ?_, fun c349 => ?_⟩
    · replace c349 := c_neq tx2 lit_0 c349
      refine ⟨nz_of tx2 (by omega), ?_⟩
      obtain ⟨z350, t351, f352⟩ := t_remv tx1 tx2
      first | replace f352 := f352 (by omega) | clear f352
      exact hp _ _ t351 
    · replace c349 := c_eq tx2 lit_0 c349
      exact hp _ _ lit_0 
  · rw [show x0.toInt = zx0 from tx0] at c346
    refine ⟨fun c353 => ?_, fun c353 => ?_⟩
    · replace c353 := c_eq tx1 lit_0 c353
      exact hp _ _ lit_0 
    · replace c353 := c_neq tx1 lit_0 c353
      refine ⟨fun c354 => ?_, fun c354 => ?_⟩
      · replace c354 := c_eq tx2 lit_0 c354
        exact hp _ _ lit_0 
      · replace c354 := c_neq tx2 lit_0 c354
        exact hp _ _ lit_1 
  · rw [show x0.toInt = zx0 from tx0] at c346
    refine ⟨fun c355 => ?_, fun c355 => ?_⟩
    · replace c355 := c_neq tx1 lit_0 c355
      exact hp _ _ lit_1 
    · replace c355 := c_eq tx1 lit_0 c355
      refine ⟨fun c356 => ?_, fun c356 => ?_⟩
      · replace c356 := c_eq tx2 lit_0 c356
        exact hp _ _ lit_0 
      · replace c356 := c_neq tx2 lit_0 c356
        exact hp _ _ lit_1 
  · rw [show x0.toInt = zx0 from tx0] at c346
    refine ⟨fun c357 => ?_, fun c357 => ?_⟩
    · replace c357 := c_neq tx1 lit_0 c357
      exact hp _ _ lit_1 
    · replace c357 := c_eq tx1 lit_0 c357
      refine ⟨fun c358 => ?_, fun c358 => ?_⟩
      · replace c358 := c_eq tx2 lit_0 c358
        exact hp _ _ lit_0 
      · replace c358 := c_neq tx2 lit_0 c358
        exact hp _ _ lit_1 
  · rw [show x0.toInt = zx0 from tx0] at c346
    refine ⟨fun c359 => ?_, fun c359 => ?_⟩
    · replace c359 := c_neq tx1 lit_0 c359
      exact hp _ _ lit_1 
    · replace c359 := c_eq tx1 lit_0 c359
      refine ⟨fun c360 => ?_, fun c360 => ?_⟩
      · replace c360 := c_eq tx2 lit_0 c360
        exact hp _ _ lit_0 
      · replace c360 := c_neq tx2 lit_0 c360
        exact hp _ _ lit_1 
  · rw [show x0.toInt = zx0 from tx0] at c346
    obtain ⟨z361, t362, f363⟩ := t_mulv tx1 tx2
    first | replace f363 := f363 (by omega) | clear f363
    exact hp _ _ t362 
  · rw [show x0.toInt = zx0 from tx0] at c346
    obtain ⟨z364, t365, f366⟩ := t_add tx1 tx2
    first | replace f366 := f366 (by omega) | clear f366
    exact hp _ _ t365 
  · rw [show x0.toInt = zx0 from tx0] at c346
    refine ⟨fun c367 => ?_, fun c367 => ?_⟩
    · replace c367 := c_neq tx1 lit_0 c367
      exact hp _ _ lit_1 
    · replace c367 := c_eq tx1 lit_0 c367
      refine ⟨fun c368 => ?_, fun c368 => ?_⟩
      · replace c368 := c_eq tx2 lit_0 c368
        exact hp _ _ lit_0 
      · replace c368 := c_neq tx2 lit_0 c368
        exact hp _ _ lit_1 
  · rw [show x0.toInt = zx0 from tx0] at c346
    obtain ⟨z369, t370, f371⟩ := t_sub tx1 tx2
    first | replace f371 := f371 (by omega) | clear f371
    exact hp _ _ t370 
  · rw [show x0.toInt = zx0 from tx0] at c346
    refine ⟨fun c372 => ?_, fun c372 => ?_⟩
    · replace c372 := c_neq tx1 lit_0 c372
      exact hp _ _ lit_1 
    · replace c372 := c_eq tx1 lit_0 c372
      refine ⟨fun c373 => ?_, fun c373 => ?_⟩
      · replace c373 := c_eq tx2 lit_0 c373
        exact hp _ _ lit_0 
      · replace c373 := c_neq tx2 lit_0 c373
        exact hp _ _ lit_1 
  · rw [show x0.toInt = zx0 from tx0] at c346
    refine ⟨fun c374 => ?_, fun c374 => ?_⟩
    · replace c374 := c_neq tx2 lit_0 c374
      refine ⟨nz_of tx2 (by omega), ?_⟩
      obtain ⟨z375, t376, f377⟩ := t_divv tx1 tx2
      first | replace f377 := f377 (by omega) | clear f377
      exact hp _ _ t376 
    · replace c374 := c_eq tx2 lit_0 c374
      exact hp _ _ lit_0 
  · rw [show x0.toInt = zx0 from tx0] at c346
    refine ⟨fun c378 => ?_, fun c378 => ?_⟩
    · replace c378 := c_neq tx1 lit_0 c378
      exact hp _ _ lit_1 
    · replace c378 := c_eq tx1 lit_0 c378
      refine ⟨fun c379 => ?_, fun c379 => ?_⟩
      · replace c379 := c_eq tx2 lit_0 c379
        exact hp _ _ lit_0 
      · replace c379 := c_neq tx2 lit_0 c379
        exact hp _ _ lit_1 
  · rw [show x0.toInt = zx0 from tx0] at c346
    refine ⟨fun c380 => ?_, fun c380 => ?_⟩
    · replace c380 := c_neq tx1 lit_0 c380
      exact hp _ _ lit_1 
    · replace c380 := c_eq tx1 lit_0 c380
      refine ⟨fun c381 => ?_, fun c381 => ?_⟩
      · replace c381 := c_eq tx2 lit_0 c381
        exact hp _ _ lit_0 
      · replace c381 := c_neq tx2 lit_0 c381
        exact hp _ _ lit_1 
  · rw [show x0.toInt = zx0 from tx0] at c346
    refine ⟨fun c382 => ?_, fun c382 => ?_⟩
    · replace c382 := c_neq tx1 lit_0 c382
      exact hp _ _ lit_1 
    · replace c382 := c_eq tx1 lit_0 c382
      refine ⟨fun c383 => ?_, fun c383 => ?_⟩
      · replace c383 := c_eq tx2 lit_0 c383
        exact hp _ _ lit_0 
      · replace c383 := c_neq tx2 lit_0 c383
        exact hp _ _ lit_1 
  · rw [show x0.toInt = zx0 from tx0] at c346
    refine ⟨fun c384 => ?_, fun c384 => ?_⟩
    · replace c384 := c_neq tx1 lit_0 c384
      exact hp _ _ lit_1 
    · replace c384 := c_eq tx1 lit_0 c384
      refine ⟨fun c385 => ?_, fun c385 => ?_⟩
      · replace c385 := c_eq tx2 lit_0 c385
        exact hp _ _ lit_0 
      · replace c385 := c_neq tx2 lit_0 c385
        exact hp _ _ lit_1 
  · rw [show x0.toInt = zx0 from tx0] at c346
    refine ⟨fun c386 => ?_, fun c386 => ?_⟩
    · replace c386 := c_neq tx1 lit_0 c386
      exact hp _ _ lit_1 
    · replace c386 := c_eq tx1 lit_0 c386
      refine ⟨fun c387 => ?_, fun c387 => ?_⟩
      · replace c387 := c_eq tx2 lit_0 c387
        exact hp _ _ lit_0 
      · replace c387 := c_neq tx2 lit_0 c387
        exact hp _ _ lit_1 
  · rw [show x0.toInt = zx0 from tx0] at c346
    refine ⟨fun c388 => ?_, fun c388 => ?_⟩
    · replace c388 := c_neq tx1 lit_0 c388
      exact hp _ _ lit_1 
    · replace c388 := c_eq tx1 lit_0 c388
      refine ⟨fun c389 => ?_, fun c389 => ?_⟩
      · replace c389 := c_eq tx2 lit_0 c389
        exact hp _ _ lit_0 
      · replace c389 := c_neq tx2 lit_0 c389
        exact hp _ _ lit_1 
  · rw [show x0.toInt = zx0 from tx0] at c346
    refine ⟨fun c390 => ?_, fun c390 => ?_⟩
    · replace c390 := c_neq tx1 lit_0 c390
      exact hp _ _ lit_1 
    · replace c390 := c_eq tx1 lit_0 c390
      refine ⟨fun c391 => ?_, fun c391 => ?_⟩
      · replace c391 := c_eq tx2 lit_0 c391
        exact hp _ _ lit_0 
      · replace c391 := c_neq tx2 lit_0 c391
        exact hp _ _ lit_1 
  · rw [show x0.toInt = zx0 from tx0] at c346
    refine ⟨fun c392 => ?_, fun c392 => ?_⟩
    · replace c392 := c_neq tx1 lit_0 c392
      exact hp _ _ lit_1 
    · replace c392 := c_eq tx1 lit_0 c392
      refine ⟨fun c393 => ?_, fun c393 => ?_⟩
      · replace c393 := c_eq tx2 lit_0 c393
        exact hp _ _ lit_0 
      · replace c393 := c_neq tx2 lit_0 c393
        exact hp _ _ lit_1 
  · rw [show x0.toInt = zx0 from tx0] at c346
    refine ⟨fun c394 => ?_, fun c394 => ?_⟩
    · replace c394 := c_neq tx1 lit_0 c394
      exact hp _ _ lit_1 
    · replace c394 := c_eq tx1 lit_0 c394
      refine ⟨fun c395 => ?_, fun c395 => ?_⟩
      · replace c395 := c_eq tx2 lit_0 c395
        exact hp _ _ lit_0 
      · replace c395 := c_neq tx2 lit_0 c395
        exact hp _ _ lit_1 
  · rw [show x0.toInt = zx0 from tx0] at c346
    refine ⟨fun c396 => ?_, fun c396 => ?_⟩
    · replace c396 := c_neq tx1 lit_0 c396
      exact hp _ _ lit_1 
    · replace c396 := c_eq tx1 lit_0 c396
      refine ⟨fun c397 => ?_, fun c397 => ?_⟩
      · replace c397 := c_eq tx2 lit_0 c397
        exact hp _ _ lit_0 
      · replace c397 := c_neq tx2 lit_0 c397
        exact hp _ _ lit_1 
  · rw [show x0.toInt = zx0 from tx0] at c346
    refine ⟨fun c398 => ?_, fun c398 => ?_⟩
    · replace c398 := c_neq tx1 lit_0 c398
      exact hp _ _ lit_1 
    · replace c398 := c_eq tx1 lit_0 c398
      refine ⟨fun c399 => ?_, fun c399 => ?_⟩
      · replace c399 := c_eq tx2 lit_0 c399
        exact hp _ _ lit_0 
      · replace c399 := c_neq tx2 lit_0 c399
        exact hp _ _ lit_1 
  · rw [show x0.toInt = zx0 from tx0] at c346
    refine ⟨fun c400 => ?_, fun c400 => ?_⟩
    · replace c400 := c_neq tx1 lit_0 c400
      exact hp _ _ lit_1 
    · replace c400 := c_eq tx1 lit_0 c400
      refine ⟨fun c401 => ?_, fun c401 => ?_⟩
      · replace c401 := c_eq tx2 lit_0 c401
        exact hp _ _ lit_0 
      · replace c401 := c_neq tx2 lit_0 c401
        exact hp _ _ lit_1 
  · rw [show x0.toInt = zx0 from tx0] at c346
    refine ⟨fun c402 => ?_, fun c402 => ?_⟩
    · replace c402 := c_le tx2 tx1 c402
      exact hp _ _ lit_0 
    · replace c402 := c_nle tx2 tx1 c402
      exact hp _ _ lit_1 
  · rw [show x0.toInt = zx0 from tx0] at c346
    refine ⟨fun c403 => ?_, fun c403 => ?_⟩
    · replace c403 := c_neq tx1 tx2 c403
      exact hp _ _ lit_0 
    · replace c403 := c_eq tx1 tx2 c403
      exact hp _ _ lit_1 
  · rw [show x0.toInt = zx0 from tx0] at c346
    refine ⟨fun c404 => ?_, fun c404 => ?_⟩
    · replace c404 := c_le tx1 tx2 c404
      exact hp _ _ lit_0 
    · replace c404 := c_nle tx1 tx2 c404
      exact hp _ _ lit_1 
set_option maxHeartbeats 4000000 in
set_option maxRecDepth 100000 in
theorem jX11_comes_17 {T W H P S M : Int} {J : Wd → Prop} {post : Int32 → Wd → Prop} {cd : Nat → Int32} {bk q t f : Int} {g : Nat → Int}  (hg : ∀ k : Nat, f ≤ (k : Int) → (k : Int) < t → SS (cd k) (g k) (g (k + 1))) (hf : 0 ≤ f ∧ t ≤ 1120 ∧ 0 ≤ q ∧ q < 8) (hp : ∀ (r : Int32) (zr : Int) (w9 : Wd), Ti r zr → IJ T W H P S M (fun w => J w ∧ CQ cd bk q t w) w9 → post r w9) : ∀ (n : Nat) (x1 : Int32) (x2 : Int32) (x3 : Int32) (zx1 : Int) (zx2 : Int) (zx3 : Int) (w : Wd), Ti x1 zx1 → Ti x2 zx2 → Ti x3 zx3 → IJ T W H P S M (fun w => J w ∧ CQ cd bk q t w) w → (zx1 = q) → (f ≤ zx3 ∧ zx3 ≤ t) → (zx2 = g zx3.toNat) → (t - zx3) < (n : Int) → pX11_comes_17   post  n x1 x2 x3 w := by
  intro n
  induction n with
  | zero =>
    intro x1 x2 x3 zx1 zx2 zx3 w tx1 tx2 tx3 hI h0 h1 h2 hm
    exact absurd hm (by omega)
  | succ n ih =>
    intro x1 x2 x3 zx1 zx2 zx3 w tx1 tx2 tx3 hI h0 h1 h2 hm
    unfold pX11_comes_17
    have hk := im_k hI.1
    obtain ⟨z405, t406⟩ := t_any (w.1 300 29)
    have f407 := cq_bk hI t406
    have f408 := img_29 hI.1 t406
    obtain ⟨z409, t410, f411⟩ := t_mul lit_8 t406
    first | replace f411 := f411 (by omega) | clear f411
    obtain ⟨z412, t413, f414⟩ := t_add t410 tx1
    first | replace f414 := f414 (by omega) | clear f414
    refine ⟨vp_of t413 (by omega) (by omega), ?_⟩
    obtain ⟨z415, t416⟩ := t_any (w.2.1 320 (((8 : Int32) * (w.1 300 29)) + x1).toNatClampNeg)
    have f417 := cq_to hI t413 t416 (by omega) (by omega)
    refine ⟨fun c418 => ?_, fun c418 => ?_⟩
    · replace c418 := c_le t416 tx3 c418
      obtain ⟨z419, t420⟩ := t_any (w.2.1 329 (0 : Int32).toNatClampNeg)
      exact hp _ _ _  t420 hI 
    · replace c418 := c_nle t416 tx3 c418
      refine ⟨vp_of tx3 (by omega) (by omega), ?_⟩
      obtain ⟨z421, t422⟩ := t_any (w.2.1 325 x3.toNatClampNeg)
      have f423 := cq_ss hg hI tx3 t422 hf.1 (by omega) (by omega)
      intro x4_2v65 ex4_2v65
      have tx4_2v65 : Ti x4_2v65 z421 := by rw [ex4_2v65]; exact t422
      refine ⟨fun c424 => ?_, fun c424 => ?_⟩
      · replace c424 := c_neq tx4_2v65 lit_126 c424
        refine sX11_isLetter   (hI := hI.1) (tx0 := tx4_2v65)  (hp := fun r_4v66 zr_4v66 tr_4v66 p425 => ?_)
        refine ⟨fun c426 => ?_, fun c426 => ?_⟩
        · replace c426 := c_eq tr_4v66 lit_0 c426
          obtain ⟨z427, t428, f429⟩ := t_add tx2 lit_m1
          first | replace f429 := f429 (by omega) | clear f429
          intro x2_7v76 ex2_7v76
          have tx2_7v76 : Ti x2_7v76 z427 := by rw [ex2_7v76]; exact t428
          obtain ⟨z430, t431, f432⟩ := t_sub tx2_7v76 lit_1
          first | replace f432 := f432 (by omega) | clear f432
          refine ⟨vp_of t431 (by omega) (by omega), ?_⟩
          refine ⟨vp_of tx2_7v76 (by omega) (by omega), ?_⟩
          obtain ⟨z433, t434⟩ := t_any (w.2.1 329 (x2_7v76 - (1 : Int32)).toNatClampNeg)
          obtain ⟨z435, t436⟩ := t_any (w.2.1 329 x2_7v76.toNatClampNeg)
          refine sX11_two   (hI := hI.1) (tx0 := tx4_2v65) (tx1 := t434) (tx2 := t436)  (hp := fun r_8v77 zr_8v77 tr_8v77 => ?_)
          refine ⟨vp_of t431 (by omega) (by omega), ?_⟩
          intro w_10v84 ew_10v84
          have hIw_10v84 := ijs_A hI ew_10v84
          unfold pX11_comes_139
          obtain ⟨z437, t438, f439⟩ := t_add tx3 lit_1
          first | replace f439 := f439 (by omega) | clear f439
          intro x3_1v85 ex3_1v85
          have tx3_1v85 : Ti x3_1v85 z437 := by rw [ex3_1v85]; exact t438
          exact ih _ _ _ _ _ _ _ tx1 tx2_7v76 tx3_1v85 hIw_10v84 (by omega) (by omega) (by rw [show z437.toNat = zx3.toNat + 1 by omega]; omega) (by omega)
        · replace c426 := c_neq tr_4v66 lit_0 c426
          refine ⟨vp_of tx3 (by omega) (by omega), ?_⟩
          obtain ⟨z440, t441⟩ := t_any (w.2.1 326 x3.toNatClampNeg)
          refine sX11_asked   (hI := hI.1) (tx1 := tx4_2v65) (tx2 := t441)  (hp := fun r_11v80 zr_11v80 tr_11v80 => ?_)
          refine ⟨vp_of tx2 (by omega) (by omega), ?_⟩
          intro w_13v86 ew_13v86
          have hIw_13v86 := ijs_A hI ew_13v86
          obtain ⟨z442, t443, f444⟩ := t_add tx2 lit_1
          first | replace f444 := f444 (by omega) | clear f444
          intro x2_14v87 ex2_14v87
          have tx2_14v87 : Ti x2_14v87 z442 := by rw [ex2_14v87]; exact t443
          unfold pX11_comes_139
          obtain ⟨z445, t446, f447⟩ := t_add tx3 lit_1
          first | replace f447 := f447 (by omega) | clear f447
          intro x3_1v88 ex3_1v88
          have tx3_1v88 : Ti x3_1v88 z445 := by rw [ex3_1v88]; exact t446
          exact ih _ _ _ _ _ _ _ tx1 tx2_14v87 tx3_1v88 hIw_13v86 (by omega) (by omega) (by rw [show z445.toNat = zx3.toNat + 1 by omega]; omega) (by omega)
      · replace c424 := c_eq tx4_2v65 lit_126 c424
        obtain ⟨z448, t449, f450⟩ := t_sub tx2 lit_1
        first | replace f450 := f450 (by omega) | clear f450
        refine ⟨vp_of t449 (by omega) (by omega), ?_⟩
        obtain ⟨z451, t452⟩ := t_any (w.2.1 329 (x2 - (1 : Int32)).toNatClampNeg)
        refine ⟨fun c453 => ?_, fun c453 => ?_⟩
        · replace c453 := c_neq t452 lit_0 c453
          unfold pX11_comes_73
          refine ⟨vp_of t449 (by omega) (by omega), ?_⟩
          intro w_1v89 ew_1v89
          have hIw_1v89 := ijs_A hI ew_1v89
          unfold pX11_comes_139
          obtain ⟨z454, t455, f456⟩ := t_add tx3 lit_1
          first | replace f456 := f456 (by omega) | clear f456
          intro x3_1v90 ex3_1v90
          have tx3_1v90 : Ti x3_1v90 z454 := by rw [ex3_1v90]; exact t455
          exact ih _ _ _ _ _ _ _ tx1 tx2 tx3_1v90 hIw_1v89 (by omega) (by omega) (by rw [show z454.toNat = zx3.toNat + 1 by omega]; omega) (by omega)
        · replace c453 := c_eq t452 lit_0 c453
          unfold pX11_comes_73
          refine ⟨vp_of t449 (by omega) (by omega), ?_⟩
          intro w_1v91 ew_1v91
          have hIw_1v91 := ijs_A hI ew_1v91
          unfold pX11_comes_139
          obtain ⟨z457, t458, f459⟩ := t_add tx3 lit_1
          first | replace f459 := f459 (by omega) | clear f459
          intro x3_1v92 ex3_1v92
          have tx3_1v92 : Ti x3_1v92 z457 := by rw [ex3_1v92]; exact t458
          exact ih _ _ _ _ _ _ _ tx1 tx2 tx3_1v92 hIw_1v91 (by omega) (by omega) (by rw [show z457.toNat = zx3.toNat + 1 by omega]; omega) (by omega)
theorem jX11_comes {T W H P S M : Int} {J : Wd → Prop} {post : Int32 → Wd → Prop} {x1 : Int32} {zx1 : Int} {w : Wd} (tx1 : Ti x1 zx1) (hI : IJ T W H P S M J w) (h0 : 0 ≤ zx1 ∧ zx1 < 2 * H) (hp : ∀ (r : Int32) (zr : Int) (w9 : Wd), Ti r zr → IJ T W H P S M J w9 → post r w9) : pX11_comes post x1 w := by
  unfold pX11_comes
  have hk := im_k hI.1
  obtain ⟨zb, tb⟩ := t_any (w.1 300 29)
  have fb := img_29 hI.1 tb
  obtain ⟨z8, t8, f8⟩ := t_mul lit_8 tb
  replace f8 := f8 (by omega)
  obtain ⟨zi, ti, fi⟩ := t_add t8 tx1
  replace fi := fi (by omega)
  refine ⟨vp_of ti (by omega) (by omega), ?_⟩
  have eb : (w.1 300 29).toInt = zb := tb
  have ei := i_cz ti
  have hr := hI.1.2.2.2.2.2.2.2.2.2.2.1 zx1.toNat (by omega)
  rw [eb, show 8 * zb + (zx1.toNat : Int) = 8 * zb + zx1 by omega] at hr
  obtain ⟨⟨p1, p2, p3, g, g0, hg⟩, -, -⟩ := hr
  have ei2 : (((8 : Int32) * (w.1 300 29)) + x1).toNatClampNeg = (8 * zb + zx1).toNat := by rw [ei, fi, f8]
  intro x3_1 ex3
  rw [ei2] at ex3
  refine ⟨70000, jX11_comes_17 (J := J) (cd := w.2.1 325) (bk := zb) (q := zx1) (t := (w.2.1 320 (8 * zb + zx1).toNat).toInt) (f := (w.2.1 319 (8 * zb + zx1).toNat).toInt) (g := g) hg ⟨p1, p3, by omega, by omega⟩ (fun r zr w9 tr i9 => hp r zr w9 tr ⟨i9.1, i9.2.1.1, hI.2.2⟩) 70000 x1 0 x3_1 zx1 0 (w.2.1 319 (8 * zb + zx1).toNat).toInt w tx1 lit_0 (by rw [ex3]; rfl) ⟨hI.1, ⟨hI.2.1, rfl, eb, rfl⟩, stJ_CQ hI.2.2⟩ rfl ⟨Int.le_refl _, p2⟩ g0.symm (by omega)⟩
set_option maxHeartbeats 4000000 in
set_option maxRecDepth 100000 in
theorem jX11_castOf_37 {T W H P S M : Int} {J : Wd → Prop} {post : Int32 → Wd → Prop}   (hp : ∀ (r : Int32) (zr : Int) (w9 : Wd), Ti r zr → IJ T W H P S M J w9 → (0 ≤ zr ∧ zr ≤ P - 1) → post r w9) : ∀ (n : Nat) (x2 : Int32) (x5 : Int32) (x6 : Int32) (zx2 : Int) (zx5 : Int) (zx6 : Int) (w : Wd), Ti x2 zx2 → Ti x5 zx5 → Ti x6 zx6 → IJ T W H P S M J w → (0 ≤ zx6 ∧ zx6 ≤ W) → (0 ≤ zx5 ∧ zx5 < P) → (0 ≤ zx2 ∧ zx2 < H) → (W + 1 - zx6) < (n : Int) → pX11_castOf_37   post  n x2 x5 x6 w := by
  intro n
  induction n with
  | zero =>
    intro x2 x5 x6 zx2 zx5 zx6 w tx2 tx5 tx6 hI h0 h1 h2 hm
    exact absurd hm (by omega)
  | succ n ih =>
    intro x2 x5 x6 zx2 zx5 zx6 w tx2 tx5 tx6 hI h0 h1 h2 hm
    unfold pX11_castOf_37
    have hk := im_k hI.1
    refine sX11_width   (hI := hI.1)   (hp := fun r_1v93 zr_1v93 tr_1v93 p460 => ?_)
    refine ⟨fun c461 => ?_, fun c461 => ?_⟩
    · replace c461 := c_le tr_1v93 tx6 c461
      exact hp _ _ _  tx5 hI (by omega)
    · replace c461 := c_nle tr_1v93 tx6 c461
      intro w_4v96 ew_4v96
      have hIw_4v96 := ijs_n hI ew_4v96 (by decide) (by decide)
      obtain ⟨z462, t463, f464⟩ := t_and (x := ((w_4v96.1 300 35) >>> (x6 &&& 31))) lit_1 (by decide)
      refine ⟨fun c465 => ?_, fun c465 => ?_⟩
      · replace c465 := c_neq t463 lit_1 c465
        unfold pX11_castOf_70
        refine ⟨fun c466 => ?_, fun c466 => ?_⟩
        · replace c466 := c_eq lit_0 lit_0 c466
          obtain ⟨z467, t468, f469⟩ := t_mul lit_2 tx2
          first | replace f469 := f469 (by omega) | clear f469
          obtain ⟨z470, t471, f472⟩ := t_add t468 lit_1
          first | replace f472 := f472 (by omega) | clear f472
          refine jX11_comes   (hI := hIw_4v96) (tx1 := t471) (h0 := (by omega)) (hp := fun r_2v97 zr_2v97 w_3v98  tr_2v97 hIw_3v98  => ?_)
          refine ⟨fun c473 => ?_, fun c473 => ?_⟩
          · replace c473 := c_eq tr_2v97 lit_0 c473
            unfold pX11_castOf_112
            refine ⟨fun c474 => ?_, fun c474 => ?_⟩
            · replace c474 := c_eq lit_0 lit_0 c474
              unfold pX11_castOf_128
              obtain ⟨z475, t476, f477⟩ := t_add tx6 lit_1
              first | replace f477 := f477 (by omega) | clear f477
              intro x6_1v102 ex6_1v102
              have tx6_1v102 : Ti x6_1v102 z475 := by rw [ex6_1v102]; exact t476
              exact ih _ _ _ _ _ _ _ tx2 tx5 tx6_1v102 hIw_3v98 (by omega) (by omega) (by omega) (by omega)
            · replace c474 := c_neq lit_0 lit_0 c474
              obtain ⟨z478, t479, f480⟩ := t_shlW hIw_3v98.1 tx6
              first | replace f480 := f480 (by omega) | clear f480
              obtain ⟨z481, t482, f483⟩ := t_orW hIw_3v98.1 tx5 t479
              first | replace f483 := f483 (by omega) | clear f483
              intro x5_2v101 ex5_2v101
              have tx5_2v101 : Ti x5_2v101 z481 := by rw [ex5_2v101]; exact t482
              unfold pX11_castOf_128
              obtain ⟨z484, t485, f486⟩ := t_add tx6 lit_1
              first | replace f486 := f486 (by omega) | clear f486
              intro x6_1v103 ex6_1v103
              have tx6_1v103 : Ti x6_1v103 z484 := by rw [ex6_1v103]; exact t485
              exact ih _ _ _ _ _ _ _ tx2 tx5_2v101 tx6_1v103 hIw_3v98 (by omega) (by omega) (by omega) (by omega)
          · replace c473 := c_neq tr_2v97 lit_0 c473
            unfold pX11_castOf_112
            refine ⟨fun c487 => ?_, fun c487 => ?_⟩
            · replace c487 := c_eq lit_1 lit_0 c487
              unfold pX11_castOf_128
              obtain ⟨z488, t489, f490⟩ := t_add tx6 lit_1
              first | replace f490 := f490 (by omega) | clear f490
              intro x6_1v105 ex6_1v105
              have tx6_1v105 : Ti x6_1v105 z488 := by rw [ex6_1v105]; exact t489
              exact ih _ _ _ _ _ _ _ tx2 tx5 tx6_1v105 hIw_3v98 (by omega) (by omega) (by omega) (by omega)
            · replace c487 := c_neq lit_1 lit_0 c487
              obtain ⟨z491, t492, f493⟩ := t_shlW hIw_3v98.1 tx6
              first | replace f493 := f493 (by omega) | clear f493
              obtain ⟨z494, t495, f496⟩ := t_orW hIw_3v98.1 tx5 t492
              first | replace f496 := f496 (by omega) | clear f496
              intro x5_2v104 ex5_2v104
              have tx5_2v104 : Ti x5_2v104 z494 := by rw [ex5_2v104]; exact t495
              unfold pX11_castOf_128
              obtain ⟨z497, t498, f499⟩ := t_add tx6 lit_1
              first | replace f499 := f499 (by omega) | clear f499
              intro x6_1v106 ex6_1v106
              have tx6_1v106 : Ti x6_1v106 z497 := by rw [ex6_1v106]; exact t498
              exact ih _ _ _ _ _ _ _ tx2 tx5_2v104 tx6_1v106 hIw_3v98 (by omega) (by omega) (by omega) (by omega)
        · replace c466 := c_neq lit_0 lit_0 c466
          obtain ⟨z500, t501, f502⟩ := t_mul lit_2 tx2
          first | replace f502 := f502 (by omega) | clear f502
          refine jX11_comes   (hI := hIw_4v96) (tx1 := t501) (h0 := (by omega)) (hp := fun r_5v99 zr_5v99 w_6v100  tr_5v99 hIw_6v100  => ?_)
          refine ⟨fun c503 => ?_, fun c503 => ?_⟩
          · replace c503 := c_neq tr_5v99 lit_0 c503
            unfold pX11_castOf_112
            refine ⟨fun c504 => ?_, fun c504 => ?_⟩
            · replace c504 := c_eq lit_0 lit_0 c504
              unfold pX11_castOf_128
              obtain ⟨z505, t506, f507⟩ := t_add tx6 lit_1
              first | replace f507 := f507 (by omega) | clear f507
              intro x6_1v108 ex6_1v108
              have tx6_1v108 : Ti x6_1v108 z505 := by rw [ex6_1v108]; exact t506
              exact ih _ _ _ _ _ _ _ tx2 tx5 tx6_1v108 hIw_6v100 (by omega) (by omega) (by omega) (by omega)
            · replace c504 := c_neq lit_0 lit_0 c504
              obtain ⟨z508, t509, f510⟩ := t_shlW hIw_6v100.1 tx6
              first | replace f510 := f510 (by omega) | clear f510
              obtain ⟨z511, t512, f513⟩ := t_orW hIw_6v100.1 tx5 t509
              first | replace f513 := f513 (by omega) | clear f513
              intro x5_2v107 ex5_2v107
              have tx5_2v107 : Ti x5_2v107 z511 := by rw [ex5_2v107]; exact t512
              unfold pX11_castOf_128
              obtain ⟨z514, t515, f516⟩ := t_add tx6 lit_1
              first | replace f516 := f516 (by omega) | clear f516
              intro x6_1v109 ex6_1v109
              have tx6_1v109 : Ti x6_1v109 z514 := by rw [ex6_1v109]; exact t515
              exact ih _ _ _ _ _ _ _ tx2 tx5_2v107 tx6_1v109 hIw_6v100 (by omega) (by omega) (by omega) (by omega)
          · replace c503 := c_eq tr_5v99 lit_0 c503
            unfold pX11_castOf_112
            refine ⟨fun c517 => ?_, fun c517 => ?_⟩
            · replace c517 := c_eq lit_1 lit_0 c517
              unfold pX11_castOf_128
              obtain ⟨z518, t519, f520⟩ := t_add tx6 lit_1
              first | replace f520 := f520 (by omega) | clear f520
              intro x6_1v111 ex6_1v111
              have tx6_1v111 : Ti x6_1v111 z518 := by rw [ex6_1v111]; exact t519
              exact ih _ _ _ _ _ _ _ tx2 tx5 tx6_1v111 hIw_6v100 (by omega) (by omega) (by omega) (by omega)
            · replace c517 := c_neq lit_1 lit_0 c517
              obtain ⟨z521, t522, f523⟩ := t_shlW hIw_6v100.1 tx6
              first | replace f523 := f523 (by omega) | clear f523
              obtain ⟨z524, t525, f526⟩ := t_orW hIw_6v100.1 tx5 t522
              first | replace f526 := f526 (by omega) | clear f526
              intro x5_2v110 ex5_2v110
              have tx5_2v110 : Ti x5_2v110 z524 := by rw [ex5_2v110]; exact t525
              unfold pX11_castOf_128
              obtain ⟨z527, t528, f529⟩ := t_add tx6 lit_1
              first | replace f529 := f529 (by omega) | clear f529
              intro x6_1v112 ex6_1v112
              have tx6_1v112 : Ti x6_1v112 z527 := by rw [ex6_1v112]; exact t528
              exact ih _ _ _ _ _ _ _ tx2 tx5_2v110 tx6_1v112 hIw_6v100 (by omega) (by omega) (by omega) (by omega)
      · replace c465 := c_eq t463 lit_1 c465
        unfold pX11_castOf_70
        refine ⟨fun c530 => ?_, fun c530 => ?_⟩
        · replace c530 := c_eq lit_1 lit_0 c530
          obtain ⟨z531, t532, f533⟩ := t_mul lit_2 tx2
          first | replace f533 := f533 (by omega) | clear f533
          obtain ⟨z534, t535, f536⟩ := t_add t532 lit_1
          first | replace f536 := f536 (by omega) | clear f536
          refine jX11_comes   (hI := hIw_4v96) (tx1 := t535) (h0 := (by omega)) (hp := fun r_2v113 zr_2v113 w_3v114  tr_2v113 hIw_3v114  => ?_)
          refine ⟨fun c537 => ?_, fun c537 => ?_⟩
          · replace c537 := c_eq tr_2v113 lit_0 c537
            unfold pX11_castOf_112
            refine ⟨fun c538 => ?_, fun c538 => ?_⟩
            · replace c538 := c_eq lit_0 lit_0 c538
              unfold pX11_castOf_128
              obtain ⟨z539, t540, f541⟩ := t_add tx6 lit_1
              first | replace f541 := f541 (by omega) | clear f541
              intro x6_1v118 ex6_1v118
              have tx6_1v118 : Ti x6_1v118 z539 := by rw [ex6_1v118]; exact t540
              exact ih _ _ _ _ _ _ _ tx2 tx5 tx6_1v118 hIw_3v114 (by omega) (by omega) (by omega) (by omega)
            · replace c538 := c_neq lit_0 lit_0 c538
              obtain ⟨z542, t543, f544⟩ := t_shlW hIw_3v114.1 tx6
              first | replace f544 := f544 (by omega) | clear f544
              obtain ⟨z545, t546, f547⟩ := t_orW hIw_3v114.1 tx5 t543
              first | replace f547 := f547 (by omega) | clear f547
              intro x5_2v117 ex5_2v117
              have tx5_2v117 : Ti x5_2v117 z545 := by rw [ex5_2v117]; exact t546
              unfold pX11_castOf_128
              obtain ⟨z548, t549, f550⟩ := t_add tx6 lit_1
              first | replace f550 := f550 (by omega) | clear f550
              intro x6_1v119 ex6_1v119
              have tx6_1v119 : Ti x6_1v119 z548 := by rw [ex6_1v119]; exact t549
              exact ih _ _ _ _ _ _ _ tx2 tx5_2v117 tx6_1v119 hIw_3v114 (by omega) (by omega) (by omega) (by omega)
          · replace c537 := c_neq tr_2v113 lit_0 c537
            unfold pX11_castOf_112
            refine ⟨fun c551 => ?_, fun c551 => ?_⟩
            · replace c551 := c_eq lit_1 lit_0 c551
              unfold pX11_castOf_128
              obtain ⟨z552, t553, f554⟩ := t_add tx6 lit_1
              first | replace f554 := f554 (by omega) | clear f554
              intro x6_1v121 ex6_1v121
              have tx6_1v121 : Ti x6_1v121 z552 := by rw [ex6_1v121]; exact t553
              exact ih _ _ _ _ _ _ _ tx2 tx5 tx6_1v121 hIw_3v114 (by omega) (by omega) (by omega) (by omega)
            · replace c551 := c_neq lit_1 lit_0 c551
              obtain ⟨z555, t556, f557⟩ := t_shlW hIw_3v114.1 tx6
              first | replace f557 := f557 (by omega) | clear f557
              obtain ⟨z558, t559, f560⟩ := t_orW hIw_3v114.1 tx5 t556
              first | replace f560 := f560 (by omega) | clear f560
              intro x5_2v120 ex5_2v120
              have tx5_2v120 : Ti x5_2v120 z558 := by rw [ex5_2v120]; exact t559
              unfold pX11_castOf_128
              obtain ⟨z561, t562, f563⟩ := t_add tx6 lit_1
              first | replace f563 := f563 (by omega) | clear f563
              intro x6_1v122 ex6_1v122
              have tx6_1v122 : Ti x6_1v122 z561 := by rw [ex6_1v122]; exact t562
              exact ih _ _ _ _ _ _ _ tx2 tx5_2v120 tx6_1v122 hIw_3v114 (by omega) (by omega) (by omega) (by omega)
        · replace c530 := c_neq lit_1 lit_0 c530
          obtain ⟨z564, t565, f566⟩ := t_mul lit_2 tx2
          first | replace f566 := f566 (by omega) | clear f566
          refine jX11_comes   (hI := hIw_4v96) (tx1 := t565) (h0 := (by omega)) (hp := fun r_5v115 zr_5v115 w_6v116  tr_5v115 hIw_6v116  => ?_)
          refine ⟨fun c567 => ?_, fun c567 => ?_⟩
          · replace c567 := c_neq tr_5v115 lit_0 c567
            unfold pX11_castOf_112
            refine ⟨fun c568 => ?_, fun c568 => ?_⟩
            · replace c568 := c_eq lit_0 lit_0 c568
              unfold pX11_castOf_128
              obtain ⟨z569, t570, f571⟩ := t_add tx6 lit_1
              first | replace f571 := f571 (by omega) | clear f571
              intro x6_1v124 ex6_1v124
              have tx6_1v124 : Ti x6_1v124 z569 := by rw [ex6_1v124]; exact t570
              exact ih _ _ _ _ _ _ _ tx2 tx5 tx6_1v124 hIw_6v116 (by omega) (by omega) (by omega) (by omega)
            · replace c568 := c_neq lit_0 lit_0 c568
              obtain ⟨z572, t573, f574⟩ := t_shlW hIw_6v116.1 tx6
              first | replace f574 := f574 (by omega) | clear f574
              obtain ⟨z575, t576, f577⟩ := t_orW hIw_6v116.1 tx5 t573
              first | replace f577 := f577 (by omega) | clear f577
              intro x5_2v123 ex5_2v123
              have tx5_2v123 : Ti x5_2v123 z575 := by rw [ex5_2v123]; exact t576
              unfold pX11_castOf_128
              obtain ⟨z578, t579, f580⟩ := t_add tx6 lit_1
              first | replace f580 := f580 (by omega) | clear f580
              intro x6_1v125 ex6_1v125
              have tx6_1v125 : Ti x6_1v125 z578 := by rw [ex6_1v125]; exact t579
              exact ih _ _ _ _ _ _ _ tx2 tx5_2v123 tx6_1v125 hIw_6v116 (by omega) (by omega) (by omega) (by omega)
          · replace c567 := c_eq tr_5v115 lit_0 c567
            unfold pX11_castOf_112
            refine ⟨fun c581 => ?_, fun c581 => ?_⟩
            · replace c581 := c_eq lit_1 lit_0 c581
              unfold pX11_castOf_128
              obtain ⟨z582, t583, f584⟩ := t_add tx6 lit_1
              first | replace f584 := f584 (by omega) | clear f584
              intro x6_1v127 ex6_1v127
              have tx6_1v127 : Ti x6_1v127 z582 := by rw [ex6_1v127]; exact t583
              exact ih _ _ _ _ _ _ _ tx2 tx5 tx6_1v127 hIw_6v116 (by omega) (by omega) (by omega) (by omega)
            · replace c581 := c_neq lit_1 lit_0 c581
              obtain ⟨z585, t586, f587⟩ := t_shlW hIw_6v116.1 tx6
              first | replace f587 := f587 (by omega) | clear f587
              obtain ⟨z588, t589, f590⟩ := t_orW hIw_6v116.1 tx5 t586
              first | replace f590 := f590 (by omega) | clear f590
              intro x5_2v126 ex5_2v126
              have tx5_2v126 : Ti x5_2v126 z588 := by rw [ex5_2v126]; exact t589
              unfold pX11_castOf_128
              obtain ⟨z591, t592, f593⟩ := t_add tx6 lit_1
              first | replace f593 := f593 (by omega) | clear f593
              intro x6_1v128 ex6_1v128
              have tx6_1v128 : Ti x6_1v128 z591 := by rw [ex6_1v128]; exact t592
              exact ih _ _ _ _ _ _ _ tx2 tx5_2v126 tx6_1v128 hIw_6v116 (by omega) (by omega) (by omega) (by omega)
set_option maxHeartbeats 4000000 in
set_option maxRecDepth 100000 in
theorem jX11_castOf {T W H P S M : Int} {J : Wd → Prop} {post : Int32 → Wd → Prop} {x1 : Int32} {zx1 : Int} {x2 : Int32} {zx2 : Int} {x3 : Int32} {zx3 : Int} {x4 : Int32} {zx4 : Int} {w : Wd}  (tx1 : Ti x1 zx1) (tx2 : Ti x2 zx2) (tx3 : Ti x3 zx3) (tx4 : Ti x4 zx4) (hI : IJ T W H P S M J w) (h0 : 0 ≤ zx2 ∧ zx2 < H) (hp : ∀ (r : Int32) (zr : Int) (w9 : Wd), Ti r zr → IJ T W H P S M J w9 → (0 ≤ zr ∧ zr ≤ P - 1) → post r w9) : pX11_castOf   post  x1 x2 x3 x4 w := by
  unfold pX11_castOf
  have hk := im_k hI.1
  refine sX11_turnedRow   (hI := hI.1) (tx1 := tx1)  (hp := fun r_1v129 zr_1v129 tr_1v129 => ?_)
  intro w_3v137 ew_3v137
  have hIw_3v137 := ijs_n hI ew_3v137 (by decide) (by decide)
  have t594 : Ti (w_3v137.1 300 35) zr_1v129 := by rw [ew_3v137, sI_at]; exact tr_1v129
  refine sX11_bitsOf   (hI := hIw_3v137.1) (tx0 := t594)  (hp := fun r_4v138 zr_4v138 tr_4v138 => ?_)
  intro w_6v143 ew_6v143
  have hIw_6v143 := ijs_n hIw_3v137 ew_6v143 (by decide) (by decide)
  intro w_7v144 ew_7v144
  have hIw_7v144 := ijs_n hIw_6v143 ew_7v144 (by decide) (by decide)
  intro w_8v145 ew_8v145
  have hIw_8v145 := ijs_n hIw_7v144 ew_8v145 (by decide) (by decide)
  exact ⟨70000, jX11_castOf_37    (hp := hp) 70000 _ _ _ _ _ _ _ tx2 lit_0 lit_0 hIw_8v145 (by omega) (by omega) (by omega) (by omega)⟩
theorem sX11_castOf {T W H P S M : Int} {post : Int32 → Wd → Prop} {x1 : Int32} {zx1 : Int} {x2 : Int32} {zx2 : Int} {x3 : Int32} {zx3 : Int} {x4 : Int32} {zx4 : Int} {w : Wd} (tx1 : Ti x1 zx1) (tx2 : Ti x2 zx2) (tx3 : Ti x3 zx3) (tx4 : Ti x4 zx4) (hI : IM T W H P S M w) (h0 : 0 ≤ zx2 ∧ zx2 < H) (hp : ∀ (r : Int32) (zr : Int) (w9 : Wd), Ti r zr → IM T W H P S M w9 → (0 ≤ zr ∧ zr ≤ P - 1) → post r w9) : pX11_castOf post x1 x2 x3 x4 w :=
  jX11_castOf (J := fun _ => True) tx1 tx2 tx3 tx4 ⟨hI, trivial, stJ_true⟩ h0 (fun r zr w9 t i h => hp r zr w9 t i.1 h)
set_option maxHeartbeats 4000000 in
set_option maxRecDepth 100000 in
theorem sX11_isHand {T W H P S M : Int} {post : Int32 → Wd → Prop} {x1 : Int32} {zx1 : Int} {w : Wd}  (tx1 : Ti x1 zx1) (hI : IM T W H P S M w)  (hp : ∀ (r : Int32) (zr : Int), Ti r zr → ((zr = 0 ∨ (0 ≤ zx1 ∧ zx1 < H))) → post r w) : pX11_isHand   post  x1 w := by
  unfold pX11_isHand
  have hk := im_k hI
  obtain ⟨z595, t596⟩ := t_any (w.1 300 29)
  have f597 := img_29 hI t596
  refine ⟨vp_of t596 (by omega) (by omega), ?_⟩
  obtain ⟨z598, t599⟩ := t_any (w.2.1 314 (w.1 300 29).toNatClampNeg)
  have f600 := img_314 hI t599
  obtain ⟨z601, t602, f603⟩ := t_sub t599 lit_1
  first | replace f603 := f603 (by omega) | clear f603
  refine sX11_isIn   (hI := hI) (tx0 := tx1) (tx1 := lit_0) (tx2 := t602)  (hp := fun r_1v146 zr_1v146 tr_1v146 p604 p605 => ?_)
  refine ⟨nar_ok tr_1v146 (by omega), ?_⟩
  exact hp _ _ tr_1v146 (by omega)
set_option maxHeartbeats 4000000 in
set_option maxRecDepth 100000 in
theorem sX11_isHeat {T W H P S M : Int} {post : Int32 → Wd → Prop} {x0 : Int32} {zx0 : Int} {w : Wd}  (tx0 : Ti x0 zx0) (hI : IM T W H P S M w)  (hp : ∀ (r : Int32) (zr : Int), Ti r zr → ((zr = 0 ∨ (0 ≤ zx0 ∧ zx0 ≤ 9))) → post r w) : pX11_isHeat   post  x0 w := by
  unfold pX11_isHeat
  have hk := im_k hI
  refine sX11_isIn   (hI := hI) (tx0 := tx0) (tx1 := lit_0) (tx2 := lit_9)  (hp := fun r_1v148 zr_1v148 tr_1v148 p606 p607 => ?_)
  refine ⟨nar_ok tr_1v148 (by omega), ?_⟩
  exact hp _ _ tr_1v148 (by omega)
