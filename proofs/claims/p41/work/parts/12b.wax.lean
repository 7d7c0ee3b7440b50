/-! ===== the least wax ===== -/
def WN (P N R : Int) (nx : Nat → Int32) : Prop := ∀ r c : Nat, (r : Int) < R → (c : Int) < N → Rg (nx (16 * r + c)) 0 (P - 1)
def WV (st nx : Nat → Int32) (k r : Nat) (v C : Int) : Prop := 0 ≤ v ∧ v ≤ 1000000 ∧ (v = 0 ∨ v = 1000000 ∨ (1 ≤ k ∧ ∃ c : Nat, (c : Int) < C ∧ (st (4096 * (k - 1) + (nx (16 * r + c)).toNatClampNeg)).toInt + 1 + ((c : Int) % 4) = v))
def WL (N : Int) (st nx : Nat → Int32) (k : Nat) (R : Int) : Prop := ∀ r : Nat, (r : Int) < R → WV st nx k r (st (4096 * k + r)).toInt N
theorem cl_rg {x : Int32} {b : Int} (h : Rg x 0 b) : (x.toNatClampNeg : Int) ≤ b := by
  have h : 0 ≤ x.toInt ∧ x.toInt ≤ b := h
  rw [i_cl]; omega
theorem wv_cong {st st2 nx : Nat → Int32} {k r : Nat} {v C P : Int} (h : WV st nx k r v C) (hn : ∀ c : Nat, (c : Int) < C → Rg (nx (16 * r + c)) 0 (P - 1)) (hP : P ≤ 4096) (e : ∀ i : Nat, i < 4096 * k → st2 i = st i) : WV st2 nx k r v C := by
  obtain ⟨h1, h2, h3⟩ := h
  refine ⟨h1, h2, ?_⟩
  rcases h3 with h3 | h3 | ⟨hk, c, hc, h3⟩
  · exact Or.inl h3
  · exact Or.inr (Or.inl h3)
  · have := cl_rg (hn c hc)
    exact Or.inr (Or.inr ⟨hk, c, hc, by rw [e _ (by omega)]; exact h3⟩)
theorem wl_cong {st st2 nx : Nat → Int32} {k : Nat} {R N P : Int} (h : WL N st nx k R) (hn : WN P N R nx) (hP : P ≤ 4096) (e : ∀ i : Nat, (i : Int) < 4096 * k + R → st2 i = st i) : WL N st2 nx k R := by
  intro r hr
  rw [e _ (by omega)]
  exact wv_cong (h r hr) (fun c hc => hn r c hr hc) hP (fun i hi => e i (by omega))
theorem wv_0 {st st2 nx nx2 : Nat → Int32} {r : Nat} {v C C2 : Int} (h : WV st nx 0 r v C) : WV st2 nx2 0 r v C2 := by
  obtain ⟨h1, h2, h3⟩ := h
  refine ⟨h1, h2, ?_⟩
  rcases h3 with h3 | h3 | ⟨hk, -⟩
  · exact Or.inl h3
  · exact Or.inr (Or.inl h3)
  · exact absurd hk (by decide)
theorem wl_0 {st nx nx2 : Nat → Int32} {R N : Int} (h : WL N st nx 0 R) : WL N st nx2 0 R := fun r hr => wv_0 (h r hr)
theorem wv_up {st nx : Nat → Int32} {k r : Nat} {v C C2 : Int} (h : WV st nx k r v C) (hc : C ≤ C2) : WV st nx k r v C2 := by
  obtain ⟨h1, h2, h3⟩ := h
  refine ⟨h1, h2, ?_⟩
  rcases h3 with h3 | h3 | ⟨hk, c, h4, h5⟩
  · exact Or.inl h3
  · exact Or.inr (Or.inl h3)
  · exact Or.inr (Or.inr ⟨hk, c, by omega, h5⟩)
section WAX
variable {T W H P S M : Int} {w : Wd}
theorem wn_cong {nx : Nat → Int32} {N R R2 : Int} (h : WN P N R nx) (hr : R2 ≤ R) : WN P N R2 nx := fun r c h1 h2 => h r c (by omega) h2
theorem stJ_wax (a b : Nat → Int32) : StJ (fun w => w.2.1 351 = a ∧ w.2.1 352 = b) := ⟨fun w f v _ _ h => h, fun w i v h => ⟨by rw [sA_ne (by decide)]; exact h.1, by rw [sA_ne (by decide)]; exact h.2⟩⟩
set_option maxHeartbeats 4000000 in
theorem l_lw17 {k9 : Int32 → Int32 → Int32 → Wd → Prop} {post : Wd → Prop} {x1 x2 x3 : Int32} {z1 : Int} {r : Nat} (t1 : Ti x1 z1) (t3 : Ti x3 (r : Int)) (hr : (r : Int) < P) (hk9 : ∀ (x3 : Int32) (w' : Wd), Ti x3 ((r : Int) + 1) → IM T W H P S M w' → WN P (4 * H) (r + 1) (w'.2.1 352) → WL (4 * H) (w'.2.1 351) (w'.2.1 352) 0 (r + 1) → k9 x1 x2 x3 w') : ∀ (n : Nat) (x4 : Int32) (z4 : Int) (w : Wd), Ti x4 z4 → (0 ≤ z4 ∧ z4 ≤ 4 * H) → IM T W H P S M w → WN P (4 * H) r (w.2.1 352) → (∀ c : Nat, (c : Int) < z4 → Rg (w.2.1 352 (16 * r + c)) 0 (P - 1)) → WL (4 * H) (w.2.1 351) (w.2.1 352) 0 r → 4 * H + 1 - z4 < (n : Int) → pX11_layWays_17 k9 post n x1 x2 x3 x4 w := by
  intro n
  induction n with
  | zero => intro x4 z4 w t4 h0 hI h1 h2 h3 hm; exact absurd hm (by omega)
  | succ n ih =>
    intro x4 z4 w t4 h0 hI h1 h2 h3 hm
    unfold pX11_layWays_17
    have hk := im_k hI
    refine sX11_ways (hI := hI) (hp := fun r1 zr1 tr1 p1 => ?_)
    refine ⟨fun c => ?_, fun c => ?_⟩
    · replace c := c_le tr1 t4 c
      have e3 := i_cz t3
      obtain ⟨z5, t5, f5⟩ := t_add t3 lit_1
      replace f5 := f5 (by omega)
      have fin : ∀ (v : Int32) (zv : Int), Ti v zv → (zv = 0 ∨ zv = 1000000) → pX11_layWays_75 k9 post x1 x2 x3 x3 v w := by
        intro v zv tv hv
        unfold pX11_layWays_75
        refine ⟨vp_of t3 (by omega) (by omega), ?_⟩
        intro w_1 e1 x3_2 e2
        have a2 : w_1.2.1 352 = w.2.1 352 := by rw [e1, sA_ne (by decide)]
        refine hk9 x3_2 w_1 (by rw [e2, ← f5]; exact t5) (ims_A hI e1 (by decide)) ?_ ?_
        · intro r9 c9 h9 k9
          rw [a2]
          by_cases hq : r9 = r
          · subst hq; exact h2 c9 (by omega)
          · exact h1 r9 c9 (by omega) k9
        · intro r9 h9
          by_cases hq : r9 = r
          · subst hq
            rw [show 4096 * 0 + r9 = x3.toNatClampNeg by omega, e1, sA_at, show v.toInt = zv from tv]
            exact ⟨by omega, by omega, by omega⟩
          · rw [e1, sA_nx (by omega)]
            exact wv_0 (h3 r9 (by omega))
      exact ⟨fun c2 => fin _ _ lit_1000000 (Or.inr rfl), fun c2 => fin _ _ lit_0 (Or.inl rfl)⟩
    · replace c := c_nle tr1 t4 c
      obtain ⟨za, ta, fa⟩ := t_div t4 lit_4
      replace fa := fa (by omega)
      obtain ⟨zb, tb, fb⟩ := t_rem t4 lit_4
      replace fb := fb (by omega)
      obtain ⟨zc, tc, fc⟩ := t_mul lit_16 t3
      replace fc := fc (by omega)
      obtain ⟨zd, td, fd⟩ := t_add tc t4
      replace fd := fd (by omega)
      obtain ⟨ze, te, fe⟩ := t_add t4 lit_1
      replace fe := fe (by omega)
      have ed := i_cz td
      refine jX11_castOf (J := fun w' => w'.2.1 351 = w.2.1 351 ∧ w'.2.1 352 = w.2.1 352) t3 ta tb lit_0 ⟨hI, ⟨rfl, rfl⟩, stJ_wax _ _⟩ (by omega) (fun r5 z5 w_6 t5 i6 p5 => ?_)
      obtain ⟨i6, ⟨j1, j2⟩, -⟩ := i6
      refine ⟨vp_of td (by omega) (by omega), ?_⟩
      intro w_7 e7 x4_8 e8
      refine ih x4_8 ze w_7 (by rw [e8]; exact te) (by omega) (ims_A i6 e7 (by decide)) (fun r9 c9 h9 k9 => ?_) (fun c9 h9 => ?_) ?_ (by omega)
      · rw [e7, sA_nx (by omega), j2]; exact h1 r9 c9 h9 k9
      · by_cases hq : (c9 : Int) < z4
        · rw [e7, sA_nx (by omega), j2]; exact h2 c9 hq
        · rw [show 16 * r + c9 = (((16 : Int32) * x3) + x4).toNatClampNeg by omega, e7, sA_at]
          exact Rg.m t5 (by omega) (by omega)
      · rw [show w_7.2.1 351 = w.2.1 351 by rw [e7, sA_ne (by decide), j1]]
        exact wl_0 h3
set_option maxHeartbeats 4000000 in
theorem l_lw116 {k92 : Int32 → Int32 → Int32 → Int32 → Wd → Prop} {post : Wd → Prop} {x1 x2 x3 x4 : Int32} {k r : Nat} (t3 : Ti x3 (k : Int)) (t4 : Ti x4 (r : Int)) (hk1 : 1 ≤ k ∧ k ≤ 4) (hr : (r : Int) < P) (hk92 : ∀ (x4 : Int32) (w' : Wd), Ti x4 ((r : Int) + 1) → IM T W H P S M w' → WN P (4 * H) P (w'.2.1 352) → (∀ j : Nat, j < k → WL (4 * H) (w'.2.1 351) (w'.2.1 352) j P) → WL (4 * H) (w'.2.1 351) (w'.2.1 352) k (r + 1) → k92 x1 x2 x3 x4 w') : ∀ (n : Nat) (x5 x6 : Int32) (z5 z6 : Int) (w : Wd), Ti x5 z5 → Ti x6 z6 → (0 ≤ z6 ∧ z6 ≤ 4 * H) → IM T W H P S M w → WN P (4 * H) P (w.2.1 352) → (∀ j : Nat, j < k → WL (4 * H) (w.2.1 351) (w.2.1 352) j P) → WL (4 * H) (w.2.1 351) (w.2.1 352) k r → WV (w.2.1 351) (w.2.1 352) k r z5 z6 → 4 * H + 1 - z6 < (n : Int) → pX11_layWays_116 k92 post n x1 x2 x3 x4 x5 x6 w := by
  intro n
  induction n with
  | zero => intro x5 x6 z5 z6 w t5 t6 h0 hI h1 h2 h3 h4 hm; exact absurd hm (by omega)
  | succ n ih =>
    intro x5 x6 z5 z6 w t5 t6 h0 hI h1 h2 h3 h4 hm
    unfold pX11_layWays_116
    have hk := im_k hI
    obtain ⟨za, ta, fa⟩ := t_mul lit_4096 t3
    replace fa := fa (by omega)
    obtain ⟨zb, tb, fb⟩ := t_add ta t4
    replace fb := fb (by omega)
    have eb := i_cz tb
    refine sX11_ways (hI := hI) (hp := fun r1 zr1 tr1 p1 => ?_)
    refine ⟨fun c => ?_, fun c => ?_⟩
    · replace c := c_le tr1 t6 c
      obtain ⟨z8, t8, f8⟩ := t_add t4 lit_1
      replace f8 := f8 (by omega)
      refine ⟨vp_of tb (by omega) (by omega), ?_⟩
      intro w_4 e4 x4_5 e5
      have a2 : w_4.2.1 352 = w.2.1 352 := by rw [e4, sA_ne (by decide)]
      have st : ∀ i : Nat, i < 4096 * k + r → w_4.2.1 351 i = w.2.1 351 i := fun i hi => by rw [e4, sA_nx (by omega)]
      refine hk92 x4_5 w_4 (by rw [e5, ← f8]; exact t8) (ims_A hI e4 (by decide)) (by rw [a2]; exact h1) (fun j hj => ?_) ?_
      · rw [a2]
        exact wl_cong (h2 j hj) h1 (by omega) (fun i hi => st i (by omega))
      · rw [a2]
        intro r9 h9
        by_cases hq : r9 = r
        · subst hq
          have q : w_4.2.1 351 (4096 * k + r9) = x5 := by rw [show 4096 * k + r9 = (((4096 : Int32) * x3) + x4).toNatClampNeg by omega, e4, sA_at]
          rw [q, show x5.toInt = z5 from t5]
          exact wv_up (wv_cong h4 (fun c9 hc9 => h1 r9 c9 hr (by omega)) (by omega) (fun i hi => st i (by omega))) (by omega)
        · exact wl_cong h3 (wn_cong h1 (by omega)) (by omega) (fun i hi => st i (by omega)) r9 (by omega)
    · replace c := c_nle tr1 t6 c
      obtain ⟨zc, tc, fc⟩ := t_mul lit_16 t4
      replace fc := fc (by omega)
      obtain ⟨zd, td, fd⟩ := t_add tc t6
      replace fd := fd (by omega)
      have ed := i_cz td
      obtain ⟨c6, hc6⟩ : ∃ c6 : Nat, z6 = (c6 : Int) := ⟨z6.toNat, by omega⟩
      obtain ⟨zn, tn⟩ := t_any (w.2.1 352 (((16 : Int32) * x4) + x6).toNatClampNeg)
      have en := i_cz tn
      have fn := Rg.g (show Rg (w.2.1 352 (((16 : Int32) * x4) + x6).toNatClampNeg) 0 (P - 1) by rw [show (((16 : Int32) * x4) + x6).toNatClampNeg = 16 * r + c6 by omega]; exact h1 r c6 hr (by omega)) tn
      obtain ⟨zg, tg, fg⟩ := t_sub t3 lit_1
      replace fg := fg (by omega)
      obtain ⟨zh, th, fh⟩ := t_mul lit_4096 tg
      replace fh := fh (by omega)
      obtain ⟨zi, ti, fi⟩ := t_add th tn
      replace fi := fi (by omega)
      have ei := i_cz ti
      obtain ⟨zs, ts⟩ := t_any (w.2.1 351 (((4096 : Int32) * (x3 - (1 : Int32))) + (w.2.1 352 (((16 : Int32) * x4) + x6).toNatClampNeg)).toNatClampNeg)
      have es : (w.2.1 351 (4096 * (k - 1) + (w.2.1 352 (16 * r + c6)).toNatClampNeg)).toInt = zs := by
        rw [← show (((16 : Int32) * x4) + x6).toNatClampNeg = 16 * r + c6 by omega, ← show (((4096 : Int32) * (x3 - (1 : Int32))) + (w.2.1 352 (((16 : Int32) * x4) + x6).toNatClampNeg)).toNatClampNeg = 4096 * (k - 1) + (w.2.1 352 (((16 : Int32) * x4) + x6).toNatClampNeg).toNatClampNeg by omega]
        exact ts
      have ls : 0 ≤ zs ∧ zs ≤ 1000000 := by
        have q := h2 (k - 1) (by omega) (w.2.1 352 (((16 : Int32) * x4) + x6).toNatClampNeg).toNatClampNeg (by omega)
        rw [show 4096 * (k - 1) + (w.2.1 352 (((16 : Int32) * x4) + x6).toNatClampNeg).toNatClampNeg = (((4096 : Int32) * (x3 - (1 : Int32))) + (w.2.1 352 (((16 : Int32) * x4) + x6).toNatClampNeg)).toNatClampNeg by omega, show (w.2.1 351 (((4096 : Int32) * (x3 - (1 : Int32))) + (w.2.1 352 (((16 : Int32) * x4) + x6).toNatClampNeg)).toNatClampNeg).toInt = zs from ts] at q
        exact ⟨q.1, q.2.1⟩
      obtain ⟨zp, tp, fp⟩ := t_add ts lit_1
      replace fp := fp (by omega)
      obtain ⟨zq, tq, fq⟩ := t_rem t6 lit_4
      replace fq := fq (by omega)
      obtain ⟨zt, tt, ft⟩ := t_add tp tq
      replace ft := ft (by omega)
      obtain ⟨zu, tu, fu⟩ := t_add t6 lit_1
      replace fu := fu (by omega)
      refine ⟨vp_of td (by omega) (by omega), vp_of ti (by omega) (by omega), ?_⟩
      intro x7_6 e7
      have t7 : Ti x7_6 zt := by rw [e7]; exact tt
      refine ⟨fun c2 => ?_, fun c2 => ?_⟩
      · unfold pX11_layWays_171
        intro x6_1 e6
        exact ih x5 x6_1 z5 zu w t5 (by rw [e6]; exact tu) (by omega) hI h1 h2 h3 (wv_up h4 (by omega)) (by omega)
      · replace c2 := c_nle t5 t7 c2
        unfold pX11_layWays_171
        intro x6_1 e6
        refine ih x7_6 x6_1 zt zu w t7 (by rw [e6]; exact tu) (by omega) hI h1 h2 h3 ⟨by omega, by have := h4.2.1; omega, Or.inr (Or.inr ⟨hk1.1, c6, by omega, ?_⟩)⟩ (by omega)
        rw [es]; omega
set_option maxHeartbeats 4000000 in
theorem l_lw92 {k84 : Int32 → Int32 → Int32 → Wd → Prop} {post : Wd → Prop} {x1 x2 x3 : Int32} {z1 : Int} {k : Nat} (t1 : Ti x1 z1) (t2 : Ti x2 P) (t3 : Ti x3 (k : Int)) (hk1 : 1 ≤ k ∧ k ≤ 4) (hk84 : ∀ (x3 : Int32) (w' : Wd), Ti x3 ((k : Int) + 1) → IM T W H P S M w' → WN P (4 * H) P (w'.2.1 352) → (∀ j : Nat, j < k + 1 → WL (4 * H) (w'.2.1 351) (w'.2.1 352) j P) → k84 x1 x2 x3 w') : ∀ (n : Nat) (x4 : Int32) (z4 : Int) (w : Wd), Ti x4 z4 → (0 ≤ z4 ∧ z4 ≤ P) → IM T W H P S M w → WN P (4 * H) P (w.2.1 352) → (∀ j : Nat, j < k → WL (4 * H) (w.2.1 351) (w.2.1 352) j P) → WL (4 * H) (w.2.1 351) (w.2.1 352) k z4 → P + 1 - z4 < (n : Int) → pX11_layWays_92 k84 post n x1 x2 x3 x4 w := by
  intro n
  induction n with
  | zero => intro x4 z4 w t4 h0 hI h1 h2 h3 hm; exact absurd hm (by omega)
  | succ n ih =>
    intro x4 z4 w t4 h0 hI h1 h2 h3 hm
    unfold pX11_layWays_92
    have hk := im_k hI
    refine ⟨fun c => ?_, fun c => ?_⟩
    · replace c := c_le t2 t4 c
      obtain ⟨z8, t8, f8⟩ := t_add t3 lit_1
      replace f8 := f8 (by omega)
      intro x3_2 e2
      refine hk84 x3_2 w (by rw [e2, ← f8]; exact t8) hI h1 (fun j hj => ?_)
      by_cases hq : j = k
      · subst hq; rw [show P = z4 by omega]; exact h3
      · exact h2 j (by omega)
    · replace c := c_nle t2 t4 c
      obtain ⟨r, hr⟩ : ∃ r : Nat, z4 = (r : Int) := ⟨z4.toNat, by omega⟩
      subst hr
      have go : ∀ (v : Int32) (zv : Int), Ti v zv → (zv = 0 ∨ zv = 1000000) → pX11_layWays_111 (pX11_layWays_92 k84 post n) post x1 x2 x3 x4 v w := by
        intro v zv tv hv
        unfold pX11_layWays_111
        exact ⟨1000, l_lw116 t3 t4 hk1 (by omega) (fun x4 w' q1 q2 q3 q4 q5 => ih x4 _ w' q1 (by omega) q2 q3 q4 q5 (by omega)) 1000 v 0 zv 0 w tv lit_0 (by omega) hI h1 h2 h3 ⟨by omega, by omega, by omega⟩ (by omega)⟩
      exact ⟨fun c2 => go _ _ lit_1000000 (Or.inr rfl), fun c2 => go _ _ lit_0 (Or.inl rfl)⟩
theorem l_lw84 {post : Wd → Prop} {x1 x2 : Int32} {z1 : Int} (t1 : Ti x1 z1) (t2 : Ti x2 P) (hp : ∀ w' : Wd, IM T W H P S M w' → WN P (4 * H) P (w'.2.1 352) → (∀ j : Nat, j < 5 → WL (4 * H) (w'.2.1 351) (w'.2.1 352) j P) → post w') : ∀ (n : Nat) (x3 : Int32) (k : Nat) (w : Wd), Ti x3 (k : Int) → 1 ≤ k → k ≤ 5 → IM T W H P S M w → WN P (4 * H) P (w.2.1 352) → (∀ j : Nat, j < k → WL (4 * H) (w.2.1 351) (w.2.1 352) j P) → 6 - (k : Int) < (n : Int) → pX11_layWays_84 post n x1 x2 x3 w := by
  intro n
  induction n with
  | zero => intro x3 k w t3 h0 h00 hI h1 h2 hm; exact absurd hm (by omega)
  | succ n ih =>
    intro x3 k w t3 h0 h00 hI h1 h2 hm
    unfold pX11_layWays_84
    have hk := im_k hI
    refine ⟨fun c => ?_, fun c => ?_⟩
    · replace c := c_lt lit_4 t3 c
      exact hp w hI h1 (fun j hj => h2 j (by omega))
    · replace c := c_nlt lit_4 t3 c
      exact ⟨10000, l_lw92 t1 t2 t3 ⟨h0, by omega⟩ (fun x3 w' q1 q2 q3 q4 => ih x3 (k + 1) w' q1 (by omega) (by omega) q2 q3 q4 (by omega)) 10000 0 0 w lit_0 (by omega) hI h1 h2 (fun r hr => absurd hr (by omega)) (by omega)⟩
theorem l_lw9 {post : Wd → Prop} {x1 x2 : Int32} {z1 : Int} (t1 : Ti x1 z1) (t2 : Ti x2 P) (hp : ∀ w' : Wd, IM T W H P S M w' → WN P (4 * H) P (w'.2.1 352) → (∀ j : Nat, j < 5 → WL (4 * H) (w'.2.1 351) (w'.2.1 352) j P) → post w') : ∀ (n : Nat) (x3 : Int32) (r : Nat) (w : Wd), Ti x3 (r : Int) → (r : Int) ≤ P → IM T W H P S M w → WN P (4 * H) r (w.2.1 352) → WL (4 * H) (w.2.1 351) (w.2.1 352) 0 r → P + 1 - (r : Int) < (n : Int) → pX11_layWays_9 post n x1 x2 x3 w := by
  intro n
  induction n with
  | zero => intro x3 r w t3 h0 hI h1 h2 hm; exact absurd hm (by omega)
  | succ n ih =>
    intro x3 r w t3 h0 hI h1 h2 hm
    unfold pX11_layWays_9
    have hk := im_k hI
    refine ⟨fun c => ?_, fun c => ?_⟩
    · replace c := c_le t2 t3 c
      have e : (r : Int) = P := by omega
      rw [e] at h1 h2
      exact ⟨1000, l_lw84 t1 t2 hp 1000 1 1 w lit_1 (by omega) (by omega) hI h1 (fun j hj => by rw [show j = 0 by omega]; exact h2) (by omega)⟩
    · replace c := c_nle t2 t3 c
      exact ⟨1000, l_lw17 t1 t3 (by omega) (fun x3 w' q1 q2 q3 q4 => ih x3 (r + 1) w' q1 (by omega) q2 q3 q4 (by omega)) 1000 0 0 w lit_0 (by omega) hI h1 (fun c hc => absurd hc (by omega)) h2 (by omega)⟩
theorem sX11_layWays {post : Wd → Prop} {x1 : Int32} {z1 : Int} (t1 : Ti x1 z1) (hI : IM T W H P S M w) (hp : ∀ w' : Wd, IM T W H P S M w' → WN P (4 * H) P (w'.2.1 352) → (∀ j : Nat, j < 5 → WL (4 * H) (w'.2.1 351) (w'.2.1 352) j P) → post w') : pX11_layWays post x1 w := by
  unfold pX11_layWays
  have hk := im_k hI
  refine sX11_width (hI := hI) (hp := fun r zr tr p1 => ?_)
  obtain ⟨b, tb, fb⟩ := t_shlW hI tr
  replace fb := fb (by omega)
  have hb : b = P := fb.2.2.1 (by omega)
  intro x2_3 e2
  exact ⟨10000, l_lw9 t1 (by rw [e2, ← hb]; exact tb) hp 10000 0 0 w lit_0 (by omega) hI (fun r c h1 _ => absurd h1 (by omega)) (fun r h1 => absurd h1 (by omega)) (by omega)⟩
end WAX
