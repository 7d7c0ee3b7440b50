/-! ===== reading: the bank that is read (bn), what holds while it is ===== -/
def FG (w w9 : Wd) : Prop := w9.2.1 = w.2.1 ∧ ∀ f : Nat, f < 6 ∨ 9 < f → w9.1 300 f = w.1 300 f
theorem stG_FG (w : Wd) : StG (FG w) := ⟨fun w1 f v h1 h2 h => ⟨h.1, fun k hk => by rw [sI_ne (by omega)]; exact h.2 k hk⟩, fun w1 v h => h⟩
def RI (T W H P S M sz : Int) (s : Int → Int) (bn : Nat) (w : Wd) : Prop := IM T W H P S M w ∧ (w.1 300 3).toInt = sz ∧ (0 ≤ sz ∧ sz ≤ 1600) ∧ (∀ i : Int, 0 ≤ i → sg w i = s i) ∧ (bn < 2 ∧ (w.1 300 29).toInt = 1 - (bn : Int) ∧ (w.1 300 30).toInt = (bn : Int)) ∧ 0 ≤ (w.1 300 4).toInt ∧ GP sz s 0 w
section RIS
variable {T W H P S M sz : Int} {s : Int → Int} {bn : Nat} {w w9 : Wd}
theorem b0 {A B : Prop} (a : A) : ((0 : Int32) = 0 → A) ∧ (¬ (0 : Int32) = 0 → B) := ⟨fun _ => a, fun h => absurd rfl h⟩
theorem b1 {A B : Prop} (b : B) : ((1 : Int32) = 0 → A) ∧ (¬ (1 : Int32) = 0 → B) := ⟨fun h => absurd h (by decide), fun _ => b⟩
theorem b0n {A B : Prop} (b : B) : (¬ (0 : Int32) = 0 → A) ∧ ((0 : Int32) = 0 → B) := ⟨fun h => absurd rfl h, fun _ => b⟩
theorem b1n {A B : Prop} (a : A) : (¬ (1 : Int32) = 0 → A) ∧ ((1 : Int32) = 0 → B) := ⟨fun _ => a, fun h => absurd h (by decide)⟩
theorem ri_b (h : RI T W H P S M sz s bn w) : (w.1 300 30).toNatClampNeg = bn := by
  have := h.2.2.2.2.1.2.2
  rw [i_cl]; omega
theorem ri_bv (h : RI T W H P S M sz s bn w) : vp_in (w.1 300 30) 2 := by
  have := h.2.2.2.2.1
  exact vp_of (show Ti (w.1 300 30) bn from this.2.2) (by omega) (by omega)
theorem ri_bt (h : RI T W H P S M sz s bn w) : Ti (w.1 300 30) (bn : Int) := h.2.2.2.2.1.2.2
theorem gp_same (h : GP sz s 0 w) (e6 : w9.1 300 6 = w.1 300 6) (e7 : w9.1 300 7 = w.1 300 7) (e8 : w9.1 300 8 = w.1 300 8) (e10 : w9.2.2.1 300 10 = w.2.2.1 300 10) : GP sz s 0 w9 := by
  unfold GP
  rw [e6, e7, e8, e10]
  exact h
/-- goOn -/
theorem uX11_goOn {post : Wd → Prop} {e : Int} (hI : RI T W H P S M sz s bn w) (te : Ti (w.1 300 7) e) (hp : ∀ w9 : Wd, RI T W H P S M sz s bn w9 → GP sz s e w9 → FG w w9 → post w9) : pX11_goOn post w := by
  obtain ⟨h1, h2, h3, h4, h5, h6, a, e1, t, ta, te1, tt, g1, g2, g3, g4, g5⟩ := hI
  have ee := t_un te te1
  refine gX11_goOn (J := FG w) (E := e) ⟨h1, h2, h3, h4, ⟨rfl, fun _ _ => rfl⟩, stG_FG w⟩ te (by omega) (fun w9 i9 g9 => ?_)
  obtain ⟨k1, k2, k3, k4, k5, -⟩ := i9
  refine hp w9 ⟨k1, k2, k3, k4, by rw [k5.2 29 (by decide), k5.2 30 (by decide)]; exact h5, by rw [k5.2 4 (by decide)]; exact h6, ?_⟩ g9 k5
  obtain ⟨a9, e9, t9, q1, q2, q3, q4, q⟩ := g9
  exact ⟨a9, e9, t9, q1, q2, q3, by omega, q⟩
/-- ints beside the token -/
theorem ri_I {f : Nat} {v : Int32} (h : RI T W H P S M sz s bn w) (e : w9 = sI w 300 f v) (hf : 31 ≤ f ∧ f ≤ 34 ∨ f = 5) : RI T W H P S M sz s bn w9 := by
  obtain ⟨h1, h2, h3, h4, h5, h6, h7⟩ := h
  refine ⟨ims_n h1 e (by omega), by rw [e, sI_ne (by omega)]; exact h2, h3, by rw [e, sg_I (by omega)]; exact h4, by rw [e, sI_ne (by omega), sI_ne (by omega)]; exact h5, by rw [e, sI_ne (by omega)]; exact h6, gp_same h7 (by rw [e, sI_ne (by omega)]) (by rw [e, sI_ne (by omega)]) (by rw [e, sI_ne (by omega)]) (by rw [e]; rfl)⟩
theorem sg_A {o i : Nat} {v : Int32} (h : 302 ≠ o) : sg (sA w o i v) = sg w := by
  funext j
  unfold sg
  rw [sA_ne h]
  rfl
theorem ri_im {o i : Nat} {v : Int32} (h : RI T W H P S M sz s bn w) (e : w9 = sA w o i v) (ho : 302 ≠ o) (hm : IM T W H P S M w9) : RI T W H P S M sz s bn w9 := by
  obtain ⟨h1, h2, h3, h4, h5, h6, h7⟩ := h
  refine ⟨hm, by rw [e1_A e]; exact h2, h3, by rw [e, sg_A ho]; exact h4, by rw [e1_A e]; exact h5, by rw [e1_A e]; exact h6, gp_same h7 (by rw [e1_A e]) (by rw [e1_A e]) (by rw [e1_A e]) (by rw [e]; rfl)⟩
theorem ri_A {o i : Nat} {v : Int32} (h : RI T W H P S M sz s bn w) (e : w9 = sA w o i v) (ho : ¬ (o = 302 ∨ o = 312 ∨ o = 314 ∨ o = 319 ∨ o = 320 ∨ o = 325 ∨ o = 341 ∨ o = 342 ∨ o = 369 ∨ o = 368 ∨ o = 353 ∨ o = 354 ∨ o = 355 ∨ o = 321 ∨ o = 322)) : RI T W H P S M sz s bn w9 :=
  ri_im h e (by omega) (ims_A h.1 e (by omega))
theorem ri_B {o i : Nat} {v : Int64} (h : RI T W H P S M sz s bn w) (e : w9 = sB w o i v) : RI T W H P S M sz s bn w9 := by
  obtain ⟨h1, h2, h3, h4, h5, h6, h7⟩ := h
  refine ⟨ims_B h1 e, by rw [e1_B e]; exact h2, h3, by rw [e]; exact h4, by rw [e1_B e]; exact h5, by rw [e1_B e]; exact h6, gp_same h7 (by rw [e1_B e]) (by rw [e1_B e]) (by rw [e1_B e]) (by rw [e]; rfl)⟩
/-- arrays of both banks, written at the bank that is read -/
theorem im_gen (h : IM T W H P S M w) (e1 : w9.1 = w.1) (e2 : ∀ a, a = 341 ∨ a = 342 ∨ a = 369 ∨ a = 368 ∨ a = 353 ∨ a = 354 ∨ a = 355 → w9.2.1 a = w.2.1 a) (c8 : (w9.2.1 312 (w.1 300 29).toNatClampNeg) = (w.2.1 312 (w.1 300 29).toNatClampNeg)) (c9 : (w9.2.1 314 (w.1 300 29).toNatClampNeg) = (w.2.1 314 (w.1 300 29).toNatClampNeg)) (c10 : RO (w9.2.1 319) (w9.2.1 320) (w9.2.1 325) (w.1 300 29).toInt H) (c15 : ∀ i : Nat, w9.2.1 321 i = vp_nar .boolean (w9.2.1 321 i) ∧ w9.2.1 322 i = vp_nar .boolean (w9.2.1 322 i)) : IM T W H P S M w9 := by
  obtain ⟨m0, m1, m2, m3, m4, m5, m6, m7, m8, m9, m10, m11, m12, m13, m14, m15⟩ := h
  unfold IM
  rw [e1, e2 341 (by decide), e2 342 (by decide), e2 369 (by decide), e2 368 (by decide), e2 353 (by decide), e2 354 (by decide), e2 355 (by decide), c8, c9]
  exact ⟨m0, m1, m2, m3, m4, m5, m6, m7, m8, m9, c10, m11, m12, m13, m14, c15⟩
theorem im_ro (h : IM T W H P S M w) : RO (w.2.1 319) (w.2.1 320) (w.2.1 325) (w.1 300 29).toInt H := h.2.2.2.2.2.2.2.2.2.2.1
theorem im_nar (h : IM T W H P S M w) : ∀ i : Nat, w.2.1 321 i = vp_nar .boolean (w.2.1 321 i) ∧ w.2.1 322 i = vp_nar .boolean (w.2.1 322 i) := h.2.2.2.2.2.2.2.2.2.2.2.2.2.2.2
theorem ri_o (h : RI T W H P S M sz s bn w) : (w.1 300 29).toNatClampNeg ≠ bn := by
  have := h.2.2.2.2.1
  rw [i_cl]; omega
theorem ri_312 {v : Int32} (h : RI T W H P S M sz s bn w) (e : w9 = sA w 312 bn v) : RI T W H P S M sz s bn w9 :=
  ri_im h e (by decide) (im_gen h.1 (e1_A e) (fun a ha => by rw [e, sA_ne (by omega)]) (by rw [e, sA_nx (ri_o h)]) (by rw [e, sA_ne (by decide)]) (by rw [e, sA_ne (by decide), sA_ne (by decide), sA_ne (by decide)]; exact im_ro h.1) (by rw [e, sA_ne (by decide), sA_ne (by decide)]; exact im_nar h.1))
theorem ri_314 {v : Int32} (h : RI T W H P S M sz s bn w) (e : w9 = sA w 314 bn v) : RI T W H P S M sz s bn w9 :=
  ri_im h e (by decide) (im_gen h.1 (e1_A e) (fun a ha => by rw [e, sA_ne (by omega)]) (by rw [e, sA_ne (by decide)]) (by rw [e, sA_nx (ri_o h)]) (by rw [e, sA_ne (by decide), sA_ne (by decide), sA_ne (by decide)]; exact im_ro h.1) (by rw [e, sA_ne (by decide), sA_ne (by decide)]; exact im_nar h.1))
theorem ri_nar {o i : Nat} {v : Int32} (h : RI T W H P S M sz s bn w) (e : w9 = sA w o i v) (ho : o = 321 ∨ o = 322) (hv : v = vp_nar .boolean v) : RI T W H P S M sz s bn w9 := by
  refine ri_im h e (by omega) (im_gen h.1 (e1_A e) (fun a ha => by rw [e, sA_ne (by omega)]) (by rw [e, sA_ne (by omega)]) (by rw [e, sA_ne (by omega)]) (by rw [e, sA_ne (by omega), sA_ne (by omega), sA_ne (by omega)]; exact im_ro h.1) ?_)
  intro j
  have q := im_nar h.1 j
  rcases ho with ho | ho
  · subst ho
    refine ⟨?_, by rw [e, sA_ne (by decide)]; exact q.2⟩
    by_cases hj : j = i
    · subst hj; rw [e, sA_at]; exact hv
    · rw [e, sA_nx hj]; exact q.1
  · subst ho
    refine ⟨by rw [e, sA_ne (by decide)]; exact q.1, ?_⟩
    by_cases hj : j = i
    · subst hj; rw [e, sA_at]; exact hv
    · rw [e, sA_nx hj]; exact q.2
theorem px_cong {c c2 : Nat → Int32} {f t : Int} (h : PX c f t) (e : ∀ k : Nat, f ≤ (k : Int) → (k : Int) < t → c2 k = c k) : PX c2 f t := by
  obtain ⟨h1, h2, h3, g, h4, h5⟩ := h
  exact ⟨h1, h2, h3, g, h4, fun k k1 k2 => by rw [e k k1 k2]; exact h5 k k1 k2⟩
theorem ri_rule {o i : Nat} {v : Int32} (h : RI T W H P S M sz s bn w) (e : w9 = sA w o i v) (ho : o = 319 ∨ o = 320) (hi : 8 * bn ≤ i ∧ i < 8 * bn + 8) : RI T W H P S M sz s bn w9 := by
  have hb := h.2.2.2.2.1
  have hk := im_k h.1
  refine ri_im h e (by omega) (im_gen h.1 (e1_A e) (fun a ha => by rw [e, sA_ne (by omega)]) (by rw [e, sA_ne (by omega)]) (by rw [e, sA_ne (by omega)]) ?_ (by rw [e, sA_ne (by omega), sA_ne (by omega)]; exact im_nar h.1))
  intro r hr
  have q := im_ro h.1 r hr
  have e1 : w9.2.1 319 (8 * (w.1 300 29).toInt + r).toNat = w.2.1 319 (8 * (w.1 300 29).toInt + r).toNat := by
    rcases ho with ho | ho
    · subst ho; rw [e, sA_nx (by omega)]
    · subst ho; rw [e, sA_ne (by decide)]
  have e2 : w9.2.1 320 (8 * (w.1 300 29).toInt + r).toNat = w.2.1 320 (8 * (w.1 300 29).toInt + r).toNat := by
    rcases ho with ho | ho
    · subst ho; rw [e, sA_ne (by decide)]
    · subst ho; rw [e, sA_nx (by omega)]
  rw [e1, e2, show w9.2.1 325 = w.2.1 325 by rw [e, sA_ne (by omega)]]
  exact q
theorem ri_code {i : Nat} {v : Int32} (h : RI T W H P S M sz s bn w) (e : w9 = sA w 325 i v) (hi : 560 * bn ≤ i ∧ i < 560 * bn + 560) : RI T W H P S M sz s bn w9 := by
  have hb := h.2.2.2.2.1
  refine ri_im h e (by omega) (im_gen h.1 (e1_A e) (fun a ha => by rw [e, sA_ne (by omega)]) (by rw [e, sA_ne (by decide)]) (by rw [e, sA_ne (by decide)]) ?_ (by rw [e, sA_ne (by decide), sA_ne (by decide)]; exact im_nar h.1))
  intro r hr
  have q := im_ro h.1 r hr
  rw [e, sA_ne (show (319 : Nat) ≠ 325 by decide), sA_ne (show (320 : Nat) ≠ 325 by decide)]
  exact ⟨px_cong q.1 (fun k k1 k2 => sA_nx (by omega)), q.2⟩
/-- faults -/
def Bad (w : Wd) : Prop := ¬ w.1 300 4 = 0
theorem uX11_fails {post : Wd → Prop} {x1 x2 : Int32} {z1 : Int} (t1 : Ti x1 z1) (h0 : 0 < z1) (hI : RI T W H P S M sz s bn w) (hp : ∀ w9 : Wd, RI T W H P S M sz s bn w9 → Bad w9 → post w9) : pX11_fails post x1 x2 w := by
  unfold pX11_fails
  obtain ⟨z, t⟩ := t_any (w.1 300 4)
  refine ⟨fun c => ?_, fun c => ?_⟩
  · intro w_2 e2 w_3 e3
    have i2 : RI T W H P S M sz s bn w_2 := by
      obtain ⟨h1, h2, h3, h4, h5, h6, h7⟩ := hI
      refine ⟨ims_n h1 e2 (by omega), by rw [e2, sI_ne (by omega)]; exact h2, h3, by rw [e2, sg_I (by omega)]; exact h4, by rw [e2, sI_ne (by omega), sI_ne (by omega)]; exact h5, by rw [e2, sI_at, show x1.toInt = z1 from t1]; omega, gp_same h7 (by rw [e2, sI_ne (by omega)]) (by rw [e2, sI_ne (by omega)]) (by rw [e2, sI_ne (by omega)]) (by rw [e2]; rfl)⟩
    refine hp w_3 (ri_I i2 e3 (by omega)) ?_
    unfold Bad
    rw [e3, sI_ne (by omega), e2, sI_at]
    exact nz_of t1 (by omega)
  · replace c := c_nle t lit_0 c
    exact hp w hI (nz_of t (by omega))
theorem uX11_misplaced {post : Wd → Prop} (hI : RI T W H P S M sz s bn w) (hp : ∀ w9 : Wd, RI T W H P S M sz s bn w9 → Bad w9 → post w9) : pX11_misplaced post w := by
  unfold pX11_misplaced
  exact ⟨fun c => uX11_fails lit_2 (by omega) hI hp, fun c => uX11_fails lit_1 (by omega) hI hp⟩
/-- what a goOn brought: the place went on, the rest is as it was -/
def Gd (w w9 : Wd) : Prop := FG w w9 ∧ ∃ a e a9 : Int, Ti (w.1 300 6) a ∧ Ti (w.1 300 7) e ∧ Ti (w9.1 300 6) a9 ∧ a ≤ e ∧ e ≤ a9
theorem uX11_must {post : Wd → Prop} {x1 : Int32} (hI : RI T W H P S M sz s bn w) (hp : ∀ w9 : Wd, RI T W H P S M sz s bn w9 → (¬ Bad w9 → ¬ Bad w ∧ ¬ x1 = 0 ∧ Gd w w9) → post w9) : pX11_must post x1 w := by
  unfold pX11_must pX11_isGood
  refine ⟨fun c => b0n (hp w hI (fun q => absurd c q)), fun c => b1n ⟨fun d => uX11_misplaced hI (fun w9 i9 d9 => hp w9 i9 (fun q => absurd d9 q)), fun d => ?_⟩⟩
  obtain ⟨a, e, t, ta, te, tt, g1, g2, g3, g4, g5⟩ := hI.2.2.2.2.2.2
  refine uX11_goOn hI te (fun w9 i9 g9 f9 => hp w9 i9 (fun _ => ⟨fun q => q c, d, f9, ?_⟩))
  obtain ⟨a9, e9, t9, q1, q2, q3, q4, q⟩ := g9
  exact ⟨a, e, a9, ta, te, q1, g2, q4⟩
theorem gd_refl (hI : RI T W H P S M sz s bn w) : FG w w := ⟨rfl, fun _ _ => rfl⟩
/-- a number -/
def Gm (w w9 : Wd) : Prop := FG w w9 ∧ ∃ a a9 : Int, Ti (w.1 300 6) a ∧ Ti (w9.1 300 6) a9 ∧ a + 1 ≤ a9
theorem uX11_numeral_53 {post : Int32 → Wd → Prop} {x1 x2 : Int32} {z1 z2 : Int} (hI : RI T W H P S M sz s bn w) (hb : Bad w) (hp : ∀ (r : Int32) (w9 : Wd), RI T W H P S M sz s bn w9 → (¬ Bad w9 → ∃ zr : Int, Ti r zr ∧ z1 ≤ zr ∧ zr ≤ z2 ∧ ¬ Bad w ∧ Gm w w9) → post r w9) : pX11_numeral_53 post x1 w := by
  unfold pX11_numeral_53
  intro x3_1 e3
  refine ⟨fun c => b0 ⟨fun c2 => b0 (hp x1 w hI (fun q => absurd hb q)), fun c2 => absurd c2 c⟩, fun c => absurd c hb⟩
theorem uX11_numeral_44 {post : Int32 → Wd → Prop} {x1 x2 : Int32} {z1 z2 : Int} (hI : RI T W H P S M sz s bn w) (hp : ∀ (r : Int32) (w9 : Wd), RI T W H P S M sz s bn w9 → Bad w9 → post r w9) : pX11_numeral_44 post x1 w := by
  unfold pX11_numeral_44
  refine uX11_fails lit_4 (by omega) hI (fun w1 i1 d1 => ?_)
  unfold pX11_numeral_53
  intro x3_1 e3
  exact ⟨fun c => b0 ⟨fun c2 => b0 (hp x1 w1 i1 d1), fun c2 => absurd c2 c⟩, fun c => absurd c d1⟩
theorem uX11_numeral_21b {post : Int32 → Wd → Prop} {x1 x2 : Int32} (hI : RI T W H P S M sz s bn w) (hb : Bad w) (hp : ∀ (r : Int32) (w9 : Wd), RI T W H P S M sz s bn w9 → Bad w9 → post r w9) : pX11_numeral_21 post x1 x2 w := by
  unfold pX11_numeral_21
  refine ⟨fun c => b0 ?_, fun c => absurd c hb⟩
  unfold pX11_numeral_53
  intro x3_1 e3
  exact ⟨fun c => b0 ⟨fun c2 => b0 (hp x1 w hI hb), fun c2 => absurd c2 c⟩, fun c => absurd c hb⟩
theorem uX11_numeral {post : Int32 → Wd → Prop} {x1 x2 : Int32} {z1 z2 : Int} (t1 : Ti x1 z1) (t2 : Ti x2 z2) (hI : RI T W H P S M sz s bn w) (hp : ∀ (r : Int32) (w9 : Wd), RI T W H P S M sz s bn w9 → (¬ Bad w9 → ∃ zr : Int, Ti r zr ∧ z1 ≤ zr ∧ zr ≤ z2 ∧ ¬ Bad w ∧ Gm w w9) → post r w9) : pX11_numeral post x1 x2 w := by
  unfold pX11_numeral
  have hbad : ∀ (r : Int32) (w9 : Wd), RI T W H P S M sz s bn w9 → Bad w9 → post r w9 := fun r w9 i9 d9 => hp r w9 i9 (fun q => absurd d9 q)
  refine ⟨fun c => b0n (hbad x1 w hI c), fun c => b1n ⟨fun d => ?_, fun d => uX11_misplaced hI (fun w5 i5 d5 => uX11_numeral_21b i5 d5 hbad)⟩⟩
  unfold pX11_numeral_21
  refine ⟨fun c2 => absurd c c2, fun _ => b1 ?_⟩
  obtain ⟨zn, tn⟩ := t_any (w.1 300 9)
  refine ⟨fun c3 => uX11_numeral_44 (x2 := x2) (z1 := z1) (z2 := z2) hI hbad, fun c3 => ⟨fun c4 => ?_, fun c4 => uX11_numeral_44 (x2 := x2) (z1 := z1) (z2 := z2) hI hbad⟩⟩
  replace c3 := c_nlt tn t1 c3
  replace c4 := c_le tn t2 c4
  unfold pX11_numeral_53
  intro x3_1 e3
  refine ⟨fun c2 => absurd c c2, fun _ => b1 ?_⟩
  obtain ⟨a, e, t, ta, te, tt, g1, g2, g3, g4, g5⟩ := hI.2.2.2.2.2.2
  have h4 := c_eq tt lit_4 d
  refine uX11_goOn hI te (fun w9 i9 g9 f9 => ?_)
  have f4 : w9.1 300 4 = w.1 300 4 := f9.2 4 (by decide)
  refine ⟨fun c2 => absurd (f4.trans c) c2, fun _ => b1 (hp _ w9 i9 (fun _ => ⟨zn, by rw [e3]; exact tn, c3, c4, fun q => q c, f9, ?_⟩))⟩
  obtain ⟨a9, e9, t9, q1, q2, q3, q4, q⟩ := g9
  exact ⟨a, a9, ta, q1, by have := g4 (by omega); omega⟩
/-- words and signs -/
theorem lg_eq {a b : Int64} (h : lg_cmp a b = 0) : a = b := by
  unfold lg_cmp at h
  split at h
  · exact absurd h (by decide)
  · split at h
    · assumption
    · exact absurd h (by decide)
theorem uX11_isWord {post : Int32 → Wd → Prop} {x1 : Int64} (h0 : post 0 w) (h1 : w.1 300 8 = (3 : Int32) → w.2.2.1 300 10 = x1 → post 1 w) : pX11_isWord post x1 w := by
  unfold pX11_isWord
  exact ⟨fun _ => h0, fun c => ⟨fun _ => h0, fun d => h1 c (lg_eq d)⟩⟩
theorem ri_ig (hI : RI T W H P S M sz s bn w) : IG T W H P S M sz s (fun _ => True) w := ⟨hI.1, hI.2.1, hI.2.2.1, hI.2.2.2.1, trivial, fun _ _ _ _ _ _ => trivial, fun _ _ _ => trivial⟩
theorem uX11_isSignHere {post : Int32 → Wd → Prop} {x1 : Int32} {z1 a : Int} (t1 : Ti x1 z1) (ta : Ti (w.1 300 6) a) (ha : 0 ≤ a) (hI : RI T W H P S M sz s bn w) (h0 : post 0 w) (h1 : w.1 300 8 = (5 : Int32) → s a = z1 → post 1 w) : pX11_isSignHere post x1 w := by
  unfold pX11_isSignHere
  refine ⟨fun _ => h0, fun c => ?_⟩
  refine gX11_sign ta (ri_ig hI) ha (fun r zr tr q1 q2 q3 => ?_)
  exact ⟨fun _ => h0, fun d => h1 c (by have := c_eq tr t1 d; omega)⟩
end RIS
