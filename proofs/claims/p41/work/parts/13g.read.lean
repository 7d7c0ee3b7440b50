/-! ===== reading: lines, the whole chancery ===== -/
section R3
variable {T W H P S M sz : Int} {s : Int → Int} {bn : Nat} {w w9 : Wd} {hd A0 f0 : Int} {q : Nat}
theorem uX11_isFull {post : Int32 → Wd → Prop} (hI : RI T W H P S M sz s bn w) (h : ∀ r : Int32, (r = 0 → (w.2.2.1 300 10 = 469786323827 → (w.2.1 318 bn).toInt ≤ 0) ∧ (w.2.2.1 300 10 = 1751215716 → ¬ w.2.1 314 bn = (4 : Int32))) → post r w) : pX11_isFull post w := by
  unfold pX11_isFull
  have hb := ri_b hI
  have hv := ri_bv hI
  have no : ∀ c : Int64, c ≠ 469786323827 → c ≠ 1751215716 → w.2.2.1 300 10 = c → (w.2.2.1 300 10 = 469786323827 → (w.2.1 318 bn).toInt ≤ 0) ∧ (w.2.2.1 300 10 = 1751215716 → ¬ w.2.1 314 bn = (4 : Int32)) := fun c h1 h2 e => ⟨fun z => absurd (e.symm.trans z) h1, fun z => absurd (e.symm.trans z) h2⟩
  refine uX11_isWord (b0 ?_) (fun _ e => b1 ⟨hv, fun c => h 0 (fun _ => ⟨fun _ => ?_, fun z => absurd (e.symm.trans z) (by decide)⟩), fun _ => h 1 (fun z => absurd z (by decide))⟩)
  · refine uX11_isWord (b0 ?_) (fun _ e => b1 ⟨hv, (im_nar hI.1 _).1, h _ (fun _ => no _ (by decide) (by decide) e)⟩)
    refine uX11_isWord (b0 ?_) (fun _ e => b1 ⟨hv, fun c => h 0 (fun _ => ⟨fun z => absurd (e.symm.trans z) (by decide), fun _ => by rw [← hb]; exact c⟩), fun _ => h 1 (fun z => absurd z (by decide))⟩)
    refine uX11_isWord (b0 ?_) (fun _ e => b1 ⟨hv, (im_nar hI.1 _).2, h _ (fun _ => no _ (by decide) (by decide) e)⟩)
    exact uX11_isWord (b0 (h 1 (fun z => absurd z (by decide)))) (fun _ e => b1 ⟨hv, fun _ => h 0 (fun _ => no _ (by decide) (by decide) e), fun _ => h 1 (fun z => absurd z (by decide))⟩)
  · rw [hb] at c
    exact c_le (show Ti (w.2.1 318 bn) _ from rfl) lit_0 c
def BX (bn : Nat) (A0 : Int) (w : Wd) : Prop := ∃ hn : Nat, hn ≤ 4 ∧ BB bn (hn : Int) A0 (2 * hn) w
theorem bx_num {w5 w7 : Wd} (h : BX bn A0 w5) (g : Gm w5 w7) : BX bn A0 w7 := by
  obtain ⟨hn, h1, h2⟩ := h
  obtain ⟨hf, a, a9, ta, ta9, ha⟩ := g
  exact ⟨hn, h1, bb_fg h2 hf ta ta9 (by omega)⟩
theorem u_132 {post : Wd → Prop} {x1 : Int64} (hI : RI T W H P S M sz s bn w) (hB : ¬ Bad w → BX bn A0 w) (hp : ∀ w9 : Wd, RI T W H P S M sz s bn w9 → (¬ Bad w9 → BX bn A0 w9) → post w9) : pX11_readLine_132 post x1 w := by
  unfold pX11_readLine_132
  have fin : ∀ w' : Wd, RI T W H P S M sz s bn w' → (¬ Bad w' → BX bn A0 w') → pX11_isSignHere (fun r_2 w_3 => pX11_must (fun w_4 => post w_4) r_2 w_3) (59 : Int32) w' := by
    intro w' i' h'
    have k : ∀ r : Int32, pX11_must (fun w_4 => post w_4) r w' := fun r => uX11_must i' (fun w4 i4 g4 => hp w4 i4 (fun nb4 => by
      obtain ⟨nb, -, hf, a, e, a9, ta, te, ta9, y1, y2⟩ := g4 nb4
      obtain ⟨hn, h1, h2⟩ := h' nb
      exact ⟨hn, h1, bb_fg h2 hf ta ta9 (by omega)⟩))
    obtain ⟨a, e, t, ta, te, tt, y1, y2, y3, y4⟩ := ri_at i'
    exact uX11_isSignHere lit_59 ta y1 i' (k 0) (fun _ _ => k 1)
  refine ⟨fun _ => fin w hI hB, fun _ => ⟨ri_bv hI, ?_⟩⟩
  rw [ri_b hI]
  intro w_5 e5
  have i5 := ri_A hI e5 (by decide)
  refine uX11_numeral lit_0 lit_999 i5 (fun r6 w_7 i7 h7 => ⟨ri_bv i5, ?_⟩)
  rw [ri_b i5]
  intro w_8 e8
  refine fin w_8 (ri_A i7 e8 (by decide)) (fun nb8 => ?_)
  obtain ⟨zr, tr, -, -, nb5, g⟩ := h7 (bad_1 (e1_A e8) nb8)
  obtain ⟨hn, h1, h2⟩ := hB (bad_1 (e1_A e5) nb5)
  obtain ⟨hn2, k1, k2⟩ := bx_num ⟨hn, h1, bb_A h2 e5 (by omega)⟩ g
  exact ⟨hn2, k1, bb_A k2 e8 (by omega)⟩
theorem u_97 {post : Wd → Prop} {x1 : Int64} (hI : RI T W H P S M sz s bn w) (hB : ¬ Bad w → BX bn A0 w) (hp : ∀ w9 : Wd, RI T W H P S M sz s bn w9 → (¬ Bad w9 → BX bn A0 w9) → post w9) : pX11_readLine_97 post x1 w := by
  unfold pX11_readLine_97
  refine ⟨fun _ => u_132 hI hB hp, fun _ => ⟨ri_bv hI, ?_⟩⟩
  rw [ri_b hI]
  intro w_5 e5
  have i5 := ri_nar hI e5 (by omega) (by decide)
  refine uX11_numeral lit_0 lit_999 i5 (fun r6 w_7 i7 h7 => ⟨ri_bv i5, ?_⟩)
  rw [ri_b i5]
  intro w_8 e8
  refine u_132 (ri_A i7 e8 (by decide)) (fun nb8 => ?_) hp
  obtain ⟨zr, tr, -, -, nb5, g⟩ := h7 (bad_1 (e1_A e8) nb8)
  obtain ⟨hn, h1, h2⟩ := hB (bad_1 (e1_A e5) nb5)
  obtain ⟨hn2, k1, k2⟩ := bx_num ⟨hn, h1, bb_A h2 e5 (by omega)⟩ g
  exact ⟨hn2, k1, bb_A k2 e8 (by omega)⟩
theorem u_85 {post : Wd → Prop} {x1 : Int64} (hI : RI T W H P S M sz s bn w) (hB : ¬ Bad w → BX bn A0 w) (hG : x1 = 1751215716 → ¬ Bad w ∧ ¬ w.2.1 314 bn = (4 : Int32)) (hp : ∀ w9 : Wd, RI T W H P S M sz s bn w9 → (¬ Bad w9 → BX bn A0 w9) → post w9) : pX11_readLine_85 post x1 w := by
  unfold pX11_readLine_85
  refine ⟨fun _ => u_97 hI hB hp, fun c => ?_⟩
  obtain ⟨nb, h4⟩ := hG (lg_eq c)
  obtain ⟨hn, h1, h2⟩ := hB nb
  have tk := bb_hd h2
  have hne := c_neq tk.1 lit_4 h4
  refine uX11_readHand (hn := hn) hI (fun _ => ⟨h2, by omega⟩) nb (fun w2 i2 k2 => u_97 i2 (fun nb2 => ⟨hn + 1, by omega, ?_⟩) hp)
  have := k2 nb2
  rw [show ((hn + 1 : Nat) : Int) = (hn : Int) + 1 by omega, show 2 * (hn + 1) = 2 * hn + 2 by omega]
  exact this
theorem u_73 {post : Wd → Prop} {x1 : Int64} (hI : RI T W H P S M sz s bn w) (hB : ¬ Bad w → ∃ hn : Nat, hn ≤ 4 ∧ BF bn (hn : Int) A0 (2 * hn) w) (hG : x1 = 1751215716 → ¬ Bad w ∧ ¬ w.2.1 314 bn = (4 : Int32)) (hp : ∀ w9 : Wd, RI T W H P S M sz s bn w9 → (¬ Bad w9 → BX bn A0 w9) → post w9) : pX11_readLine_73 post x1 w := by
  unfold pX11_readLine_73
  refine ⟨fun _ => u_85 hI (fun nb => by obtain ⟨hn, h1, h2⟩ := hB nb; exact ⟨hn, h1, h2.1⟩) hG hp, fun c => ?_⟩
  have hx := lg_eq c
  have hne : ¬ x1 = 1751215716 := fun z => absurd (hx.symm.trans z) (by decide)
  by_cases nb : Bad w
  · exact uX11_readFirst (hd := ((0 : Nat) : Int)) (A0 := A0) (q := 2 * 0) hI (fun z => absurd nb z) (fun w2 i2 k2 => u_85 i2 (fun nb2 => ⟨0, by omega, (k2 nb2).1⟩) (fun z => absurd z hne) hp)
  · obtain ⟨hn, h1, h2⟩ := hB nb
    exact uX11_readFirst hI (fun _ => h2) (fun w2 i2 k2 => u_85 i2 (fun nb2 => ⟨hn, h1, (k2 nb2).1⟩) (fun z => absurd z hne) hp)
theorem bb_re {A1 : Int} (h : BB bn hd A1 q w) (hA : ∀ a : Int, Ti (w.1 300 6) a → A0 ≤ a) : BB bn hd A0 q w := by
  obtain ⟨cd, u, a, k1, k2, k3, k4, k5, k6, g1, g2, g3, g4, g5, g6⟩ := h
  exact ⟨cd, u, a, k1, k2, k3, k4, k5, k6, g1, g2, g3, g4, ⟨g5.1, g5.2.1, hA _ rfl⟩, g6⟩
set_option maxHeartbeats 4000000 in
theorem u_24 {post : Wd → Prop} {x1 : Int64} {a0 A1 : Int} (hI : RI T W H P S M sz s bn w) (ta0 : Ti (w.1 300 6) a0) (hB : ¬ Bad w → w.1 300 8 = (3 : Int32) ∧ BX bn A1 w ∧ (x1 = 469786323827 → (w.2.1 318 bn).toInt ≤ 0) ∧ (x1 = 1751215716 → ¬ w.2.1 314 bn = (4 : Int32))) (hp : ∀ w9 : Wd, RI T W H P S M sz s bn w9 → (¬ Bad w9 → BX bn (a0 + 1) w9) → post w9) : pX11_readLine_24 post x1 w := by
  unfold pX11_readLine_24
  refine ⟨fun c => b0n (hp w hI (fun z => absurd c z)), fun c => b1n ?_⟩
  have nb : ¬ Bad w := fun z => z c
  obtain ⟨t3, ⟨hn, hn4, hBB⟩, hM, hH⟩ := hB nb
  obtain ⟨a, e, t, ta, te, tt, y1, y2, y3, y4⟩ := ri_at hI
  have et := c_eq tt lit_3 t3
  have ea := t_un ta ta0
  subst ea
  refine uX11_goOn hI te (fun w_4 i4 g4 f4 => ?_)
  obtain ⟨a4, e4, t4, ta4, te4, tt4, z1, -⟩ := g4
  have ha4 : a + 1 ≤ a4 := by have := y4 (by omega); omega
  have nb4 := bad_fg f4 nb
  have hB4 : BB bn (hn : Int) (a + 1) (2 * hn) w_4 := bb_re (bb_fg hBB f4 ta ta4 (by omega)) (fun a9 ta9 => by have := t_un ta9 ta4; omega)
  refine ⟨ri_bv i4, ri_bv i4, ?_⟩
  rw [ri_b i4]
  intro w_5 e5
  have i5 := ri_A i4 e5 (by decide)
  have f5 : w_5.1 = w_4.1 := e1_A e5
  have nb5 : ¬ Bad w_5 := fun z => nb4 (fun y => z (by rw [f5]; exact y))
  have ar : ∀ o : Nat, o ≠ 318 → w_5.2.1 o = w_4.2.1 o := fun o ho => by rw [e5, sA_ne ho]
  obtain ⟨cd0, u0, a00, -, -, kk6, -, -, -, -, -, -, gl4, gl5, -⟩ := hBB
  have ea00 := t_un kk6 ta
  obtain ⟨l, tl⟩ := t_any (w_4.2.1 318 bn)
  have el : (w.2.1 318 bn).toInt = l := by rw [← f4.1]; exact tl
  have e6w : (w.1 300 6).toInt = a := ta
  rw [el, e6w] at gl5
  obtain ⟨l1, tl1, fl1⟩ := t_add tl lit_1
  replace fl1 := fl1 (by have := hI.2.2.1; omega)
  have L5 : (w_5.2.1 318 bn).toInt = l + 1 := by rw [e5, sA_at, ← fl1]; exact tl1
  have hF5 : BF bn (hn : Int) (a + 1) (2 * hn) w_5 := by
    obtain ⟨cd, u, a9, k1, k2, k3, k4, k5, k6, g1, g2, g3, g4, g5, g6⟩ := hB4
    have e64 : (w_4.1 300 6).toInt = a4 := ta4
    rw [e64] at g5
    refine ⟨⟨cd, u, a9, by rw [f5]; exact k1, by rw [ar 315 (by decide)]; exact k2, by rw [f5]; exact k3, k4, k5, k6, ?_⟩, by rw [L5]; omega⟩
    unfold BS
    rw [ar 312 (by decide), ar 313 (by decide), ar 314 (by decide), ar 319 (by decide), ar 320 (by decide), ar 325 (by decide), f5, L5, e64]
    exact ⟨g1, g2, g3, fun z => absurd z (by omega), ⟨by omega, by omega, by omega⟩, g6⟩
  refine ⟨fun cm => u_73 i5 (fun _ => ⟨hn, hn4, hF5⟩) (fun z => ⟨nb5, by rw [ar 314 (by decide), f4.1]; exact hH z⟩) hp, fun cm => ?_⟩
  have hx := lg_eq cm
  have hne : ¬ x1 = 1751215716 := fun z => absurd (hx.symm.trans z) (by decide)
  have hfirst : (w.2.1 313 bn).toInt = 0 := gl4 (hM hx)
  refine uX11_numeral lit_1 lit_12 i5 (fun r7 w_8 i8 h8 => ⟨ri_bv i5, ?_⟩)
  rw [ri_b i5]
  intro w_9 e9
  have i9 := ri_312 i8 e9
  refine u_73 i9 (fun nb9 => ⟨hn, hn4, ?_⟩) (fun z => absurd z hne) hp
  obtain ⟨zr, tr, r1, r2, -, hf, b1, b2, tb1, tb2, hb⟩ := h8 (bad_1 (e1_A e9) nb9)
  have hB8 := bb_fg hF5.1 hf tb1 tb2 (by omega)
  obtain ⟨cd, u, a9, k1, k2, k3, k4, k5, k6, g1, g2, g3, g4, g5, g6⟩ := hB8
  have ar9 : ∀ o : Nat, o ≠ 312 → w_9.2.1 o = w_8.2.1 o := fun o ho => by rw [e9, sA_ne ho]
  have f9 : w_9.1 = w_8.1 := e1_A e9
  have fr : (w_8.2.1 313 bn).toInt = 0 := by rw [hf.1, ar 313 (by decide), f4.1]; exact hfirst
  refine ⟨⟨cd, u, a9, by rw [f9]; exact k1, by rw [ar9 315 (by decide)]; exact k2, by rw [f9]; exact k3, k4, k5, k6, ?_⟩, by rw [ar9 318 (by decide), hf.1, L5]; omega⟩
  unfold BS
  rw [ar9 313 (by decide), ar9 314 (by decide), ar9 318 (by decide), ar9 319 (by decide), ar9 320 (by decide), ar9 325 (by decide), f9, e9, sA_at, fr]
  refine ⟨Rg.m tr r1 r2, g2, ⟨Int.le_refl _, ?_⟩, fun _ => rfl, g5, g6⟩
  rw [show r7.toInt = zr from tr]
  have := pw_rng zr.toNat (by omega)
  omega
theorem uX11_readLine {post : Wd → Prop} {a0 A1 : Int} (hI : RI T W H P S M sz s bn w) (ta0 : Ti (w.1 300 6) a0) (hB : ¬ Bad w → BX bn A1 w) (hp : ∀ w9 : Wd, RI T W H P S M sz s bn w9 → (¬ Bad w9 → BX bn (a0 + 1) w9) → post w9) : pX11_readLine post w := by
  unfold pX11_readLine
  intro x1_1 q1
  have l20 : pX11_readLine_20 post x1_1 w := by
    unfold pX11_readLine_20
    refine uX11_misplaced hI (fun w1 i1 d1 => ?_)
    unfold pX11_readLine_24
    exact ⟨fun c => b0n (hp w1 i1 (fun z => absurd d1 z)), fun c => absurd c d1⟩
  refine ⟨fun _ => l20, fun c => ?_⟩
  refine uX11_isFull hI (fun r hr => ⟨fun c3 => ?_, fun _ => l20⟩)
  have k := hr c3
  rw [← q1] at k
  exact u_24 hI ta0 (fun nb => ⟨c, hB nb, k.1, k.2⟩) hp
/-! a new start -/
theorem im_w312 {i : Nat} {v : Int32} (h : IM T W H P S M w) (e : w9 = sA w 312 i v) (hi : (w.1 300 29).toNatClampNeg ≠ i) : IM T W H P S M w9 :=
  im_gen h (e1_A e) (fun a ha => by rw [e, sA_ne (by omega)]) (by rw [e, sA_nx hi]) (by rw [e, sA_ne (by decide)]) (by rw [e, sA_ne (by decide), sA_ne (by decide), sA_ne (by decide)]; exact im_ro h) (by rw [e, sA_ne (by decide), sA_ne (by decide)]; exact im_nar h)
theorem im_w314 {i : Nat} {v : Int32} (h : IM T W H P S M w) (e : w9 = sA w 314 i v) (hi : (w.1 300 29).toNatClampNeg ≠ i) : IM T W H P S M w9 :=
  im_gen h (e1_A e) (fun a ha => by rw [e, sA_ne (by omega)]) (by rw [e, sA_ne (by decide)]) (by rw [e, sA_nx hi]) (by rw [e, sA_ne (by decide), sA_ne (by decide), sA_ne (by decide)]; exact im_ro h) (by rw [e, sA_ne (by decide), sA_ne (by decide)]; exact im_nar h)
theorem im_wnar {o i : Nat} {v : Int32} (h : IM T W H P S M w) (e : w9 = sA w o i v) (ho : o = 321 ∨ o = 322) (hv : v = vp_nar .boolean v) : IM T W H P S M w9 := by
  refine im_gen h (e1_A e) (fun a ha => by rw [e, sA_ne (by omega)]) (by rw [e, sA_ne (by omega)]) (by rw [e, sA_ne (by omega)]) (by rw [e, sA_ne (by omega), sA_ne (by omega), sA_ne (by omega)]; exact im_ro h) ?_
  intro j
  have q := im_nar h j
  rcases ho with ho | ho
  · subst ho
    refine ⟨?_, by rw [e, sA_ne (by decide)]; exact q.2⟩
    by_cases hj : j = i
    · subst hj; rw [e, sA_at]; exact hv
    · rw [e, sA_nx hj]; exact q.1
  · subst ho
    refine ⟨by rw [e, sA_ne (by decide)]; exact q.1, ?_⟩
    by_cases hj : j = i
    · subst hj; rw [e, sA_at]; exact hv
    · rw [e, sA_nx hj]; exact q.2
set_option maxHeartbeats 4000000 in
theorem uX11_clearBank {post : Wd → Prop} (hI : IM T W H P S M w) (tb : Ti (w.1 300 30) (bn : Int)) (hb : bn < 2) (ho : (w.1 300 29).toNatClampNeg ≠ bn) (hp : ∀ w9 : Wd, IM T W H P S M w9 → (∀ f, f ≠ 31 → w9.1 300 f = w.1 300 f) → Ti (w9.1 300 31) (560 * (bn : Int)) → w9.2.1 312 bn = 8 → w9.2.1 313 bn = 0 → w9.2.1 314 bn = 0 → w9.2.1 315 bn = 0 → w9.2.1 318 bn = 0 → w9.2.1 302 = w.2.1 302 → post w9) : pX11_clearBank post w := by
  unfold pX11_clearBank
  have eb : (w.1 300 30).toNatClampNeg = bn := by have := i_cz tb; omega
  have vb : vp_in (w.1 300 30) 2 := vp_of tb (by omega) (by omega)
  refine ⟨vb, ?_⟩
  intro w_1 e1
  have a1 : w_1.1 = w.1 := e1_A e1
  rw [eb] at e1
  have i1 := im_w312 hI e1 ho
  refine ⟨by rw [a1]; exact vb, ?_⟩
  intro w_2 e2
  have a2 : w_2.1 = w.1 := (e1_A e2).trans a1
  rw [a1, eb] at e2
  have i2 := ims_A i1 e2 (by decide)
  refine ⟨by rw [a2]; exact vb, ?_⟩
  intro w_3 e3
  have a3 : w_3.1 = w.1 := (e1_A e3).trans a2
  rw [a2, eb] at e3
  have i3 := im_w314 i2 e3 (by rw [a2]; exact ho)
  refine ⟨by rw [a3]; exact vb, ?_⟩
  intro w_4 e4
  have a4 : w_4.1 = w.1 := (e1_A e4).trans a3
  rw [a3, eb] at e4
  have i4 := ims_A i3 e4 (by decide)
  refine ⟨by rw [a4]; exact vb, ?_⟩
  intro w_5 e5
  have a5 : w_5.1 = w.1 := (e1_A e5).trans a4
  rw [a4, eb] at e5
  have i5 := ims_A i4 e5 (by decide)
  refine ⟨by rw [a5]; exact vb, ?_⟩
  intro w_6 e6
  have a6 : w_6.1 = w.1 := (e1_A e6).trans a5
  rw [a5, eb] at e6
  have i6 := ims_A i5 e6 (by decide)
  refine ⟨by rw [a6]; exact vb, ?_⟩
  intro w_7 e7
  have a7 : w_7.1 = w.1 := (e1_A e7).trans a6
  rw [a6, eb] at e7
  have i7 := ims_A i6 e7 (by decide)
  refine ⟨by rw [a7]; exact vb, ?_⟩
  intro w_8 e8
  have a8 : w_8.1 = w.1 := (e1_A e8).trans a7
  rw [a7, eb] at e8
  have i8 := im_wnar i7 e8 (by omega) (by decide)
  refine ⟨by rw [a8]; exact vb, ?_⟩
  intro w_9 e9
  have a9 : w_9.1 = w.1 := (e1_A e9).trans a8
  rw [a8, eb] at e9
  have i9 := im_wnar i8 e9 (by omega) (by decide)
  refine ⟨by rw [a9]; exact vb, ?_⟩
  intro w_10 e10
  have a10 : w_10.1 = w.1 := (e1_A e10).trans a9
  rw [a9, eb] at e10
  have i10 := ims_A i9 e10 (by decide)
  intro w_11 e11
  rw [a10] at e11
  have i11 := ims_n i10 e11 (by decide)
  obtain ⟨z, tz, fz⟩ := t_mul lit_560 tb
  replace fz := fz (by omega)
  have b11 : w_11.2.1 = w_10.2.1 := e2_I e11
  refine hp w_11 i11 (fun f hf => by rw [e11, sI_ne (by omega), a10]) (by rw [e11, sI_at, ← fz]; exact tz) ?_ ?_ ?_ ?_ ?_ ?_
  · rw [b11, e10, sA_ne (by decide), e9, sA_ne (by decide), e8, sA_ne (by decide), e7, sA_ne (by decide), e6, sA_ne (by decide), e5, sA_ne (by decide), e4, sA_ne (by decide), e3, sA_ne (by decide), e2, sA_ne (by decide), e1, sA_at]
  · rw [b11, e10, sA_ne (by decide), e9, sA_ne (by decide), e8, sA_ne (by decide), e7, sA_ne (by decide), e6, sA_ne (by decide), e5, sA_ne (by decide), e4, sA_ne (by decide), e3, sA_ne (by decide), e2, sA_at]
  · rw [b11, e10, sA_ne (by decide), e9, sA_ne (by decide), e8, sA_ne (by decide), e7, sA_ne (by decide), e6, sA_ne (by decide), e5, sA_ne (by decide), e4, sA_ne (by decide), e3, sA_at]
  · rw [b11, e10, sA_ne (by decide), e9, sA_ne (by decide), e8, sA_ne (by decide), e7, sA_ne (by decide), e6, sA_ne (by decide), e5, sA_ne (by decide), e4, sA_at]
  · rw [b11, e10, sA_ne (by decide), e9, sA_ne (by decide), e8, sA_ne (by decide), e7, sA_at]
  · rw [b11, e10, sA_ne (by decide), e9, sA_ne (by decide), e8, sA_ne (by decide), e7, sA_ne (by decide), e6, sA_ne (by decide), e5, sA_ne (by decide), e4, sA_ne (by decide), e3, sA_ne (by decide), e2, sA_ne (by decide), e1, sA_ne (by decide)]
/-- what a new start needs -/
def SA (T W H P M : Int) (w : Wd) : Prop := (1 ≤ W ∧ W ≤ 12 ∧ 0 ≤ H ∧ H ≤ 4 ∧ P = 2 ^ W.toNat) ∧ Rg (w.1 300 2) 0 1600 ∧ Rg (w.1 300 29) 0 1 ∧ (w.1 300 59).toInt = T ∧ ((w.1 300 63).toInt = M ∧ 0 ≤ M ∧ M ≤ 7) ∧ (w.2.1 312 (w.1 300 29).toNatClampNeg).toInt = W ∧ (w.2.1 314 (w.1 300 29).toNatClampNeg).toInt = H ∧ RO (w.2.1 319) (w.2.1 320) (w.2.1 325) (w.1 300 29).toInt H ∧ Rg (w.2.1 313 (w.1 300 29).toNatClampNeg) 0 (P - 1) ∧ (∀ i : Nat, w.2.1 321 i = vp_nar .boolean (w.2.1 321 i) ∧ w.2.1 322 i = vp_nar .boolean (w.2.1 322 i))
theorem l_sa116 {post : Wd → Prop} {w0 : Wd} (hp : ∀ w9 : Wd, w9.1 = w0.1 → (∀ o, o ≠ 369 → w9.2.1 o = w0.2.1 o) → (∀ b : Nat, b < 3 → w9.2.1 369 b = 0) → post w9) : ∀ (n : Nat) (x1 : Int32) (z : Int) (w : Wd), Ti x1 z → (0 ≤ z ∧ z ≤ 3) → w.1 = w0.1 → (∀ o, o ≠ 369 → w.2.1 o = w0.2.1 o) → (∀ b : Nat, (b : Int) < z → w.2.1 369 b = 0) → 4 - z < (n : Int) → pX11_startAnew_116 post n x1 w := by
  intro n
  induction n with
  | zero => intro x1 z w t h0 h1 h2 h3 hm; exact absurd hm (by omega)
  | succ n ih =>
    intro x1 z w t h0 h1 h2 h3 hm
    unfold pX11_startAnew_116
    refine ⟨fun c => ?_, fun c => ?_⟩
    · replace c := c_le lit_3 t c
      exact hp w h1 h2 (fun b hb => h3 b (by omega))
    · replace c := c_nle lit_3 t c
      have e := i_cz t
      obtain ⟨z3, t3, f3⟩ := t_add t lit_1
      replace f3 := f3 (by omega)
      refine ⟨vp_of t (by omega) (by omega), ?_⟩
      intro w_2 e2 x1_3 e3
      refine ih x1_3 z3 w_2 (by rw [e3]; exact t3) (by omega) ((e1_A e2).trans h1) (fun o ho => by rw [e2, sA_ne ho]; exact h2 o ho) (fun b hb => ?_) (by omega)
      by_cases hq : (b : Int) < z
      · rw [e2, sA_nx (by omega)]; exact h3 b hq
      · rw [show b = x1.toNatClampNeg by omega, e2, sA_at]; decide
set_option maxHeartbeats 4000000 in
theorem l_sa2 {post : Wd → Prop} {w0 : Wd} (hS : SA T W H P M w0) (hp : ∀ w9 : Wd, IM T W H P 1 M w9 → post w9) : ∀ (n : Nat) (x1 : Int32) (z : Int) (w : Wd), Ti x1 z → (0 ≤ z ∧ z ≤ 221) → w.1 = w0.1 → (∀ o, o ≠ 341 → w.2.1 o = w0.2.1 o) → (∀ k : Nat, (k : Int) < z → w.2.1 341 k = 0) → 222 - z < (n : Int) → pX11_startAnew_2 post n x1 w := by
  intro n
  induction n with
  | zero => intro x1 z w t h0 h1 h2 h3 hm; exact absurd hm (by omega)
  | succ n ih =>
    intro x1 z w t h0 h1 h2 h3 hm
    unfold pX11_startAnew_2
    refine ⟨fun c => ?_, fun c => ?_⟩
    · replace c := c_le lit_221 t c
      obtain ⟨m0, m1, m2, m5, m6, m8, m9, m10, mf, m15⟩ := hS
      obtain ⟨zb, tb⟩ := t_any (w0.1 300 29)
      have fb := Rg.g m2 tb
      have vb : vp_in (w0.1 300 29) 2 := vp_of tb (by omega) (by omega)
      refine ⟨by rw [h1]; exact vb, ?_⟩
      rw [h1, h2 313 (by decide)]
      intro w_2 e2 w_3 e3 w_4 e4 w_5 e5
      have a5 : w_5.1 = w0.1 := (e1_A e5).trans ((e1_A e4).trans ((e1_A e3).trans ((e1_A e2).trans h1)))
      refine ⟨by rw [a5]; exact vb, ?_⟩
      intro w_6 e6
      have a6 : w_6.1 = w0.1 := (e1_A e6).trans a5
      refine ⟨by rw [a6]; exact vb, ?_⟩
      intro w_7 e7 w_8 e8 w_9 e9 w_10 e10 w_11 e11
      have a7 : w_7.1 = w0.1 := (e1_A e7).trans a6
      have b11 : w_11.2.1 = w_7.2.1 := (e2_I e11).trans ((e2_I e10).trans ((e2_I e9).trans (e2_I e8)))
      refine ⟨1000, l_sa116 (w0 := w_11) (fun w9 q1 q2 q3 => hp w9 ?_) 1000 0 0 w_11 lit_0 (by omega) rfl (fun _ _ => rfl) (fun b hb => absurd hb (by omega)) (by omega)⟩
      have v : ∀ f : Nat, f ≠ 42 → f ≠ 43 → f ≠ 58 → f ≠ 48 → w9.1 300 f = w0.1 300 f := fun f h42 h43 h58 h48 => by rw [q1, e11, sI_ne (by omega), e10, sI_ne (by omega), e9, sI_ne (by omega), e8, sI_ne (by omega), a7]
      have s42 : w9.1 300 42 = 0 := by rw [q1, e11, sI_ne (by omega), e10, sI_ne (by omega), e9, sI_ne (by omega), e8, sI_at]
      have s43 : w9.1 300 43 = 0 := by rw [q1, e11, sI_ne (by omega), e10, sI_ne (by omega), e9, sI_at]
      have s58 : w9.1 300 58 = 0 := by rw [q1, e11, sI_ne (by omega), e10, sI_at]
      have s48 : w9.1 300 48 = 0 := by rw [q1, e11, sI_at]
      have ar : ∀ o : Nat, o ≠ 341 → o ≠ 369 → w9.2.1 o = w0.2.1 o := fun o h341 h369 => by rw [q2 o h369, b11, e7, sA_ne h341, e6, sA_ne h341, e5, sA_ne h341, e4, sA_ne h341, e3, sA_ne h341, e2, sA_ne h341, h2 o h341]
      have n0 : (0 : Int32).toNatClampNeg = 0 := by decide
      have n1 : (1 : Int32).toNatClampNeg = 1 := by decide
      have n2 : (2 : Int32).toNatClampNeg = 2 := by decide
      have n216 : (216 : Int32).toNatClampNeg = 216 := by decide
      have n218 : (218 : Int32).toNatClampNeg = 218 := by decide
      have n220 : (220 : Int32).toNatClampNeg = 220 := by decide
      rw [n0] at e2
      rw [n1] at e3
      rw [n2] at e4
      rw [n216] at e5
      rw [n218] at e6
      rw [n220] at e7
      have c216 : w9.2.1 341 216 = 1 := by rw [q2 341 (by decide), b11, e7, sA_nx (by decide), e6, sA_nx (by decide), e5, sA_at]
      have c217 : w9.2.1 341 217 = 0 := by rw [q2 341 (by decide), b11, e7, sA_nx (by decide), e6, sA_nx (by decide), e5, sA_nx (by decide), e4, sA_nx (by decide), e3, sA_nx (by decide), e2, sA_nx (by decide)]; exact h3 217 (by omega)
      have c0 : w9.2.1 341 0 = w0.2.1 313 (w0.1 300 29).toNatClampNeg := by rw [q2 341 (by decide), b11, e7, sA_nx (by decide), e6, sA_nx (by decide), e5, sA_nx (by decide), e4, sA_nx (by decide), e3, sA_nx (by decide), e2, sA_at]
      unfold IM
      rw [v 2 (by decide) (by decide) (by decide) (by decide), v 29 (by decide) (by decide) (by decide) (by decide), v 59 (by decide) (by decide) (by decide) (by decide), v 63 (by decide) (by decide) (by decide) (by decide), s42, s43, s58, s48, ar 312 (by decide) (by decide), ar 314 (by decide) (by decide), ar 319 (by decide) (by decide), ar 320 (by decide) (by decide), ar 325 (by decide) (by decide), ar 321 (by decide) (by decide), ar 322 (by decide) (by decide)]
      have zz : (0 : Int32).toInt = 0 := rfl
      refine ⟨m0, m1, m2, ⟨by decide, by decide⟩, ⟨by decide, by decide⟩, m5, m6, ⟨by decide, by decide, by decide⟩, m8, m9, m10, ⟨⟨?_, ?_, ?_⟩, by rw [c216]; rfl⟩, fun j hj => absurd hj (by omega), fun b hb hz => absurd (q3 b hb) hz, fun n hn => absurd hn (by omega), m15⟩
      · rw [show 0 + 216 = 216 from rfl, c216]; exact ⟨by decide, by decide⟩
      · rw [show 0 + 217 = 217 from rfl, c217]; exact ⟨by decide, by decide⟩
      · intro k hk
        rw [show 0 + 216 = 216 from rfl, c216] at hk
        have h1 : (1 : Int32).toInt = 1 := rfl
        have hk0 : k = 0 := by omega
        subst hk0
        refine ⟨?_, fun h => absurd h (by omega)⟩
        rw [show 0 + 4 * 0 = 0 from rfl, c0]
        exact mf
    · replace c := c_nle lit_221 t c
      have e := i_cz t
      obtain ⟨z3, t3, f3⟩ := t_add t lit_1
      replace f3 := f3 (by omega)
      refine ⟨vp_of t (by omega) (by omega), ?_⟩
      intro w_2 e2 x1_3 e3
      refine ih x1_3 z3 w_2 (by rw [e3]; exact t3) (by omega) ((e1_A e2).trans h1) (fun o ho => by rw [e2, sA_ne ho]; exact h2 o ho) (fun b hb => ?_) (by omega)
      by_cases hq : (b : Int) < z
      · rw [e2, sA_nx (by omega)]; exact h3 b hq
      · rw [show b = x1.toNatClampNeg by omega, e2, sA_at]
/-! the whole -/
set_option maxHeartbeats 4000000 in
theorem u_95 {post : Int32 → Wd → Prop} (hI : RI T W H P S M sz s bn w) (hB : ¬ Bad w → BX bn A0 w) (hp : ∀ (r : Int32) (w9 : Wd) (W9 H9 P9 S9 : Int), IM T W9 H9 P9 S9 M w9 → post r w9) : pX11_chancery_95 post w := by
  unfold pX11_chancery_95
  refine ⟨fun c => b0n (hp _ w _ _ _ _ hI.1), fun c => b1n ?_⟩
  obtain ⟨hn, hn4, cd, u, a, k1, k2, k3, k4, k5, k6, g1, g2, g3, g4, g5, g6⟩ := hB (fun z => z c)
  obtain ⟨a', e', t', ta', te', tt', y1', y2', y3', y4'⟩ := ri_at hI
  have qa := t_un k3 ta'
  have hsz := hI.2.2.1
  have hbn := hI.2.2.2.2.1
  obtain ⟨m0, m1, m2, m3, m4, m5, m6, m7, m8, m9, m10, m11, m12, m13, m14, m15⟩ := hI.1
  have hb := ri_b hI
  intro w_4 e4
  have b4 : w_4.2.1 = w.2.1 := e2_I e4
  have s29 : w_4.1 300 29 = w.1 300 30 := by rw [e4, sI_at]
  have v4 : ∀ f : Nat, f ≠ 29 → w_4.1 300 f = w.1 300 f := fun f hf => by rw [e4, sI_ne (by omega)]
  obtain ⟨zw, tw⟩ := t_any (w.2.1 312 bn)
  have fw := Rg.g g1 tw
  have ew : (w.2.1 312 bn).toInt = zw := tw
  rw [ew] at g3
  have hS : SA T zw (hn : Int) (2 ^ zw.toNat) M w_4 := by
    unfold SA
    rw [s29, v4 2 (by decide), v4 59 (by decide), v4 63 (by decide), b4, hb, hbn.2.2]
    refine ⟨⟨by omega, by omega, by omega, by omega, rfl⟩, m1, ⟨by rw [hbn.2.2]; omega, by rw [hbn.2.2]; omega⟩, m5, m6, ew, g2.1, ?_, ⟨g3.1, by omega⟩, m15⟩
    intro r hr
    have q := g6 r (by omega)
    rw [show (8 * (bn : Int) + (r : Int)).toNat = 8 * bn + r by omega]
    exact ⟨q.1, q.2.1, by omega⟩
  unfold pX11_startAnew
  refine ⟨1000, l_sa2 hS (fun w_5 i5 => ?_) 1000 0 0 w_4 lit_0 (by omega) rfl (fun _ _ => rfl) (fun k hk => absurd hk (by omega)) (by omega)⟩
  obtain ⟨z9, t9⟩ := t_any (w_5.1 300 29)
  have f9 := img_29 i5 t9
  exact ⟨vp_of t9 (by omega) (by omega), hp _ w_5 _ _ _ _ i5⟩
theorem u_74 {post : Int32 → Wd → Prop} (hp : ∀ (r : Int32) (w9 : Wd) (W9 H9 P9 S9 : Int), IM T W9 H9 P9 S9 M w9 → post r w9) : ∀ (N : Nat) (A0 : Int) (w : Wd), RI T W H P S M sz s bn w → (¬ Bad w → BX bn A0 w) → 0 ≤ A0 → (¬ Bad w → sz - A0 + 2 < (N : Int)) → 1 ≤ N → pX11_chancery_74 post N w := by
  intro N
  induction N with
  | zero => intro A0 w hI h1 h2 h3 hm; exact absurd hm (by omega)
  | succ N ih =>
    intro A0 w hI h1 h2 h3 hm
    unfold pX11_chancery_74
    refine ⟨fun c => b0 (u_95 hI h1 hp), fun c => b1 ⟨fun _ => u_95 hI h1 hp, fun _ => ?_⟩⟩
    have nb : ¬ Bad w := fun z => z c
    obtain ⟨a, e, t, ta, te, tt, y1, y2, y3, y4⟩ := ri_at hI
    have hA : A0 ≤ a := by
      obtain ⟨hn, hn4, cd, u, a1, k1, k2, k3, k4, k5, k6, g1, g2, g3, g4, g5, g6⟩ := h1 nb
      rw [show (w.1 300 6).toInt = a from ta] at g5
      omega
    have hN := h3 nb
    exact uX11_readLine hI ta h1 (fun w9 i9 h9 => ih (a + 1) w9 i9 h9 (by omega) (fun _ => by omega) (by omega))
set_option maxHeartbeats 4000000 in
theorem l_ch20 {post : Int32 → Wd → Prop} (hp : ∀ (r : Int32) (w9 : Wd) (W9 H9 P9 S9 : Int), IM T W9 H9 P9 S9 M w9 → post r w9) (hsz : 0 ≤ sz ∧ sz ≤ 1600) : ∀ (n : Nat) (x1 : Int32) (z : Int) (w : Wd), Ti x1 z → (0 ≤ z ∧ z ≤ sz) → IM T W H P S M w → Ti (w.1 300 3) sz → w.1 300 4 = 0 → sz + 1 - z < (n : Int) → pX11_chancery_20 post n x1 w := by
  intro n
  induction n with
  | zero => intro x1 z w t h0 hI h3 h4 hm; exact absurd hm (by omega)
  | succ n ih =>
    intro x1 z w t h0 hI h3 h4 hm
    unfold pX11_chancery_20
    refine ⟨fun c => ?_, fun c => ?_⟩
    · intro w_2 e2
      have i2 := ims_2 hI e2 lit_0 (by omega) (by omega)
      intro w_3 e3
      have i3 := ims_n i2 e3 (by decide)
      intro w_4 e4
      have i4 := ims_n i3 e4 (by decide)
      obtain ⟨zb, tb⟩ := t_any (w_3.1 300 29)
      have fb := img_29 i3 tb
      obtain ⟨zr, tr, fr⟩ := t_sub lit_1 tb
      replace fr := fr (by omega)
      obtain ⟨bn, hbn⟩ : ∃ bn : Nat, zr = (bn : Int) := ⟨zr.toNat, by omega⟩
      subst hbn
      have t30 : Ti (w_4.1 300 30) (bn : Int) := by rw [e4, sI_at]; exact tr
      have t29 : Ti (w_4.1 300 29) zb := by rw [e4, sI_ne (by omega)]; exact tb
      have o29 := i_cz t29
      refine uX11_clearBank i4 t30 (by omega) (by omega) (fun w_5 i5 f5 c31 c312 c313 c314 c315 c318 c302 => ?_)
      have s3 : (w_5.1 300 3).toInt = sz := by rw [f5 3 (by decide), e4, sI_ne (by omega), e3, sI_ne (by omega), e2, sI_ne (by omega)]; exact h3
      have s4 : w_5.1 300 4 = 0 := by rw [f5 4 (by decide), e4, sI_ne (by omega), e3, sI_ne (by omega), e2, sI_ne (by omega)]; exact h4
      have s7 : Ti (w_5.1 300 7) 0 := by rw [f5 7 (by decide), e4, sI_ne (by omega), e3, sI_at]; exact lit_0
      refine gX11_goOn (s := sg w_5) (J := FG w_5) (E := 0) ⟨i5, s3, hsz, fun _ _ => rfl, ⟨rfl, fun _ _ => rfl⟩, stG_FG w_5⟩ s7 (by omega) (fun w_6 i6 g6 => ?_)
      obtain ⟨j1, j2, j3, j4, j5, -⟩ := i6
      have i6 : RI T W H P S M sz (sg w_5) bn w_6 := ⟨j1, j2, j3, j4, ⟨by omega, by rw [j5.2 29 (by decide), f5 29 (by decide), show (w_4.1 300 29).toInt = zb from t29]; omega, by rw [j5.2 30 (by decide), f5 30 (by decide)]; exact t30⟩, by rw [j5.2 4 (by decide), s4]; decide, g6⟩
      obtain ⟨a, e, tt, ta, te, tt1, y1, y2, y3, y4, y5⟩ := g6
      refine ⟨70000, u_74 hp 70000 0 w_6 i6 (fun _ => ⟨0, by omega, 560 * (bn : Int), 0, a, by rw [j5.2 31 (by decide)]; exact c31, by rw [j5.1, c315]; exact lit_0, ta, by omega, Int.le_refl _, by omega, ?_⟩) (by omega) (fun _ => by omega) (by omega)⟩
      unfold BS
      rw [j5.1, c312, c313, c314, c318, show (w_6.1 300 6).toInt = a from ta]
      exact ⟨⟨by decide, by decide⟩, ⟨by decide, by decide, by decide⟩, ⟨by decide, by decide⟩, fun _ => by decide, ⟨by decide, y1, y1⟩, fun r hr => absurd hr (by omega)⟩
    · replace c := c_nle h3 t c
      have e := i_cz t
      obtain ⟨z3, t3, f3⟩ := t_add t lit_1
      replace f3 := f3 (by omega)
      refine ⟨vp_of t (by omega) (by omega), vp_of t (by omega) (by omega), ?_⟩
      intro w_7 e7 x1_8 e8
      exact ih x1_8 z3 w_7 (by rw [e8]; exact t3) (by omega) (ims_A hI e7 (by decide)) (by rw [e1_A e7]; exact h3) (by rw [e1_A e7]; exact h4) (by omega)
theorem sX11_chancery {post : Int32 → Wd → Prop} (hI : IM T W H P S M w) (hp : ∀ (r : Int32) (w9 : Wd) (W9 H9 P9 S9 : Int), IM T W9 H9 P9 S9 M w9 → post r w9) : pX11_chancery post w := by
  unfold pX11_chancery
  intro w_1 e1
  have i1 := ims_n hI e1 (by decide)
  intro w_2 e2
  have i2 := ims_n i1 e2 (by decide)
  obtain ⟨z, t⟩ := t_any (w_2.1 300 2)
  have f := img_2 i2 t
  intro w_3 e3
  have i3 := ims_n i2 e3 (by decide)
  exact ⟨70000, l_ch20 hp f 70000 0 0 w_3 lit_0 (by omega) i3 (by rw [e3, sI_at]; exact t) (by rw [e3, sI_ne (by omega), e2, sI_ne (by omega), e1, sI_at]) (by omega)⟩
end R3
