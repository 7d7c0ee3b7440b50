/-! ===== reading: rules, hands, lines ===== -/
/-- the bank between rules -/
def BB (bn : Nat) (hd A0 : Int) (q : Nat) (w : Wd) : Prop := ∃ cd u a : Int, Ti (w.1 300 31) cd ∧ Ti (w.2.1 315 bn) u ∧ Ti (w.1 300 6) a ∧ (0 ≤ u ∧ u ≤ 90) ∧ 560 * (bn : Int) ≤ cd ∧ 4 * (cd - 560 * (bn : Int)) ≤ 7 * u + a ∧ BS bn hd A0 q cd w
section RR
variable {T W H P S M sz : Int} {s : Int → Int} {bn : Nat} {w w9 : Wd} {hd A0 f0 : Int} {q : Nat}
theorem ri_at (hI : RI T W H P S M sz s bn w) : ∃ a e t : Int, Ti (w.1 300 6) a ∧ Ti (w.1 300 7) e ∧ Ti (w.1 300 8) t ∧ 0 ≤ a ∧ a ≤ e ∧ e ≤ sz ∧ (t ≠ 0 → a < e) := by
  obtain ⟨a1, e1, t1, ta1, te1, tt1, y1, y2, y3, y4, y5⟩ := hI.2.2.2.2.2.2
  exact ⟨a1, e1, t1, ta1, te1, tt1, y1, y2, y3, y4⟩
theorem bb_fg {a a9 : Int} (h : BB bn hd A0 q w) (hf : FG w w9) (ta : Ti (w.1 300 6) a) (ta9 : Ti (w9.1 300 6) a9) (ha : a ≤ a9) : BB bn hd A0 q w9 := by
  obtain ⟨cd, u, a1, k1, k2, k3, k4, k5, k6, k7⟩ := h
  have := t_un ta k3
  refine ⟨cd, u, a9, by rw [hf.2 31 (by decide)]; exact k1, by rw [hf.1]; exact k2, ta9, k4, k5, by omega, bs_frame k7 (fun o _ => by rw [hf.1]) (fun k _ => by rw [hf.1]) ?_⟩
  rw [show (w.1 300 6).toInt = a from ta, show (w9.1 300 6).toInt = a9 from ta9]
  exact ha
set_option maxHeartbeats 4000000 in
theorem u_e19 {post : Wd → Prop} (hp : ∀ w9 : Wd, RI T W H P S M sz s bn w9 → (¬ Bad w9 → ES bn hd A0 q f0 0 w9 ∧ Ti (w9.1 300 33) 0) → post w9) : ∀ (N : Nat) (x1 : Int32) (w : Wd), RI T W H P S M sz s bn w → (¬ Bad w → (x1 = 1 ∧ ES bn hd A0 q f0 1 w) ∨ (x1 = 0 ∧ ES bn hd A0 q f0 0 w)) → (¬ Bad w → ∀ a m : Int, Ti (w.1 300 6) a → Ti (w.1 300 33) m → 100 * (sz - a) + m + 1 < (N : Int)) → 1 ≤ N → pX11_e_19 post N x1 w := by
  intro N
  induction N with
  | zero => intro x1 w hI h1 h2 hm; exact absurd hm (by omega)
  | succ N ih =>
    intro x1 w hI h1 h2 hm
    unfold pX11_e_19
    refine ⟨fun c => b0 (hp w hI (fun z => absurd c z)), fun c => b1 ?_⟩
    have nb : ¬ Bad w := fun z => z c
    obtain ⟨a, e, t, ta, te, tt, y1, y2, y3, y4⟩ := ri_at hI
    obtain ⟨m, tm⟩ := t_any (w.1 300 33)
    have hmm := h2 nb a m ta tm
    refine ⟨fun c2 => ?_, fun c2 => ⟨fun c3 => ?_, fun c3 => ?_⟩⟩
    · replace c2 := c_le tm lit_0 c2
      rcases h1 nb with z | z
      · obtain ⟨n, g, cd, u, r, a1, t1, wi, hE⟩ := z.2
        have := t_un tm hE.1.1
        have := hE.2.2.2.2.2.2.1 rfl
        omega
      · refine hp w hI (fun _ => ⟨z.2, ?_⟩)
        obtain ⟨n, g, cd, u, r, a1, t1, wi, hE⟩ := z.2
        have := t_un tm hE.1.1
        have e0 : m = 0 := by omega
        rw [← e0]; exact tm
    · replace c2 := c_nle tm lit_0 c2
      rcases h1 nb with z | z
      · rw [z.1] at c3; exact absurd c3 (by decide)
      · obtain ⟨n, g, cd, u, r, a1, t1, wi, hE⟩ := z.2
        have q1 := t_un tm hE.1.1
        have q2 := t_un ta hE.1.2.2.2.2.2.1
        subst q2
        refine uX11_behindUnit hI nb hE (by omega) (fun rr w9 i9 h9 => ?_)
        unfold pX11_e_48
        refine ih rr w9 i9 (fun nb9 => ?_) (fun nb9 a9 m9 ta9 tm9 => ?_) (by omega)
        · rcases h9 nb9 with y | y
          · exact Or.inl ⟨y.1, y.2.1⟩
          · exact Or.inr ⟨y.1, y.2.1⟩
        · obtain ⟨a', e', t', ta', te', tt', y1', y2', y3', y4'⟩ := ri_at i9
          have qa := t_un ta9 ta'
          rcases h9 nb9 with y | y
          · obtain ⟨-, ⟨n9, g9, cd9, u9, r9, a19, t19, wi9, hE9⟩, a99, ta99, ha99⟩ := y
            have z1 := t_un tm9 hE9.1.1
            have z2 := ec_n hE9 (by omega)
            have z3 := t_un ta9 ta99
            omega
          · obtain ⟨-, -, a99, n99, ta99, tn99, ha99, hn99⟩ := y
            have z1 := t_un tm9 tn99
            have z3 := t_un ta9 ta99
            omega
    · replace c2 := c_nle tm lit_0 c2
      rcases h1 nb with z | z
      · obtain ⟨n, g, cd, u, r, a1, t1, wi, hE⟩ := z.2
        have q1 := t_un tm hE.1.1
        have q2 := t_un ta hE.1.2.2.2.2.2.1
        subst q2
        refine uX11_unit hI hE (fun rr w9 i9 h9 => ?_)
        unfold pX11_e_48
        refine ih rr w9 i9 (fun nb9 => (h9 nb9).1) (fun nb9 a9 m9 ta9 tm9 => ?_) (by omega)
        obtain ⟨a', e', t', ta', te', tt', y1', y2', y3', y4'⟩ := ri_at i9
        have qa := t_un ta9 ta'
        obtain ⟨hh, a99, ta99, ha99⟩ := h9 nb9
        have z3 := t_un ta9 ta99
        have z4 : m9 ≤ 38 := by
          rcases hh with y | y
          · obtain ⟨-, n9, g9, cd9, u9, r9, a19, t19, wi9, hE9⟩ := y
            have z1 := t_un tm9 hE9.1.1
            have z2 := ec_n hE9 (by omega)
            omega
          · obtain ⟨-, n9, g9, cd9, u9, r9, a19, t19, wi9, hE9⟩ := y
            have z1 := t_un tm9 hE9.1.1
            have z2 := ec_n hE9 (by omega)
            omega
        omega
      · exact absurd z.1 c3
set_option maxHeartbeats 4000000 in
theorem uX11_e {post : Wd → Prop} {cd u a : Int} (hI : RI T W H P S M sz s bn w) (k31 : Ti (w.1 300 31) cd) (k34 : Ti (w.1 300 34) 0) (k315 : Ti (w.2.1 315 bn) u) (k6 : Ti (w.1 300 6) a) (hu : 0 ≤ u ∧ u ≤ 90) (hc : 560 * (bn : Int) ≤ cd) (hph : 4 * (cd - 560 * (bn : Int)) ≤ 7 * u + a) (hB : BSe bn hd A0 q cd w) (hp : ∀ w9 : Wd, RI T W H P S M sz s bn w9 → (¬ Bad w9 → ES bn hd A0 q cd 0 w9 ∧ Ti (w9.1 300 33) 0) → post w9) : pX11_e post w := by
  unfold pX11_e
  intro w_1 q1 w_2 q2
  have i1 := ri_I hI q1 (by omega)
  have i2 := ri_I i1 q2 (by omega)
  have v2 : ∀ f : Nat, f ≠ 33 → f ≠ 32 → w_2.1 300 f = w.1 300 f := fun f h1 h2 => by rw [q2, sI_ne (by omega), q1, sI_ne (by omega)]
  have b2 : w_2.2.1 = w.2.1 := (e2_I q2).trans (e2_I q1)
  have n2 : Ti (w_2.1 300 33) ((0 : Nat) : Int) := by rw [q2, sI_ne (by omega), q1, sI_at]; exact lit_0
  refine uX11_pushE i2 n2 (by omega) (fun w_3 i3 o3 p3 s3 f3 n3 => ?_)
  obtain ⟨t3, tt3⟩ := t_any (w_3.1 300 8)
  have W3 : w_3.2.1 327 = upd (w.2.1 327) 0 (8 : Int32) := by rw [p3, b2]
  have cJ : ct pJ (w_3.2.1 327) 1 = 0 := by rw [W3, ct_push]; rfl
  have cN : ct pN (w_3.2.1 327) 1 = 0 := by rw [W3, ct_push]; rfl
  have cK : ct pK (w_3.2.1 327) 1 = 0 := by rw [W3, ct_push]; rfl
  have hE : EC bn hd A0 q cd 1 1 (fun _ => 0) cd u 0 a t3 0 w_3 := by
    refine ⟨⟨n3, by rw [f3 31 (by decide), v2 31 (by decide) (by decide)]; exact k31, by rw [f3 34 (by decide), v2 34 (by decide) (by decide)]; exact k34, by rw [f3 32 (by decide), q2, sI_at]; exact lit_0, by rw [o3 315 (by decide) (by decide), b2]; exact k315, by rw [f3 6 (by decide), v2 6 (by decide) (by decide)]; exact k6, tt3⟩, ⟨fun _ => by rw [W3, pk_us]; decide, fun i h1 h2 => absurd h1 (by omega)⟩, by rw [cN, cK]; decide, by rw [cJ]; decide, hu, ⟨hc, Int.le_refl _⟩, fun _ => by omega, ⟨fun _ => by rw [cJ, cN]; omega, fun _ _ => by rw [cJ, cN]; omega, fun z => absurd z (by omega)⟩, ⟨rfl, fun k h1 h2 => absurd h1 (by omega), by rw [cJ]; rfl⟩, ?_⟩
    exact bse_frame hB (fun o ho => by rw [o3 o (by omega) (by omega), b2]) (fun k _ => by rw [o3 325 (by decide) (by decide), b2]) (by rw [f3 6 (by decide), v2 6 (by decide) (by decide)]; exact Int.le_refl _)
  refine ⟨1000000, u_e19 hp 1000000 1 w_3 i3 (fun _ => Or.inl ⟨rfl, 1, _, cd, u, 0, a, t3, 0, hE⟩) (fun _ a9 m9 ta9 tm9 => ?_) (by omega)⟩
  have z1 := t_un tm9 n3
  have z2 := hI.2.2.1
  obtain ⟨a', e', t', ta', te', tt', y1', y2', y3', y4'⟩ := ri_at i3
  have qa := t_un ta9 ta'
  omega
set_option maxHeartbeats 4000000 in
theorem uX11_readRule {post : Wd → Prop} {x1 : Int32} (tx : Ti x1 (q : Int)) (hq : q < 8) (hI : RI T W H P S M sz s bn w) (hB : BB bn hd A0 q w) (hp : ∀ w9 : Wd, RI T W H P S M sz s bn w9 → (¬ Bad w9 → BB bn hd A0 (q + 1) w9) → post w9) : pX11_readRule post x1 w := by
  unfold pX11_readRule
  obtain ⟨cd, u, a, k31, k315, k6, hu, hc, hph, hS⟩ := hB
  have hbl := hI.2.2.2.2.1.1
  intro w_1 q1
  have i1 := ri_I hI q1 (by omega)
  have v1 : ∀ f : Nat, f ≠ 34 → w_1.1 300 f = w.1 300 f := fun f h1 => by rw [q1, sI_ne (by omega)]
  have b1 : w_1.2.1 = w.2.1 := e2_I q1
  have idx : ∀ w' : Wd, RI T W H P S M sz s bn w' → vp_in (((8 : Int32) * (w'.1 300 30)) + x1) 16 ∧ (((8 : Int32) * (w'.1 300 30)) + x1).toNatClampNeg = 8 * bn + q := by
    intro w' i'
    obtain ⟨z8, t8, f8⟩ := t_mul lit_8 (ri_bt i')
    replace f8 := f8 (by omega)
    obtain ⟨z9, t9, f9⟩ := t_add t8 tx
    replace f9 := f9 (by omega)
    exact ⟨vp_of t9 (by omega) (by omega), by have := i_cz t9; omega⟩
  refine ⟨(idx w_1 i1).1, ?_⟩
  rw [(idx w_1 i1).2]
  intro w_2 q2
  have i2 := ri_rule i1 q2 (by omega) (by omega)
  have c1 : Ti (w_1.1 300 31) cd := by rw [v1 31 (by decide)]; exact k31
  have ar : ∀ o : Nat, o ≠ 319 → w_2.2.1 o = w.2.1 o := fun o ho => by rw [q2, sA_ne ho, b1]
  have f2 : w_2.1 = w_1.1 := e1_A q2
  have hS2 : BSe bn hd A0 q cd w_2 := by
    obtain ⟨h1, h2, h3, h4, h5, h6⟩ := hS
    refine ⟨?_, by rw [q2, sA_at]; exact c1⟩
    unfold BS
    rw [ar 312 (by decide), ar 313 (by decide), ar 314 (by decide), ar 318 (by decide), ar 320 (by decide), ar 325 (by decide), f2, v1 6 (by decide)]
    exact ⟨h1, h2, h3, h4, h5, fun r hr => by rw [q2, sA_nx (by omega), b1]; exact h6 r hr⟩
  refine uX11_e i2 (by rw [f2]; exact c1) (by rw [f2, q1, sI_at]; exact lit_0) (by rw [ar 315 (by decide)]; exact k315) (by rw [f2, v1 6 (by decide)]; exact k6) hu hc hph hS2 (fun w_3 i3 h3 => ?_)
  refine ⟨(idx w_3 i3).1, ?_⟩
  rw [(idx w_3 i3).2]
  intro w_4 q4
  refine hp w_4 (ri_rule i3 q4 (by omega) (by omega)) (fun nb4 => ?_)
  have f4 : w_4.1 = w_3.1 := e1_A q4
  have nb3 : ¬ Bad w_3 := fun z => nb4 (fun y => z (by rw [← f4]; exact y))
  obtain ⟨⟨n, g, cd3, u3, r3, a3, t3, wi3, hE⟩, n0⟩ := h3 nb3
  obtain ⟨⟨k33', k31', k34', k32', k315', k6', k8'⟩, h2', h3', h4', h5', h6', h7', h8', h9', h10'⟩ := hE
  have hn : n = 0 := by have := t_un n0 k33'; omega
  subst hn
  have ph := h8'.2.2 rfl
  have hJ0 : ct pJ (w_3.2.1 327) 0 = 0 := rfl
  have hN0 : ct pN (w_3.2.1 327) 0 = 0 := rfl
  rw [hJ0, hN0] at ph
  obtain ⟨a', e', t', ta', te', tt', y1', y2', y3', y4'⟩ := ri_at i3
  have qa := t_un k6' ta'
  have hsz := hI.2.2.1
  have ar4 : ∀ o : Nat, o ≠ 320 → w_4.2.1 o = w_3.2.1 o := fun o ho => by rw [q4, sA_ne ho]
  obtain ⟨⟨g1, g2, g3, g4, g5, g6⟩, gf⟩ := h10'
  refine ⟨cd3, u3, a3, by rw [f4]; exact k31', by rw [ar4 315 (by decide)]; exact k315', by rw [f4]; exact k6', h5', by omega, by omega, ?_⟩
  unfold BS
  rw [ar4 312 (by decide), ar4 313 (by decide), ar4 314 (by decide), ar4 318 (by decide), ar4 319 (by decide), ar4 325 (by decide), f4]
  refine ⟨g1, g2, g3, g4, g5, fun r hr => ?_⟩
  by_cases hrq : r = q
  · subst hrq
    rw [q4, sA_at, gf, show (w_3.1 300 31).toInt = cd3 from k31']
    exact ⟨⟨by omega, h6'.2, by omega, g, h9'.1, h9'.2.1⟩, hc, Int.le_refl _⟩
  · rw [q4, sA_nx (by omega)]
    have := g6 r (by omega)
    exact ⟨this.1, this.2.1, by omega⟩
theorem uX11_handHere {post : Int32 → Wd → Prop} (hI : RI T W H P S M sz s bn w) (k : Ti (w.2.1 314 bn) hd) (hh : hd ≤ 4) (h : ∀ r : Int32, post r w) : pX11_handHere post w := by
  unfold pX11_handHere
  have hbl := hI.2.2.2.2.1.1
  have hb := ri_b hI
  have lp : ∀ (N : Nat) (x1 : Int32) (z : Int), Ti x1 z → (0 ≤ z ∧ z ≤ 4) → 5 - z < (N : Int) → pX11_handHere_2 post N x1 w := by
    intro N
    induction N with
    | zero => intro x1 z t1 h1 hm; exact absurd hm (by omega)
    | succ N ih =>
      intro x1 z t1 h1 hm
      unfold pX11_handHere_2
      rw [hb]
      have nx : z < hd → pX11_handHere_46 (pX11_handHere_2 post N) post x1 w := by
        intro hz
        unfold pX11_handHere_46
        intro x1_1 q1
        obtain ⟨zd, td, fd⟩ := t_add t1 lit_1
        replace fd := fd (by omega)
        exact ih x1_1 zd (by rw [q1]; exact td) (by omega) (by omega)
      obtain ⟨z8, t8, f8⟩ := t_mul lit_4 (ri_bt hI)
      replace f8 := f8 (by omega)
      obtain ⟨z9, t9, f9⟩ := t_add t8 t1
      replace f9 := f9 (by omega)
      refine ⟨ri_bv hI, fun _ => h _, fun c => ?_⟩
      replace c := c_nle k t1 c
      exact ⟨fun _ => nx c, fun _ => ⟨vp_of t9 (by omega) (by omega), fun _ => nx c, fun _ => h _⟩⟩
  exact ⟨1000, lp 1000 0 0 lit_0 (by omega) (by omega)⟩
/-! a hand -/
set_option maxHeartbeats 4000000 in
theorem u_138 {post : Wd → Prop} (hI : RI T W H P S M sz s bn w) (hB : ¬ Bad w → BB bn hd A0 q w ∧ hd ≤ 3) (hp : ∀ w9 : Wd, RI T W H P S M sz s bn w9 → (¬ Bad w9 → BB bn (hd + 1) A0 q w9 ∧ w9.2.1 318 = w.2.1 318 ∧ w9.1 = w.1) → post w9) : pX11_readHand_138 post w := by
  unfold pX11_readHand_138
  have hb := ri_b hI
  refine ⟨ri_bv hI, ri_bv hI, ?_⟩
  rw [hb]
  intro w_1 q1
  have i1 := ri_314 hI q1
  have f1 : w_1.1 = w.1 := e1_A q1
  refine hp w_1 i1 (fun nb => ?_)
  obtain ⟨⟨cd, u, a, k31, k315, k6, hu, hc, hph, h1, h2, h3, h4, h5, h6⟩, hh⟩ := hB (fun z => nb (fun y => z (by rw [← f1]; exact y)))
  have ar : ∀ o : Nat, o ≠ 314 → w_1.2.1 o = w.2.1 o := fun o ho => by rw [q1, sA_ne ho]
  obtain ⟨zd, td, fd⟩ := t_add (show Ti (w.2.1 314 bn) hd from h2.1) lit_1
  replace fd := fd (by omega)
  refine ⟨⟨cd, u, a, by rw [f1]; exact k31, by rw [ar 315 (by decide)]; exact k315, by rw [f1]; exact k6, hu, hc, hph, ?_⟩, ar 318 (by decide), f1⟩
  unfold BS
  rw [ar 312 (by decide), ar 313 (by decide), ar 318 (by decide), ar 319 (by decide), ar 320 (by decide), ar 325 (by decide), f1]
  exact ⟨h1, ⟨by rw [q1, sA_at, ← fd]; exact td, by omega, by omega⟩, h3, h4, h5, h6⟩
end RR
