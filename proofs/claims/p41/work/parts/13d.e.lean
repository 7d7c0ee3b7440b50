theorem k8q {k : Int} (h : k = 8) : pJ k = false ∧ pN k = false ∧ pK k = false := k8 h
section EU
variable {T W H P S M sz : Int} {s : Int → Int} {bn : Nat} {w w9 : Wd} {hd A0 f0 wt cd u r a t wi : Int} {q n : Nat} {g : Nat → Int}
theorem uX11_wordHere {post : Int32 → Wd → Prop} (k8 : Ti (w.1 300 8) t) (h : ∀ (r : Int32) (zr : Int), Ti r zr → (¬ r = 0 → 97 ≤ zr ∧ zr ≤ 122 ∧ t = 3) → post r w) : pX11_wordHere post w := by
  unfold pX11_wordHere
  have t3 : w.1 300 8 = (3 : Int32) → t = 3 := fun c => c_eq k8 lit_3 c
  refine uX11_isWord (b0 ?_) (fun c _ => b1 (h _ _ lit_109 (fun _ => ⟨by omega, by omega, t3 c⟩)))
  refine uX11_isWord (b0 ?_) (fun c _ => b1 (h _ _ lit_104 (fun _ => ⟨by omega, by omega, t3 c⟩)))
  refine uX11_isWord (b0 ?_) (fun c _ => b1 (h _ _ lit_108 (fun _ => ⟨by omega, by omega, t3 c⟩)))
  refine uX11_isWord (b0 ?_) (fun c _ => b1 (h _ _ lit_114 (fun _ => ⟨by omega, by omega, t3 c⟩)))
  refine uX11_isWord (b0 ?_) (fun c _ => b1 (h _ _ lit_121 (fun _ => ⟨by omega, by omega, t3 c⟩)))
  refine uX11_isWord (b0 ?_) (fun c _ => b1 (h _ _ lit_106 (fun _ => ⟨by omega, by omega, t3 c⟩)))
  refine uX11_isWord (b0 ?_) (fun c _ => b1 (h _ _ lit_116 (fun _ => ⟨by omega, by omega, t3 c⟩)))
  exact uX11_isWord (b0 (h _ _ lit_0 (fun z => absurd rfl z))) (fun c _ => b1 (h _ _ lit_100 (fun _ => ⟨by omega, by omega, t3 c⟩)))
set_option maxHeartbeats 4000000 in
theorem uX11_unit {post : Int32 → Wd → Prop} (hI : RI T W H P S M sz s bn w) (hE : EC bn hd A0 q f0 1 n g cd u r a t wi w)
    (hp : ∀ (rr : Int32) (w9 : Wd), RI T W H P S M sz s bn w9 → (¬ Bad w9 → ((rr = 1 ∧ ES bn hd A0 q f0 1 w9) ∨ (rr = 0 ∧ ES bn hd A0 q f0 0 w9)) ∧ ∃ a9 : Int, Ti (w9.1 300 6) a9 ∧ a + 1 ≤ a9) → post rr w9) : pX11_unit post w := by
  have hn := ec_n hE (by omega)
  obtain ⟨⟨k33, k31, k34, k32, k315, k6, k8⟩, h2, h3, h4, h5, h6, h7, h8, h9, h10⟩ := id hE
  have hn1 := h7 rfl
  have hbad : ∀ (rr : Int32) (w9 : Wd), RI T W H P S M sz s bn w9 → Bad w9 → post rr w9 := fun rr w9 i9 d9 => hp rr w9 i9 (fun z => absurd d9 z)
  have hb := ri_b hI
  obtain ⟨a1, e1, t1, ta1, te1, tt1, y1, y2, y3, y4, y5⟩ := hI.2.2.2.2.2.2
  have ea := t_un k6 ta1
  subst ea
  have l143 : ∀ x2 x3 x4 : Int32, pX11_unit_143 post x2 x3 x4 w := by
    intro x2 x3 x4
    unfold pX11_unit_143
    refine uX11_misplaced hI (fun w1 i1 d1 => ?_)
    unfold pX11_unit_147
    exact ⟨fun c => b0n (hbad 1 w1 i1 d1), fun c => absurd c d1⟩
  have l134 : ∀ (x2 x3 x4 : Int32) (z4 : Int), Ti x4 z4 → (wi ≤ 6 → ((¬ x2 = 0 ∧ t = 3 ∧ w.2.2.1 300 10 = 7237492 ∧ wi ≤ 6) ∨ (x2 = 0 ∧ u ≤ 89 ∧ r ≤ 29 ∧ ((¬ x3 = 0 ∧ wi ≤ 6 ∧ t = 5) ∨ (x3 = 0 ∧ ((¬ x4 = 0 ∧ 97 ≤ z4 ∧ z4 ≤ 122 ∧ t = 3) ∨ (x4 = 0 ∧ t = 4))))))) → pX11_unit_134 post x2 x3 x4 w := by
    intro x2 x3 x4 z4 t4 hu
    unfold pX11_unit_134
    refine ⟨fun c => u_147 t4 hI (fun _ => ⟨hE, hu ?_⟩) hp, fun c => l143 x2 x3 x4⟩
    have := c_neq k32 lit_7 c
    omega
  have l126 : ∀ (x2 x3 x4 : Int32) (z4 : Int), Ti x4 z4 → (¬ x2 = 0 → t = 3 ∧ w.2.2.1 300 10 = 7237492) → (¬ x3 = 0 → t = 5) → (x2 = 0 → u ≤ 89 ∧ r ≤ 29 ∧ (x3 = 0 → (¬ x4 = 0 ∧ 97 ≤ z4 ∧ z4 ≤ 122 ∧ t = 3) ∨ (x4 = 0 ∧ t = 4))) → pX11_unit_126 post x2 x3 x4 w := by
    intro x2 x3 x4 z4 t4 hx2 hx3 h0
    unfold pX11_unit_126
    exact ⟨fun c => l134 x2 x3 x4 z4 t4 (fun hw => Or.inl ⟨c, (hx2 c).1, (hx2 c).2, hw⟩), fun c => ⟨fun c3 => u_147 t4 hI (fun _ => ⟨hE, Or.inr ⟨c, (h0 c).1, (h0 c).2.1, Or.inr ⟨c3, (h0 c).2.2 c3⟩⟩⟩) hp, fun c3 => l134 x2 x3 x4 z4 t4 (fun hw => Or.inr ⟨c, (h0 c).1, (h0 c).2.1, Or.inl ⟨c3, hw, hx3 c3⟩⟩)⟩⟩
  have l121 : ∀ (x2 x3 x4 x5 : Int32) (z4 : Int), Ti x4 z4 → (x5 = 0 → u ≤ 89 ∧ r ≤ 29) → (¬ x2 = 0 → t = 3 ∧ w.2.2.1 300 10 = 7237492) → (¬ x3 = 0 → t = 5) → (x3 = 0 → (¬ x4 = 0 ∧ 97 ≤ z4 ∧ z4 ≤ 122 ∧ t = 3) ∨ (x4 = 0 ∧ t = 4)) → pX11_unit_121 post x2 x3 x4 x5 w := by
    intro x2 x3 x4 x5 z4 t4 hf hx2 hx3 h0
    unfold pX11_unit_121
    exact ⟨fun c => l143 x2 x3 x4, fun c => l126 x2 x3 x4 z4 t4 hx2 hx3 (fun _ => ⟨(hf c).1, (hf c).2, h0⟩)⟩
  have l98 : ∀ (x2 x3 x4 t0 : Int32) (z4 : Int), Ti x4 z4 → (t0 = 0 → u ≤ 89 ∧ r ≤ 29) → (¬ x2 = 0 → t = 3 ∧ w.2.2.1 300 10 = 7237492) → (¬ x3 = 0 → t = 5) → (¬ x4 = 0 → 97 ≤ z4 ∧ z4 ≤ 122 ∧ t = 3) → pX11_unit_98 post x2 x3 x4 t0 w := by
    intro x2 x3 x4 t0 z4 t4 hf hx2 hx3 hx4
    unfold pX11_unit_98
    exact ⟨fun c => l126 x2 x3 x4 z4 t4 hx2 hx3 (fun z => absurd z c), fun c => ⟨fun c4 => l121 x2 x3 x4 t0 z4 t4 hf hx2 hx3 (fun _ => Or.inl ⟨c4, hx4 c4⟩), fun c4 => ⟨fun ct => l121 x2 x3 x4 t0 z4 t4 hf hx2 hx3 (fun _ => Or.inr ⟨c4, c_eq k8 lit_4 ct⟩), fun ct => ⟨fun c3 => l143 x2 x3 x4, fun c3 => l121 x2 x3 x4 t0 z4 t4 hf hx2 hx3 (fun z => absurd z c3)⟩⟩⟩⟩
  have l56 : ∀ t0 : Int32, (¬ t0 = 0 → t = 3 ∧ w.2.2.1 300 10 = 7237492) → pX11_unit_56 post t0 w := by
    intro t0 hx2
    unfold pX11_unit_56
    have X : ∀ r1 : Int32, (¬ r1 = 0 → t = 5) → pX11_wordHere (fun r_3 w_4 => vp_in (w_4.1 300 30) 2 ∧ ((w_4.2.1 315 (w_4.1 300 30).toNatClampNeg) = (90 : Int32) → (pX11_unit_93 post t0 r1 r_3 w_4)) ∧ (¬ (w_4.2.1 315 (w_4.1 300 30).toNatClampNeg) = (90 : Int32) → ((¬ (w_4.1 300 34) = (30 : Int32) → (pX11_unit_98 post t0 r1 r_3 (0 : Int32) w_4)) ∧ ((w_4.1 300 34) = (30 : Int32) → (pX11_unit_93 post t0 r1 r_3 w_4))))) w := by
      intro r1 hr1
      refine uX11_wordHere k8 (fun r3 z3 t3 p3 => ?_)
      have full : pX11_unit_93 post t0 r1 r3 w := by
        unfold pX11_unit_93
        exact l98 t0 r1 r3 1 z3 t3 (fun z => absurd z (by decide)) hx2 hr1 p3
      refine ⟨ri_bv hI, fun _ => full, fun c1 => ⟨fun c2 => l98 t0 r1 r3 0 z3 t3 (fun _ => ?_) hx2 hr1 p3, fun _ => full⟩⟩
      rw [hb] at c1
      have := c_neq k315 lit_90 c1
      have := c_neq k34 lit_30 c2
      omega
    exact uX11_isSignHere lit_40 k6 (by omega) hI (X 0 (fun z => absurd rfl z)) (fun c _ => X 1 (fun _ => c_eq k8 lit_5 c))
  have l55 : pX11_unit_55 post w := l56 0 (fun z => absurd rfl z)
  have l31 : pX11_unit_31 post w := by
    unfold pX11_unit_31 pX11_unit_36
    exact b1 (uX11_isWord (b0 l55) (fun c d => b1 (l56 1 (fun _ => ⟨c_eq k8 lit_3 c, d⟩))))
  unfold pX11_unit
  obtain ⟨zm, tm, fm⟩ := t_sub k33 lit_1
  replace fm := fm (by omega)
  have vm : vp_in ((w.1 300 33) - (1 : Int32)) 90 := vp_of tm (by omega) (by omega)
  exact ⟨vm, fun _ => l31, fun _ => ⟨vm, fun _ => b0 l55, fun _ => l31⟩⟩
theorem uX11_rankHere {post : Int32 → Wd → Prop} (hI : RI T W H P S M sz s bn w) (k6 : Ti (w.1 300 6) a) (ha : 0 ≤ a) (k8 : Ti (w.1 300 8) t) (h : ∀ (r : Int32) (zr : Int), Ti r zr → (zr = 0 ∨ ((zr = 1 ∨ zr = 2) ∧ t = 3) ∨ ((zr = 4 ∨ zr = 5 ∨ zr = 6) ∧ t = 5 ∧ s a ≠ 126 ∧ (s a < 97 ∨ 122 < s a))) → post r w) : pX11_rankHere post w := by
  unfold pX11_rankHere
  have t3 : w.1 300 8 = (3 : Int32) → t = 3 := fun c => c_eq k8 lit_3 c
  have t5 : w.1 300 8 = (5 : Int32) → t = 5 := fun c => c_eq k8 lit_5 c
  refine uX11_isWord (b0 ?_) (fun c _ => b1 (h _ _ lit_2 (Or.inr (Or.inl ⟨by omega, t3 c⟩))))
  refine uX11_isWord (b0 ?_) (fun c _ => b1 (h _ _ lit_1 (Or.inr (Or.inl ⟨by omega, t3 c⟩))))
  refine uX11_isSignHere lit_60 k6 ha hI (b0n ?_) (fun c d => b1n (h _ _ lit_4 (Or.inr (Or.inr ⟨by omega, t5 c, by omega, by omega⟩))))
  refine uX11_isSignHere lit_62 k6 ha hI (b0n ?_) (fun c d => b1n (h _ _ lit_4 (Or.inr (Or.inr ⟨by omega, t5 c, by omega, by omega⟩))))
  refine uX11_isSignHere lit_61 k6 ha hI (b0 ?_) (fun c d => b1 (h _ _ lit_4 (Or.inr (Or.inr ⟨by omega, t5 c, by omega, by omega⟩))))
  refine uX11_isSignHere lit_43 k6 ha hI (b0n ?_) (fun c d => b1n (h _ _ lit_5 (Or.inr (Or.inr ⟨by omega, t5 c, by omega, by omega⟩))))
  refine uX11_isSignHere lit_45 k6 ha hI (b0 ?_) (fun c d => b1 (h _ _ lit_5 (Or.inr (Or.inr ⟨by omega, t5 c, by omega, by omega⟩))))
  refine uX11_isSignHere lit_42 k6 ha hI (b0n ?_) (fun c d => b1n (h _ _ lit_6 (Or.inr (Or.inr ⟨by omega, t5 c, by omega, by omega⟩))))
  refine uX11_isSignHere lit_47 k6 ha hI (b0n ?_) (fun c d => b1n (h _ _ lit_6 (Or.inr (Or.inr ⟨by omega, t5 c, by omega, by omega⟩))))
  exact uX11_isSignHere lit_37 k6 ha hI (b0 (h _ _ lit_0 (Or.inl rfl))) (fun c d => b1 (h _ _ lit_6 (Or.inr (Or.inr ⟨by omega, t5 c, by omega, by omega⟩))))
theorem uX11_isCompared {post : Int32 → Wd → Prop} (k33 : Ti (w.1 300 33) (n : Int)) (hn : 1 ≤ n ∧ n < 90) (h2 : PL (w.2.1 327) (w.2.1 328) n) (h : ∀ r : Int32, post r w) : pX11_isCompared post w := by
  unfold pX11_isCompared
  have lp : ∀ (N : Nat) (x1 : Int32) (k : Nat), Ti x1 (k : Int) → k < n → k < N → pX11_isCompared_7 post N x1 w := by
    intro N
    induction N with
    | zero => intro x1 k t1 h1 hm; exact absurd hm (by omega)
    | succ N ih =>
      intro x1 k t1 h1 hm
      unfold pX11_isCompared_7
      have v1 : vp_in x1 90 := vp_of t1 (by omega) (by omega)
      have e1 := i_cz t1
      obtain ⟨zk, tk⟩ := t_any (w.2.1 327 x1.toNatClampNeg)
      have dn : zk ≠ 8 → pX11_isCompared_28 (pX11_isCompared_7 post N) post x1 w := by
        intro hz
        unfold pX11_isCompared_28
        intro x1_1 q1
        obtain ⟨zd, td, fd⟩ := t_add t1 lit_m1
        replace fd := fd (by omega)
        have hk : k ≠ 0 := by
          intro z
          have := h2.1 hn.1
          rw [show x1.toNatClampNeg = 0 by omega] at tk
          exact hz (t_un tk this)
        exact ih x1_1 (k - 1) (by rw [q1, show ((k - 1 : Nat) : Int) = zd by omega]; exact td) (by omega) (by omega)
      refine ⟨v1, fun c => dn ?_, fun c => ⟨v1, fun c2 => ⟨v1, fun _ => h _, fun _ => h _⟩, fun c2 => dn ?_⟩⟩
      · have := c_eq tk lit_5 c; omega
      · have := c_eq tk lit_6 c2; omega
  intro x1_1 q1
  obtain ⟨zd, td, fd⟩ := t_sub k33 lit_1
  replace fd := fd (by omega)
  exact ⟨1000, lp 1000 x1_1 (n - 1) (by rw [q1, show ((n - 1 : Nat) : Int) = zd by omega]; exact td) (by omega) (by omega)⟩
/-- what behindUnit leaves -/
def BP (bn : Nat) (hd A0 : Int) (q : Nat) (f0 a : Int) (n0 : Nat) (rr : Int32) (w9 : Wd) : Prop := (rr = 1 ∧ ES bn hd A0 q f0 1 w9 ∧ ∃ a9 : Int, Ti (w9.1 300 6) a9 ∧ a + 1 ≤ a9) ∨ (rr = 0 ∧ ES bn hd A0 q f0 0 w9 ∧ ∃ a9 n9 : Int, Ti (w9.1 300 6) a9 ∧ Ti (w9.1 300 33) n9 ∧ a ≤ a9 ∧ n9 < (n0 : Int))
set_option maxHeartbeats 4000000 in
theorem u_104 {post : Int32 → Wd → Prop} {x1 : Int32} {zx : Int} {n0 m : Nat} (tx : Ti x1 zx) (hrk : zx = 0 ∨ ((zx = 1 ∨ zx = 2) ∧ t = 3) ∨ ((zx = 4 ∨ zx = 5 ∨ zx = 6) ∧ t = 5 ∧ s a ≠ 126 ∧ (s a < 97 ∨ 122 < s a))) (hI : RI T W H P S M sz s bn w) (hb : ¬ Bad w) (hE : EC bn hd A0 q f0 0 (m + 1) g cd u r a t wi w) (hn0 : m + 1 ≤ n0) (htop : zx ≤ 0 → 6 < (w.2.1 327 m).toInt) (hp : ∀ (rr : Int32) (w9 : Wd), RI T W H P S M sz s bn w9 → (¬ Bad w9 → BP bn hd A0 q f0 a n0 rr w9) → post rr w9) : pX11_behindUnit_104 post x1 w := by
  have hn := ec_n hE (by omega)
  obtain ⟨⟨k33, k31, k34, k32, k315, k6, k8⟩, h2, h3, h4, h5, h6, h7, h8, h9, h10⟩ := id hE
  obtain ⟨a1, e1, t1, ta1, te1, tt1, y1, y2, y3, y4, y5⟩ := hI.2.2.2.2.2.2
  have ea := t_un k6 ta1
  subst ea
  have et := t_un k8 tt1
  subst et
  unfold pX11_behindUnit_104
  refine ⟨fun c => ?_, fun c => ?_⟩
  · replace c := c_le tx lit_0 c
    have hk := htop c
    have hpe : (w.2.1 327 m).toInt = 7 ∨ (w.2.1 327 m).toInt = 8 := by
      by_cases hm : m = 0
      · subst hm; exact Or.inr (h2.1 (by omega))
      · rcases h2.2 m (by omega) (by omega) with z | z | z <;> omega
    intro w_2 q2
    obtain ⟨zm, tm, fm⟩ := t_sub k33 lit_1
    replace fm := fm (by omega)
    have i2 := ri_I hI q2 (by omega)
    have v2 : ∀ f : Nat, f ≠ 33 → w_2.1 300 f = w.1 300 f := fun f hf => by rw [q2, sI_ne (by omega)]
    have n2 : Ti (w_2.1 300 33) (m : Int) := by rw [q2, sI_at, show (m : Int) = zm by omega]; exact tm
    have b2 : w_2.2.1 = w.2.1 := e2_I q2
    have en2 : (w_2.1 300 33).toNatClampNeg = m := by have := i_cz n2; omega
    refine ⟨vp_of n2 (by omega) (by omega), ?_⟩
    rw [en2, b2]
    have cJ : ct pJ (w.2.1 327) (m + 1) = ct pJ (w.2.1 327) m := by
      rw [ct_pop]
      rcases hpe with z | z
      · rw [(kK z).1]; rfl
      · rw [(k8q z).1]; rfl
    have cN : ct pN (w.2.1 327) (m + 1) = ct pN (w.2.1 327) m := by
      rw [ct_pop]
      rcases hpe with z | z
      · rw [(kK z).2.1]; rfl
      · rw [(k8q z).2.1]; rfl
    rw [cJ, cN] at h8
    rw [cJ] at h9 h4
    rw [cN] at h3
    refine ⟨fun c2 => ?_, fun c2 => ?_⟩
    · have z8 : (w.2.1 327 m).toInt = 8 := by
        rcases hpe with z | z
        · exact absurd (cq_eq (show Ti (w.2.1 327 m) 7 from z) lit_7 rfl) c2
        · exact z
      have cK : ct pK (w.2.1 327) (m + 1) = ct pK (w.2.1 327) m := by rw [ct_pop, (k8q z8).2.2]; rfl
      rw [cK] at h3
      refine hp 0 w_2 i2 (fun _ => Or.inr ⟨rfl, ⟨m, g, cd, u, r, a, t, wi, ⟨n2, by rw [v2 31 (by decide)]; exact k31, by rw [v2 34 (by decide)]; exact k34, by rw [v2 32 (by decide)]; exact k32, by rw [b2]; exact k315, by rw [v2 6 (by decide)]; exact k6, by rw [v2 8 (by decide)]; exact k8⟩, by rw [b2]; exact pl_pop h2, by rw [b2]; exact h3, by rw [b2]; exact h4, h5, h6, fun z => absurd z (by omega), by rw [b2]; exact h8, by rw [b2]; exact h9, bse_frame h10 (fun o _ => by rw [b2]) (fun k _ => by rw [b2]) (by rw [v2 6 (by decide)]; exact Int.le_refl _)⟩, a, (m : Int), by rw [v2 6 (by decide)]; exact k6, n2, by omega, by omega⟩)
    · have z7 : (w.2.1 327 m).toInt = 7 := by rw [c2]; decide
      have cK : ct pK (w.2.1 327) (m + 1) = ct pK (w.2.1 327) m + 1 := by rw [ct_pop, (kK z7).2.2]; rfl
      rw [cK] at h3
      intro w_4 q4
      have i4 := ri_I i2 q4 (by omega)
      obtain ⟨zw, tw, fw⟩ := t_sub (show Ti (w_2.1 300 32) wi by rw [v2 32 (by decide)]; exact k32) lit_1
      replace fw := fw (by omega)
      have v4 : ∀ f : Nat, f ≠ 33 → f ≠ 32 → w_4.1 300 f = w.1 300 f := fun f h1 h2 => by rw [q4, sI_ne (by omega), v2 f h1]
      have b4 : w_4.2.1 = w.2.1 := (e2_I q4).trans b2
      have k : ∀ r5 : Int32, pX11_must (fun w_7 => post (0 : Int32) w_7) r5 w_4 := by
        intro r5
        refine uX11_must i4 (fun w_7 i7 g7 => hp 0 w_7 i7 (fun nb => ?_))
        obtain ⟨-, -, f7, a5, e5, a7, ta5, te5, ta7, z1, z2⟩ := g7 nb
        have ea5 : a5 = a := t_un ta5 (by rw [v4 6 (by decide) (by decide)]; exact k6)
        have b7 : w_7.2.1 = w.2.1 := f7.1.trans b4
        have v7 : ∀ f : Nat, (f < 6 ∨ 9 < f) → f ≠ 33 → f ≠ 32 → w_7.1 300 f = w.1 300 f := fun f h0 h1 h2 => by rw [f7.2 f h0, v4 f h1 h2]
        have n7 : Ti (w_7.1 300 33) (m : Int) := by rw [f7.2 33 (by decide), q4, sI_ne (by omega)]; exact n2
        obtain ⟨t7, tt7⟩ := t_any (w_7.1 300 8)
        refine Or.inr ⟨rfl, ⟨m, g, cd, u, r, a7, t7, wi - 1, ⟨n7, by rw [v7 31 (by decide) (by decide) (by decide)]; exact k31, by rw [v7 34 (by decide) (by decide) (by decide)]; exact k34, by rw [f7.2 32 (by decide), q4, sI_at, ← fw]; exact tw, by rw [b7]; exact k315, ta7, tt7⟩, by rw [b7]; exact pl_pop h2, by rw [b7]; exact ⟨by omega, by omega⟩, by rw [b7]; exact h4, h5, h6, fun z => absurd z (by omega), ⟨fun z => absurd z (by omega), fun z => absurd z (by omega), fun _ => by rw [b7]; have := h8.2.2 rfl; omega⟩, by rw [b7]; exact h9, bse_frame h10 (fun o _ => by rw [b7]) (fun k _ => by rw [b7]) (by rw [show (w.1 300 6).toInt = a from k6, show (w_7.1 300 6).toInt = a7 from ta7]; omega)⟩, a7, (m : Int), ta7, n7, by omega, by omega⟩
      have ta4 : Ti (w_4.1 300 6) a := by rw [v4 6 (by decide) (by decide)]; exact k6
      exact uX11_isSignHere lit_41 ta4 (by omega) i4 (k 0) (fun _ _ => k 1)
  · replace c := c_nle tx lit_0 c
    have hae : a < e1 := y4 (by omega)
    have push : ∀ (sv : Int32) (zs : Int), Ti sv zs → zs ≠ 126 → (zs < 97 ∨ 122 < zs) → pX11_pushE (fun w_12 => pX11_goOn (fun w_13 => post (1 : Int32) w_13) w_12) x1 sv w := by
      intro sv zs ts hs1 hs2
      refine uX11_pushE hI k33 (by omega) (fun w_12 i12 o12 p12 s12 f12 n12 => ?_)
      have te12 : Ti (w_12.1 300 7) e1 := by rw [f12 7 (by decide)]; exact te1
      refine uX11_goOn i12 te12 (fun w_13 i13 g13 f13 => hp 1 w_13 i13 (fun _ => Or.inl ⟨rfl, ?_⟩))
      obtain ⟨a9, e9, t9, ta9, te9, tt9, x1', x2', x3', x4', x5'⟩ := g13
      have v13 : ∀ f : Nat, (f < 6 ∨ 9 < f) → f ≠ 33 → w_13.1 300 f = w.1 300 f := fun f h0 h1 => by rw [f13.2 f h0, f12 f h1]
      have ar : ∀ o : Nat, o ≠ 327 → o ≠ 328 → w_13.2.1 o = w.2.1 o := fun o h0 h1 => by rw [f13.1, o12 o h0 h1]
      have W13 : w_13.2.1 327 = upd (w.2.1 327) (m + 1) x1 := by rw [f13.1, p12]
      have S13 : w_13.2.1 328 = upd (w.2.1 328) (m + 1) sv := by rw [f13.1, s12]
      have txx : x1.toInt = zx := tx
      have hz : zx = 1 ∨ zx = 2 ∨ zx = 4 ∨ zx = 5 ∨ zx = 6 := by omega
      have cJ : ct pJ (w_13.2.1 327) (m + 1 + 1) = ct pJ (w.2.1 327) (m + 1) + 1 := by rw [W13, ct_push, txx, (kJ hz).1]; rfl
      have cN : ct pN (w_13.2.1 327) (m + 1 + 1) = ct pN (w.2.1 327) (m + 1) := by rw [W13, ct_push, txx, (kJ hz).2.1]; rfl
      have cK : ct pK (w_13.2.1 327) (m + 1 + 1) = ct pK (w.2.1 327) (m + 1) := by rw [W13, ct_push, txx, (kJ hz).2.2]; rfl
      have ph := h8.2.2 rfl
      refine ⟨⟨m + 1 + 1, g, cd, u, r, a9, t9, wi, ⟨by rw [f13.2 33 (by decide)]; exact n12, by rw [v13 31 (by decide) (by decide)]; exact k31, by rw [v13 34 (by decide) (by decide)]; exact k34, by rw [v13 32 (by decide) (by decide)]; exact k32, by rw [ar 315 (by decide) (by decide)]; exact k315, ta9, tt9⟩, ?_, by rw [cN, cK]; exact h3, ⟨h4.1, by rw [cJ]; omega⟩, h5, h6, fun _ => by omega, ⟨fun _ => by rw [cJ, cN]; omega, fun _ _ => by rw [cJ, cN]; omega, fun z => absurd z (by omega)⟩, ⟨h9.1, by rw [ar 325 (by decide) (by decide)]; exact h9.2.1, by rw [cJ]; have := h9.2.2; omega⟩, bse_frame h10 (fun o ho => ar o (by omega) (by omega)) (fun k _ => by rw [ar 325 (by decide) (by decide)]) (by rw [show (w.1 300 6).toInt = a from k6, show (w_13.1 300 6).toInt = a9 from ta9]; omega)⟩, a9, ta9, by omega⟩
      rw [W13, S13]
      refine pl_push h2 (by omega) (Or.inl ?_)
      rw [txx, show sv.toInt = zs from ts]
      exact ⟨hz, hs1, hs2⟩
    refine ⟨fun c2 => ⟨fun c3 => ?_, fun c3 => push _ _ lit_124 (by omega) (by omega)⟩, fun c2 => push _ _ lit_38 (by omega) (by omega)⟩
    replace c2 := c_neq tx lit_2 c2
    replace c3 := c_neq tx lit_1 c3
    refine gX11_sign k6 (ri_ig hI) (by omega) (fun r10 z10 t10 p10 p11 p12 => ?_)
    exact push r10 z10 t10 (by omega) (by omega)
set_option maxHeartbeats 4000000 in
theorem u_23 {post : Int32 → Wd → Prop} {x1 : Int32} {zx : Int} {n0 : Nat} (tx : Ti x1 zx) (hrk : zx = 0 ∨ ((zx = 1 ∨ zx = 2) ∧ t = 3) ∨ ((zx = 4 ∨ zx = 5 ∨ zx = 6) ∧ t = 5 ∧ s a ≠ 126 ∧ (s a < 97 ∨ 122 < s a))) (hp : ∀ (rr : Int32) (w9 : Wd), RI T W H P S M sz s bn w9 → (¬ Bad w9 → BP bn hd A0 q f0 a n0 rr w9) → post rr w9) : ∀ (N m : Nat) (g : Nat → Int) (cd u r wi : Int) (w : Wd), RI T W H P S M sz s bn w → ¬ Bad w → EC bn hd A0 q f0 0 (m + 1) g cd u r a t wi w → m + 1 ≤ n0 → m + 1 < N → pX11_behindUnit_23 post N x1 w := by
  intro N
  induction N with
  | zero => intro m g cd u r wi w hI hb hE h0 hm; exact absurd hm (by omega)
  | succ N ih =>
    intro m g cd u r wi w hI hb hE h0 hm
    have hn := ec_n hE (by omega)
    obtain ⟨⟨k33, k31, k34, k32, k315, k6, k8⟩, h2, h3, h4, h5, h6, h7, h8, h9, h10⟩ := id hE
    unfold pX11_behindUnit_23
    obtain ⟨zm, tm, fm⟩ := t_sub k33 lit_1
    replace fm := fm (by omega)
    have em : ((w.1 300 33) - (1 : Int32)).toNatClampNeg = m := by have := i_cz tm; omega
    have vm : vp_in ((w.1 300 33) - (1 : Int32)) 90 := vp_of tm (by omega) (by omega)
    rw [em]
    obtain ⟨zk, tk⟩ := t_any (w.2.1 327 m)
    have tkk : (w.2.1 327 m).toInt = zk := tk
    refine ⟨vm, fun c => ?_, fun c => ⟨vm, fun c2 => ?_, fun c2 => ?_⟩⟩
    · replace c := c_lt lit_6 tk c
      exact u_104 tx hrk hI hb hE h0 (fun _ => by omega) hp
    · replace c2 := c_lt tk tx c2
      refine u_104 tx hrk hI hb hE h0 (fun z => ?_) hp
      by_cases hm0 : m = 0
      · subst hm0; have := h2.1 (by omega); omega
      · rcases h2.2 m (by omega) (by omega) with y | y | y <;> omega
    · replace c := c_nlt lit_6 tk c
      have hm0 : m ≠ 0 := by
        intro z
        subst z
        have := h2.1 (by omega)
        omega
      obtain ⟨m1, hm1⟩ : ∃ m1 : Nat, m = m1 + 1 := ⟨m - 1, by omega⟩
      subst hm1
      intro w_3 q3
      have i3 := ri_I hI q3 (by omega)
      have v3 : ∀ f : Nat, f ≠ 33 → w_3.1 300 f = w.1 300 f := fun f hf => by rw [q3, sI_ne (by omega)]
      have n3 : Ti (w_3.1 300 33) ((m1 + 1 : Nat) : Int) := by rw [q3, sI_at, show ((m1 + 1 : Nat) : Int) = zm by omega]; exact tm
      have b3 : w_3.2.1 = w.2.1 := e2_I q3
      have en3 : (w_3.1 300 33).toNatClampNeg = m1 + 1 := by have := i_cz n3; omega
      rw [en3, b3]
      have ph := h8.2.2 rfl
      have asz : a ≤ 1600 := by
        obtain ⟨a1, e1, t1, ta1, te1, tt1, y1, y2, y3, y4, y5⟩ := hI.2.2.2.2.2.2
        have := t_un k6 ta1
        have := hI.2.2.1
        omega
      obtain ⟨zv, tv⟩ := t_any (w.2.1 328 (m1 + 1))
      have tvv : (w.2.1 328 (m1 + 1)).toInt = zv := tv
      have hPE := h2.2 (m1 + 1) (by omega) (by omega)
      rw [tkk, tvv] at hPE
      have popJ := ct_pop pJ (w.2.1 327) (m1 + 1)
      have popN := ct_pop pN (w.2.1 327) (m1 + 1)
      have popK := ct_pop pK (w.2.1 327) (m1 + 1)
      rw [tkk] at popJ popN popK
      -- the code of what is taken off
      have fin : ∀ (w4 : Wd) (wi4 : Int), RI T W H P S M sz s bn w4 → w4.2.1 = w.2.1 → (∀ f : Nat, f ≠ 33 → f ≠ 32 → w4.1 300 f = w.1 300 f) → Ti (w4.1 300 33) ((m1 + 1 : Nat) : Int) → Ti (w4.1 300 32) wi4 → (zk = 3 ∧ wi4 = wi - 1 ∨ zk ≠ 3 ∧ wi4 = wi) → pX11_behindUnit_87 (pX11_behindUnit_23 post N) post x1 w4 := by
        intro w4 wi4 i4 b4 v4 n4 k4 hw4
        have en4 : (w4.1 300 33).toNatClampNeg = m1 + 1 := by have := i_cz n4; omega
        unfold pX11_behindUnit_87
        refine ⟨vp_of n4 (by omega) (by omega), ?_⟩
        rw [en4, b4]
        refine uX11_emit i4 (by rw [v4 31 (by decide) (by decide)]; exact k31) (by omega) (fun w5 i5 o5 c5 f5 n5 => ?_)
        have W5 : w5.2.1 327 = w.2.1 327 := by rw [o5 327 (by decide) (by decide), b4]
        have S5 : w5.2.1 328 = w.2.1 328 := by rw [o5 328 (by decide) (by decide), b4]
        have v5 : ∀ f : Nat, f ≠ 33 → f ≠ 32 → f ≠ 31 → w5.1 300 f = w.1 300 f := fun f h0 h1 h2 => by rw [f5 f h2, v4 f h0 h1]
        have nb5 : ¬ Bad w5 := fun z => hb (fun y => z (by rw [v5 4 (by decide) (by decide) (by decide)]; exact y))
        have key : ∃ mm : Int, SS (w.2.1 328 (m1 + 1)) ((ct pJ (w.2.1 327) (m1 + 1 + 1) : Int) + (1 - 0)) mm ∧ mm = (ct pJ (w.2.1 327) (m1 + 1) : Int) + (1 - 0) ∧ ((ct pJ (w.2.1 327) (m1 + 1) : Int) + (ct pN (w.2.1 327) (m1 + 1) : Int) + 1 = (ct pJ (w.2.1 327) (m1 + 1 + 1) : Int) + (ct pN (w.2.1 327) (m1 + 1 + 1) : Int)) ∧ (ct pJ (w.2.1 327) (m1 + 1) ≤ ct pJ (w.2.1 327) (m1 + 1 + 1)) ∧ wi4 = (ct pN (w.2.1 327) (m1 + 1) : Int) + (ct pK (w.2.1 327) (m1 + 1) : Int) := by
          rcases hPE with z | z | z
          · obtain ⟨z1, z2, z3⟩ := kJ z.1
            rw [z1] at popJ
            rw [z2] at popN
            rw [z3] at popK
            simp at popJ popN popK
            refine ⟨_, ⟨by omega, Or.inr (Or.inr ⟨by rw [tvv]; exact z.2.1, by rw [tvv]; exact z.2.2, by omega, rfl⟩)⟩, by omega, by omega, by omega, by omega⟩
          · obtain ⟨z1, z2, z3⟩ := kN z.1
            rw [z1] at popJ
            rw [z2] at popN
            rw [z3] at popK
            simp at popJ popN popK
            refine ⟨_, ⟨by omega, Or.inl ⟨by rw [tvv]; exact z.2, by omega, rfl⟩⟩, by omega, by omega, by omega, by omega⟩
          · exact absurd z (by omega)
        obtain ⟨mm, ks, k1, k2, k3, k4'⟩ := key
        obtain ⟨g2, gg1, gg2, gg3⟩ := g_app (by omega) h6.2 h9 ks
        refine ih m1 g2 (cd + 1) u r wi4 w5 i5 nb5 ?_ (by omega) (by omega)
        refine ⟨⟨by rw [f5 33 (by decide)]; exact n4, n5, by rw [v5 34 (by decide) (by decide) (by decide)]; exact k34, by rw [f5 32 (by decide)]; exact k4, by rw [o5 315 (by decide) (by decide), b4]; exact k315, by rw [v5 6 (by decide) (by decide) (by decide)]; exact k6, by rw [v5 8 (by decide) (by decide) (by decide)]; exact k8⟩, by rw [W5, S5]; exact pl_pop h2, by rw [W5]; exact ⟨k4', by omega⟩, by rw [W5]; exact ⟨h4.1, by omega⟩, h5, ⟨h6.1, by omega⟩, fun z => absurd z (by omega), ⟨fun z => absurd z (by omega), fun z => absurd z (by omega), fun _ => by rw [W5]; omega⟩, ⟨gg1, by rw [c5, b4]; exact gg2, by rw [W5, gg3]; exact k1⟩, ?_⟩
        refine bse_frame h10 (fun o ho => by rw [o5 o (by omega) (by omega), b4]) (fun k hk => by rw [c5, b4, pk_un (by omega)]) ?_
        rw [v5 6 (by decide) (by decide) (by decide)]
        exact Int.le_refl _
      refine ⟨vp_of n3 (by omega) (by omega), fun d => ?_, fun d => ?_⟩
      · replace d := c_neq tk lit_3 d
        exact fin w_3 wi i3 b3 (fun f h1 _ => v3 f h1) n3 (by rw [v3 32 (by decide)]; exact k32) (Or.inr ⟨d, rfl⟩)
      · replace d := c_eq tk lit_3 d
        intro w_5 q5
        obtain ⟨zw, tw, fw⟩ := t_sub (show Ti (w_3.1 300 32) wi by rw [v3 32 (by decide)]; exact k32) lit_1
        have hpN : 0 < ct pN (w.2.1 327) (m1 + 1 + 1) := by rw [popN, (kN d).2.1]; simp
        replace fw := fw (by omega)
        exact fin w_5 (wi - 1) (ri_I i3 q5 (by omega)) ((e2_I q5).trans b3) (fun f h1 h2 => by rw [q5, sI_ne (by omega), v3 f h1]) (by rw [q5, sI_ne (by omega)]; exact n3) (by rw [q5, sI_at, ← fw]; exact tw) (Or.inl ⟨d, rfl⟩)
theorem uX11_behindUnit {post : Int32 → Wd → Prop} (hI : RI T W H P S M sz s bn w) (hb : ¬ Bad w) (hE : EC bn hd A0 q f0 0 n g cd u r a t wi w) (hn1 : 1 ≤ n) (hp : ∀ (rr : Int32) (w9 : Wd), RI T W H P S M sz s bn w9 → (¬ Bad w9 → BP bn hd A0 q f0 a n rr w9) → post rr w9) : pX11_behindUnit post w := by
  have hn := ec_n hE (by omega)
  obtain ⟨⟨k33, k31, k34, k32, k315, k6, k8⟩, h2, -⟩ := id hE
  obtain ⟨m, hm⟩ : ∃ m : Nat, n = m + 1 := ⟨n - 1, by omega⟩
  subst hm
  have ha : 0 ≤ a := by
    obtain ⟨a1, e1, t1, ta1, te1, tt1, y1, -⟩ := hI.2.2.2.2.2.2
    have := t_un k6 ta1
    omega
  unfold pX11_behindUnit
  refine uX11_rankHere hI k6 ha k8 (fun r1 z1 t1 p1 => ?_)
  have go : ∃ n9, pX11_behindUnit_23 post n9 r1 w := ⟨1000, u_23 (n0 := m + 1) t1 p1 hp 1000 m g cd u r wi w hI hb hE (by omega) (by omega)⟩
  refine ⟨fun _ => go, fun _ => ?_⟩
  exact uX11_isCompared k33 ⟨hn1, by omega⟩ h2 (fun r4 => ⟨fun _ => go, fun _ => uX11_misplaced hI (fun w7 i7 d7 => hp 1 w7 i7 (fun z => absurd d7 z))⟩)
end EU
