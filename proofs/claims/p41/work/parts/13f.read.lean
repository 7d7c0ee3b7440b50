section R2
variable {T W H P S M sz : Int} {s : Int → Int} {bn : Nat} {w w9 : Wd} {hd A0 f0 : Int} {q : Nat}
theorem bad_fg (hf : FG w w9) (h : ¬ Bad w) : ¬ Bad w9 := fun z => h (fun y => z (by rw [hf.2 4 (by decide)]; exact y))
theorem bad_1 (e : w9.1 = w.1) (h : ¬ Bad w9) : ¬ Bad w := fun z => h (fun y => z (by rw [← e]; exact y))
theorem bb_B {o i : Nat} {v : Int64} (h : BB bn hd A0 q w) (e : w9 = sB w o i v) : BB bn hd A0 q w9 := by
  obtain ⟨cd, u, a, k1, k2, k3, k4, k5, k6, k7⟩ := h
  have f : w9.1 = w.1 := e1_B e
  have b : w9.2.1 = w.2.1 := e2_B e
  exact ⟨cd, u, a, by rw [f]; exact k1, by rw [b]; exact k2, by rw [f]; exact k3, k4, k5, k6, bs_frame k7 (fun _ _ => by rw [b]) (fun _ _ => by rw [b]) (by rw [f]; exact Int.le_refl _)⟩
theorem bb_A {o i : Nat} {v : Int32} (h : BB bn hd A0 q w) (e : w9 = sA w o i v) (ho : o = 321 ∨ o = 322 ∨ o = 323 ∨ o = 316 ∨ o = 317) : BB bn hd A0 q w9 := by
  obtain ⟨cd, u, a, k1, k2, k3, k4, k5, k6, k7⟩ := h
  have f : w9.1 = w.1 := e1_A e
  exact ⟨cd, u, a, by rw [f]; exact k1, by rw [e, sA_ne (by omega)]; exact k2, by rw [f]; exact k3, k4, k5, k6, bs_frame k7 (fun o ho => by rw [e, sA_ne (by omega)]) (fun _ _ => by rw [e, sA_ne (by omega)]) (by rw [f]; exact Int.le_refl _)⟩
theorem bb_hd (h : BB bn hd A0 q w) : Ti (w.2.1 314 bn) hd ∧ 0 ≤ hd ∧ hd ≤ 4 := by
  obtain ⟨cd, u, a, k1, k2, k3, k4, k5, k6, k7⟩ := h
  exact k7.2.1
set_option maxHeartbeats 4000000 in
theorem u_103 {post : Wd → Prop} {hn : Nat} (hI : RI T W H P S M sz s bn w) (hB : ¬ Bad w → BB bn (hn : Int) A0 (2 * hn + 1) w ∧ hn ≤ 3) (hp : ∀ w9 : Wd, RI T W H P S M sz s bn w9 → (¬ Bad w9 → BB bn ((hn : Int) + 1) A0 (2 * hn + 2) w9) → post w9) : pX11_readHand_103 post w := by
  unfold pX11_readHand_103
  have k : ∀ r1 : Int32, pX11_must (fun w_3 => pX11_isGood (fun r_4 w_5 => (r_4 = 0 → (pX11_readHand_138 post w_5)) ∧ (¬ r_4 = 0 → (vp_in (w_5.1 300 30) 2 ∧ pX11_readRule (fun w_7 => pX11_readHand_138 post w_7) (((2 : Int32) * (w_5.2.1 314 (w_5.1 300 30).toNatClampNeg)) + (1 : Int32)) w_5))) w_3) r1 w := by
    intro r1
    refine uX11_must hI (fun w_3 i3 g3 => ?_)
    refine ⟨fun c => b0 (u_138 (q := 2 * hn + 2) i3 (fun z => absurd c z) (fun w9 i9 h9 => hp w9 i9 (fun z => (h9 z).1))), fun c => b1 ⟨ri_bv i3, ?_⟩⟩
    have nb3 : ¬ Bad w_3 := fun z => z c
    obtain ⟨nb, -, hf, a, e, a9, ta, te, ta9, y1, y2⟩ := g3 nb3
    obtain ⟨hBB, hh⟩ := hB nb
    have hB3 := bb_fg hBB hf ta ta9 (by omega)
    have tk := (bb_hd hB3).1
    rw [ri_b i3]
    obtain ⟨z1, t1, f1⟩ := t_mul lit_2 tk
    replace f1 := f1 (by omega)
    obtain ⟨z2, t2, f2⟩ := t_add t1 lit_1
    replace f2 := f2 (by omega)
    exact uX11_readRule (q := 2 * hn + 1) (by rw [show ((2 * hn + 1 : Nat) : Int) = z2 by omega]; exact t2) (by omega) i3 hB3 (fun w_7 i7 h7 => u_138 (q := 2 * hn + 2) i7 (fun z => ⟨h7 z, by omega⟩) (fun w9 i9 h9 => hp w9 i9 (fun z => (h9 z).1)))
  exact uX11_isWord (k 0) (fun _ _ => k 1)
set_option maxHeartbeats 4000000 in
theorem u_48 {post : Wd → Prop} {hn : Nat} {x1 : Int32} (hI : RI T W H P S M sz s bn w) (hB : ¬ Bad w → BB bn (hn : Int) A0 (2 * hn) w ∧ hn ≤ 3 ∧ Ti x1 (4 * (bn : Int) + (hn : Int))) (hp : ∀ w9 : Wd, RI T W H P S M sz s bn w9 → (¬ Bad w9 → BB bn ((hn : Int) + 1) A0 (2 * hn + 2) w9) → post w9) : pX11_readHand_48 post x1 w := by
  unfold pX11_readHand_48
  refine ⟨fun c => b0n (hp w hI (fun z => absurd c z)), fun c => b1n ?_⟩
  have nb : ¬ Bad w := fun z => z c
  obtain ⟨hBB, hh, tx⟩ := hB nb
  have hbl := hI.2.2.2.2.1.1
  refine ⟨vp_of tx (by omega) (by omega), ?_⟩
  intro w_4 q4
  have i4 := ri_B hI q4
  have hB4 := bb_B hBB q4
  have nb4 : ¬ Bad w_4 := fun z => nb (fun y => z (by rw [e1_B q4]; exact y))
  obtain ⟨a, e, t, ta, te, tt, y1, y2, y3, y4⟩ := ri_at i4
  refine uX11_goOn i4 te (fun w_5 i5 g5 f5 => ?_)
  obtain ⟨a5, e5, t5, ta5, te5, tt5, x1', -⟩ := g5
  have hB5 := bb_fg hB4 f5 ta ta5 (by omega)
  have k : ∀ r6 : Int32, pX11_must (fun w_8 => pX11_isGood (fun r_9 w_10 => (r_9 = 0 → (pX11_readHand_103 post w_10)) ∧ (¬ r_9 = 0 → (vp_in (w_10.1 300 30) 2 ∧ pX11_readRule (fun w_12 => pX11_readHand_103 post w_12) ((2 : Int32) * (w_10.2.1 314 (w_10.1 300 30).toNatClampNeg)) w_10))) w_8) r6 w_5 := by
    intro r6
    refine uX11_must i5 (fun w_8 i8 g8 => ?_)
    refine ⟨fun c => b0 (u_103 (hn := hn) i8 (fun z => absurd c z) hp), fun c => b1 ⟨ri_bv i8, ?_⟩⟩
    obtain ⟨-, -, hf, a', e', a9, ta', te', ta9, z1, z2⟩ := g8 (fun z => z c)
    have hB8 := bb_fg hB5 hf ta' ta9 (by omega)
    rw [ri_b i8]
    obtain ⟨zz, t1, f1⟩ := t_mul lit_2 (bb_hd hB8).1
    replace f1 := f1 (by omega)
    exact uX11_readRule (q := 2 * hn) (by rw [show ((2 * hn : Nat) : Int) = zz by omega]; exact t1) (by omega) i8 hB8 (fun w_12 i12 h12 => u_103 (hn := hn) i12 (fun z => ⟨h12 z, hh⟩) hp)
  exact uX11_isWord (k 0) (fun _ _ => k 1)
theorem uX11_readHand {post : Wd → Prop} {hn : Nat} (hI : RI T W H P S M sz s bn w) (hB : ¬ Bad w → BB bn (hn : Int) A0 (2 * hn) w ∧ hn ≤ 3) (hB0 : ¬ Bad w) (hp : ∀ w9 : Wd, RI T W H P S M sz s bn w9 → (¬ Bad w9 → BB bn ((hn : Int) + 1) A0 (2 * hn + 2) w9) → post w9) : pX11_readHand post w := by
  unfold pX11_readHand
  obtain ⟨hBB, hh⟩ := hB hB0
  have hbl := hI.2.2.2.2.1.1
  refine ⟨ri_bv hI, ?_⟩
  rw [ri_b hI]
  intro x1_1 q1
  have tk := bb_hd hBB
  obtain ⟨z1, t1, f1⟩ := t_mul lit_4 (ri_bt hI)
  replace f1 := f1 (by omega)
  obtain ⟨z2, t2, f2⟩ := t_add t1 tk.1
  replace f2 := f2 (by omega)
  have tx : Ti x1_1 (4 * (bn : Int) + (hn : Int)) := by rw [q1, show 4 * (bn : Int) + (hn : Int) = z2 by omega]; exact t2
  refine ⟨fun c => uX11_handHere hI tk.1 tk.2.2 (fun r3 => ⟨fun _ => u_48 hI (fun _ => ⟨hBB, hh, tx⟩) hp, fun _ => uX11_fails lit_3 (by omega) hI (fun w6 i6 d6 => u_48 (hn := hn) i6 (fun z => absurd d6 z) hp)⟩), fun c => uX11_misplaced hI (fun w7 i7 d7 => u_48 (hn := hn) i7 (fun z => absurd d7 z) hp)⟩
/-! first -/
theorem or_rng {x y : Int32} {v : Nat} (hv : v ≤ 12) (h1 : 0 ≤ x.toInt ∧ x.toInt < 2 ^ v) (h2 : 0 ≤ y.toInt ∧ y.toInt < 2 ^ v) : 0 ≤ (x ||| y).toInt ∧ (x ||| y).toInt < 2 ^ v := by
  have e5 : ((2 ^ v : Nat) : Int) = (2 : Int) ^ v := by rw [Int.natCast_pow]; rfl
  have q := pw_rng v (by omega)
  have ha := i_tq (x := x) h1.1
  have hb := i_tq (x := y) h2.1
  have ea := i_tp ha
  have eb := i_tp hb
  have l1 : x.toBitVec.toNat < 2 ^ v := by omega
  have l2 : y.toBitVec.toNat < 2 ^ v := by omega
  have h3 : (x ||| y).toBitVec.toNat < 2 ^ v := by
    rw [Int32.toBitVec_or, BitVec.toNat_or]
    exact Nat.or_lt_two_pow l1 l2
  rw [i_tp (x := x ||| y) (by omega)]
  omega
theorem shl_rng {m : Int32} {z : Int} {v : Nat} (t : Ti m z) (hv : v ≤ 12) (h0 : 0 ≤ z) (h1 : z < (v : Int)) : 0 ≤ ((1 : Int32) <<< (m &&& 31)).toInt ∧ ((1 : Int32) <<< (m &&& 31)).toInt < 2 ^ v := by
  have t : m.toInt = z := t
  obtain ⟨j, hj, rfl⟩ := i_nI (n := 12) (x := m) (by omega) (by omega)
  rw [nI_toInt (by omega)] at t
  rw [shl_tab j (by omega)]
  have key : ∀ v : Nat, v < 13 → ∀ j : Nat, j < v → 0 ≤ (2 : Int) ^ j ∧ (2 : Int) ^ j < 2 ^ v := by decide +kernel
  exact key v (by omega) j (by omega)
/-- the bank while its first row is read -/
def BF (bn : Nat) (hd A0 : Int) (q : Nat) (w : Wd) : Prop := BB bn hd A0 q w ∧ 1 ≤ (w.2.1 318 bn).toInt
set_option maxHeartbeats 4000000 in
theorem u_rf12 {post : Wd → Prop} (hp : ∀ w9 : Wd, RI T W H P S M sz s bn w9 → (¬ Bad w9 → BF bn hd A0 q w9) → post w9) : ∀ (N : Nat) (x1 : Int32) (w : Wd), RI T W H P S M sz s bn w → (¬ Bad w → BF bn hd A0 q w) → (¬ Bad w → ∀ a : Int, Ti (w.1 300 6) a → sz - a + 1 < (N : Int)) → 1 ≤ N → pX11_readFirst_12 post N x1 w := by
  intro N
  induction N with
  | zero => intro x1 w hI h1 h2 hm; exact absurd hm (by omega)
  | succ N ih =>
    intro x1 w hI h1 h2 hm
    unfold pX11_readFirst_12
    refine ⟨fun c => b0 (hp w hI (fun z => absurd c z)), fun c => b1 ⟨fun _ => hp w hI h1, fun _ => ?_⟩⟩
    have nb : ¬ Bad w := fun z => z c
    have hF := h1 nb
    obtain ⟨⟨cd, u, a, k31, k315, k6, hu, hc, hph, hS⟩, hl⟩ := id hF
    obtain ⟨g1, g2, g3, g4, g5, g6⟩ := id hS
    obtain ⟨a', e', t', ta', te', tt', y1', y2', y3', y4'⟩ := ri_at hI
    have qa := t_un k6 ta'
    have hN := h2 nb a k6
    intro x2_5 q5
    refine ⟨ri_bv hI, ?_⟩
    rw [ri_b hI]
    obtain ⟨zw, tw⟩ := t_any (w.2.1 312 bn)
    have fw := Rg.g g1 tw
    obtain ⟨zv, tv, fv⟩ := t_sub tw lit_1
    replace fv := fv (by omega)
    refine uX11_numeral lit_0 tv hI (fun r6 w_7 i7 h7 => ?_)
    refine ⟨fun c2 => b0n (hp w_7 i7 (fun z => absurd c2 z)), fun c2 => b1n ⟨ri_bv i7, ?_⟩⟩
    have nb7 : ¬ Bad w_7 := fun z => z c2
    obtain ⟨zr, tr, hr1, hr2, -, hf, a1, a9, ta1, ta9, ha⟩ := h7 nb7
    have ea1 := t_un ta1 k6
    have hB7 := bb_fg (⟨cd, u, a, k31, k315, k6, hu, hc, hph, hS⟩ : BB bn hd A0 q w) hf ta1 ta9 (by omega)
    have k76 : ∀ w' : Wd, RI T W H P S M sz s bn w' → (¬ Bad w' → w' = w_7) → pX11_readFirst_76 (pX11_readFirst_12 post N) post r6 w' := by
      intro w' i' h'
      unfold pX11_readFirst_76
      refine ⟨ri_bv i', ri_bv i', ?_⟩
      rw [ri_b i']
      intro w_1 e1
      have i1 := ri_A i' e1 (by decide)
      have f1 : w_1.1 = w'.1 := e1_A e1
      have go : ∀ x : Int32, pX11_readFirst_104 (pX11_readFirst_12 post N) post x w_1 := by
        intro x
        unfold pX11_readFirst_104
        refine ih x w_1 i1 (fun nb1 => ?_) (fun nb1 a2 ta2 => ?_) (by omega)
        · have ew := h' (bad_1 f1 nb1)
          subst ew
          have ar : ∀ o : Nat, o ≠ 313 → w_1.2.1 o = w'.2.1 o := fun o ho => by rw [e1, sA_ne ho]
          obtain ⟨cd7, u7, a7, l31, l315, l6, lu, lc, lph, s1, s2, s3, s4, s5, s6⟩ := hB7
          have ezw : (w'.2.1 312 bn).toInt = zw := by rw [hf.1]; exact tw
          obtain ⟨vw, hvw⟩ : ∃ vw : Nat, zw = (vw : Int) := ⟨zw.toNat, by omega⟩
          have el : (w'.2.1 318 bn) = (w.2.1 318 bn) := by rw [hf.1]
          refine ⟨⟨cd7, u7, a7, by rw [f1]; exact l31, by rw [ar 315 (by decide)]; exact l315, by rw [f1]; exact l6, lu, lc, lph, ?_⟩, by rw [ar 318 (by decide), el]; exact hl⟩
          unfold BS
          rw [ar 312 (by decide), ar 314 (by decide), ar 318 (by decide), ar 319 (by decide), ar 320 (by decide), ar 325 (by decide), f1]
          refine ⟨s1, s2, ?_, fun z => absurd z (by rw [el]; omega), s5, s6⟩
          rw [e1, sA_at]
          rw [ezw, hvw, show ((vw : Nat) : Int).toNat = vw by omega] at s3 ⊢
          exact or_rng (by omega) s3 (shl_rng tr (by omega) (by omega) (by omega))
        · have ew := h' (bad_1 f1 nb1)
          subst ew
          rw [f1] at ta2
          have := t_un ta2 ta9
          omega
      exact ⟨fun _ => go 0, fun _ => go 1⟩
    exact ⟨fun _ => k76 w_7 i7 (fun _ => rfl), fun _ => uX11_fails lit_3 (by omega) i7 (fun w12 i12 d12 => k76 w12 i12 (fun z => absurd d12 z))⟩
theorem uX11_readFirst {post : Wd → Prop} (hI : RI T W H P S M sz s bn w) (hB : ¬ Bad w → BF bn hd A0 q w) (hp : ∀ w9 : Wd, RI T W H P S M sz s bn w9 → (¬ Bad w9 → BF bn hd A0 q w9) → post w9) : pX11_readFirst post w := by
  unfold pX11_readFirst
  refine ⟨ri_bv hI, ?_⟩
  rw [ri_b hI]
  intro w_1 e1
  have i1 := ri_nar hI e1 (by omega) (by decide)
  have f1 : w_1.1 = w.1 := e1_A e1
  refine ⟨70000, u_rf12 hp 70000 1 w_1 i1 (fun nb => ?_) (fun nb a ta => ?_) (by omega)⟩
  · have q := hB (bad_1 f1 nb)
    exact ⟨bb_A q.1 e1 (by omega), by rw [e1, sA_ne (by decide)]; exact q.2⟩
  · obtain ⟨a', e', t', ta', te', tt', y1', y2', y3', y4'⟩ := ri_at i1
    have := t_un ta ta'
    have := hI.2.2.1
    omega
end R2
