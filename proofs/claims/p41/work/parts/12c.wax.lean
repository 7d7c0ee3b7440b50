section WAX2
variable {T W H P S M : Int} {w : Wd}
def TB (P H : Int) (w : Wd) : Prop := WN P (4 * H) P (w.2.1 352) ∧ ∀ j : Nat, j < 5 → WL (4 * H) (w.2.1 351) (w.2.1 352) j P
theorem tb_same {w w9 : Wd} (h : TB P H w) (e1 : w9.2.1 351 = w.2.1 351) (e2 : w9.2.1 352 = w.2.1 352) : TB P H w9 := by
  unfold TB
  rw [e1, e2]
  exact h
set_option maxHeartbeats 4000000 in
theorem l_wax141 {k121 : Int32 → Int32 → Int32 → Wd → Prop} {post : Int32 → Wd → Prop} {x3 x4 x5 : Int32} {k r cs : Nat} {v : Int} (t4 : Ti x4 (r : Int)) (t5 : Ti x5 (k : Int)) (hk1 : 1 ≤ k ∧ k ≤ 4) (hr : (r : Int) < P) (hI : IM T W H P S M w) (hT : TB P H w) (hL : Rg (w.1 300 48) 0 (5 - k)) (hv : (w.2.1 351 (4096 * k + r)).toInt = v) (hv2 : v < 1000000) (hcs : (cs : Int) < 4 * H) (hc : (w.2.1 351 (4096 * (k - 1) + (w.2.1 352 (16 * r + cs)).toNatClampNeg)).toInt + 1 + ((cs : Int) % 4) = v)
    (hk121 : ∀ (x4 x5 : Int32) (r : Nat) (w' : Wd), Ti x4 (r : Int) → Ti x5 ((k - 1 : Nat) : Int) → (r : Int) < P → IM T W H P S M w' → TB P H w' → Rg (w'.1 300 48) 0 (5 - ((k - 1 : Nat) : Int)) → (w'.2.1 351 (4096 * (k - 1) + r)).toInt < 1000000 → k121 x3 x4 x5 w') : ∀ (n : Nat) (x6 : Int32) (c : Nat), Ti x6 (c : Int) → c ≤ cs → (cs : Int) + 1 - c < (n : Int) → pX11_wax_141 k121 post n x3 x4 x5 x6 w := by
  intro n
  induction n with
  | zero => intro x6 c t6 h0 hm; exact absurd hm (by omega)
  | succ n ih =>
    intro x6 c t6 h0 hm
    unfold pX11_wax_141
    have hk := im_k hI
    obtain ⟨za, ta, fa⟩ := t_mul lit_4096 t5
    replace fa := fa (by omega)
    obtain ⟨zb, tb, fb⟩ := t_add ta t4
    replace fb := fb (by omega)
    have eb := i_cz tb
    obtain ⟨zc, tc, fc⟩ := t_mul lit_16 t4
    replace fc := fc (by omega)
    obtain ⟨zd, td, fd⟩ := t_add tc t6
    replace fd := fd (by omega)
    have ed := i_cz td
    have hd : (((16 : Int32) * x4) + x6).toNatClampNeg = 16 * r + c := by omega
    obtain ⟨zn, tn⟩ := t_any (w.2.1 352 (16 * r + c))
    have en := i_cz tn
    have fn := Rg.g (hT.1 r c hr (by omega)) tn
    obtain ⟨zg, tg, fg⟩ := t_sub t5 lit_1
    replace fg := fg (by omega)
    obtain ⟨zh, th, fh⟩ := t_mul lit_4096 tg
    replace fh := fh (by omega)
    obtain ⟨zi, ti, fi⟩ := t_add th tn
    replace fi := fi (by omega)
    have ei := i_cz ti
    have hi : (((4096 : Int32) * (x5 - (1 : Int32))) + (w.2.1 352 (16 * r + c))).toNatClampNeg = 4096 * (k - 1) + (w.2.1 352 (16 * r + c)).toNatClampNeg := by omega
    rw [hd, hi, show (((4096 : Int32) * x5) + x4).toNatClampNeg = 4096 * k + r by omega]
    obtain ⟨zs, ts⟩ := t_any (w.2.1 351 (4096 * (k - 1) + (w.2.1 352 (16 * r + c)).toNatClampNeg))
    have ls : 0 ≤ zs ∧ zs ≤ 1000000 := by
      have q := hT.2 (k - 1) (by omega) (w.2.1 352 (16 * r + c)).toNatClampNeg (by omega)
      rw [show (w.2.1 351 (4096 * (k - 1) + (w.2.1 352 (16 * r + c)).toNatClampNeg)).toInt = zs from ts] at q
      exact ⟨q.1, q.2.1⟩
    obtain ⟨zp, tp, fp⟩ := t_add ts lit_1
    replace fp := fp (by omega)
    obtain ⟨zq, tq, fq⟩ := t_rem t6 lit_4
    replace fq := fq (by omega)
    obtain ⟨zt, tt, ft⟩ := t_add tp tq
    replace ft := ft (by omega)
    obtain ⟨zu, tu, fu⟩ := t_add t6 lit_1
    replace fu := fu (by omega)
    have tv : Ti (w.2.1 351 (4096 * k + r)) v := hv
    refine ⟨vp_of td (by omega) (by omega), vp_of ti (by omega) (by omega), vp_of tb (by omega) (by omega), fun d => ?_, fun d => ?_⟩
    · replace d := c_eq tt tv d
      obtain ⟨zl, tl⟩ := t_any (w.1 300 48)
      have fl := Rg.g hL tl
      obtain ⟨zm, tm, fm⟩ := t_add tl lit_1
      replace fm := fm (by omega)
      refine ⟨vp_of tl (by omega) (by omega), ?_⟩
      intro w_2 e2 w_3 e3
      rw [show w_2.1 300 48 = w.1 300 48 by rw [e1_A e2]] at e3
      have i2 := ims_A hI e2 (by decide)
      have i3 := ims_48 i2 e3 tm (by omega) (by omega)
      have a351 : w_3.2.1 351 = w.2.1 351 := by rw [e2_I e3, e2, sA_ne (by decide)]
      have a352 : w_3.2.1 352 = w.2.1 352 := by rw [e2_I e3, e2, sA_ne (by decide)]
      refine ⟨vp_of td (by omega) (by omega), ?_⟩
      intro x4_4 e4 x5_5 e5
      rw [a352] at e4
      obtain ⟨zk, tk, fk⟩ := t_add t5 lit_m1
      replace fk := fk (by omega)
      refine hk121 x4_4 x5_5 (w.2.1 352 (16 * r + c)).toNatClampNeg w_3 (by rw [e4, show (((w.2.1 352 (16 * r + c)).toNatClampNeg : Nat) : Int) = zn by omega]; exact tn) (by rw [e5, show (((k - 1 : Nat)) : Int) = zk by omega]; exact tk) (by omega) i3 (tb_same hT a351 a352) (by rw [e3, sI_at]; exact Rg.m tm (by omega) (by omega)) ?_
      rw [a351, show (w.2.1 351 (4096 * (k - 1) + (w.2.1 352 (16 * r + c)).toNatClampNeg)).toInt = zs from ts]
      omega
    · replace d := c_neq tt tv d
      intro x6_6 e6
      have hne : c ≠ cs := by
        intro q
        subst q
        rw [show (w.2.1 351 (4096 * (k - 1) + (w.2.1 352 (16 * r + c)).toNatClampNeg)).toInt = zs from ts] at hc
        omega
      exact ih x6_6 (c + 1) (by rw [e6, show ((c + 1 : Nat) : Int) = zu by omega]; exact tu) (by omega) (by omega)
set_option maxHeartbeats 4000000 in
theorem l_wax121 {post : Int32 → Wd → Prop} {x3 : Int32} {z3 : Int} (t3 : Ti x3 z3) (hp : ∀ (r : Int32) (zr : Int) (w9 : Wd), Ti r zr → IM T W H P S M w9 → post r w9) : ∀ (n : Nat) (x4 x5 : Int32) (r k : Nat) (w : Wd), Ti x4 (r : Int) → Ti x5 (k : Int) → (r : Int) < P → k ≤ 4 → IM T W H P S M w → TB P H w → Rg (w.1 300 48) 0 (5 - (k : Int)) → (w.2.1 351 (4096 * k + r)).toInt < 1000000 → (k : Int) + 1 < (n : Int) → pX11_wax_121 post n x3 x4 x5 w := by
  intro n
  induction n with
  | zero => intro x4 x5 r k w t4 t5 h0 h1 hI hT hL hv hm; exact absurd hm (by omega)
  | succ n ih =>
    intro x4 x5 r k w t4 t5 h0 h1 hI hT hL hv hm
    unfold pX11_wax_121
    have hk := im_k hI
    obtain ⟨za, ta, fa⟩ := t_mul lit_4096 t5
    replace fa := fa (by omega)
    obtain ⟨zb, tb, fb⟩ := t_add ta t4
    replace fb := fb (by omega)
    have eb := i_cz tb
    rw [show (((4096 : Int32) * x5) + x4).toNatClampNeg = 4096 * k + r by omega]
    obtain ⟨v, tv⟩ := t_any (w.2.1 351 (4096 * k + r))
    have ev : (w.2.1 351 (4096 * k + r)).toInt = v := tv
    rw [ev] at hv
    refine ⟨vp_of tb (by omega) (by omega), fun c => hp _ _ _ t3 hI, fun c => ?_⟩
    replace c := c_nle tv lit_0 c
    have q := hT.2 k (by omega) r h0
    rw [ev] at q
    obtain ⟨q1, q2, q3⟩ := q
    rcases q3 with q3 | q3 | ⟨q4, cs, q5, q6⟩
    · exact absurd q3 (by omega)
    · exact absurd q3 (by omega)
    · exact ⟨1000, l_wax141 t4 t5 ⟨q4, h1⟩ h0 hI hT hL ev hv q5 q6 (fun x4 x5 r w' y1 y2 y3 y4 y5 y6 y7 => ih x4 x5 r (k - 1) w' y1 y2 y3 (by omega) y4 y5 y6 y7 (by omega)) 1000 0 0 lit_0 (by omega) (by omega)⟩
set_option maxHeartbeats 4000000 in
theorem l_wax24 {post : Int32 → Wd → Prop} (hp : ∀ (r : Int32) (zr : Int) (w9 : Wd), Ti r zr → IM T W H P S M w9 → post r w9) (hI : IM T W H P S M w) (hT : TB P H w) : ∀ (n : Nat) (x2 x3 : Int32) (z2 z3 : Int), Ti x2 z2 → Ti x3 z3 → (0 ≤ z2 ∧ z2 < S) → (1 ≤ z3 ∧ z3 ≤ S) → S + 1 - z3 < (n : Int) → pX11_wax_24 post n x2 x3 w := by
  intro n
  induction n with
  | zero => intro x2 x3 z2 z3 t2 t3 h0 h1 hm; exact absurd hm (by omega)
  | succ n ih =>
    intro x2 x3 z2 z3 t2 t3 h0 h1 hm
    unfold pX11_wax_24
    have hk := im_k hI
    obtain ⟨u, tu⟩ := t_any (w.2.1 341 (216 : Int32).toNatClampNeg)
    have fu := img_216 hI tu
    refine ⟨fun c => ?_, fun c => ?_⟩
    · unfold pX11_rowOf
      obtain ⟨za, ta, fa⟩ := t_mul lit_4 t2
      replace fa := fa (by omega)
      obtain ⟨zr, tr⟩ := t_any (w.2.1 341 ((4 : Int32) * x2).toNatClampNeg)
      have fr := img_row (x := z2) hI ta tr (by omega)
      obtain ⟨zb, tb, fb⟩ := t_add lit_16384 tr
      replace fb := fb (by omega)
      have eb := i_cz tb
      have er := i_cz tr
      have v4 : vp_in ((4 : Int32) * x2) 221 := vp_of ta (by omega) (by omega)
      refine ⟨v4, vp_of tb (by omega) (by omega), ?_⟩
      intro x3_4 e4
      refine ⟨fun c2 => ?_, fun c2 => hp _ _ _ lit_m1 hI⟩
      obtain ⟨zx, tx⟩ := t_any x3_4
      replace c2 := c_lt tx lit_1000000 c2
      intro w_6 e6 w_7 e7
      have i6 := ims_A hI e6 (by decide)
      have i7 := ims_48 i6 e7 lit_1 (by omega) (by omega)
      have b7 : ∀ o, o ≠ 348 → w_7.2.1 o = w.2.1 o := fun o ho => by rw [e2_I e7, e6, sA_ne ho]
      refine ⟨v4, ?_⟩
      rw [b7 341 (by decide)]
      refine ⟨1000, l_wax121 tx hp 1000 _ 4 (w.2.1 341 ((4 : Int32) * x2).toNatClampNeg).toNatClampNeg 4 w_7 (by rw [show (((w.2.1 341 ((4 : Int32) * x2).toNatClampNeg).toNatClampNeg : Nat) : Int) = zr by omega]; exact tr) lit_4 (by omega) (by omega) i7 (tb_same hT (b7 351 (by decide)) (b7 352 (by decide))) (by rw [e7, sI_at]; exact Rg.m lit_1 (by omega) (by omega)) ?_ (by omega)⟩
      rw [b7 351 (by decide), show 4096 * 4 + (w.2.1 341 ((4 : Int32) * x2).toNatClampNeg).toNatClampNeg = ((16384 : Int32) + (w.2.1 341 ((4 : Int32) * x2).toNatClampNeg)).toNatClampNeg by omega, ← e4, show x3_4.toInt = zx from tx]
      exact c2
    · replace c := c_nle tu t3 c
      obtain ⟨zu, tu2, fu2⟩ := t_add t3 lit_1
      replace fu2 := fu2 (by omega)
      refine sX11_rowOf (hI := hI) (tx1 := t3) (h0 := by omega) (hp := fun r10 z10 t10 p10 => ?_)
      obtain ⟨zb, tb, fb⟩ := t_add lit_16384 t10
      replace fb := fb (by omega)
      refine ⟨vp_of tb (by omega) (by omega), ?_⟩
      refine sX11_rowOf (hI := hI) (tx1 := t2) (h0 := by omega) (hp := fun r12 z12 t12 p12 => ?_)
      obtain ⟨zd, td, fd⟩ := t_add lit_16384 t12
      replace fd := fd (by omega)
      refine ⟨vp_of td (by omega) (by omega), fun c2 => ?_, fun c2 => ?_⟩
      · unfold pX11_wax_69
        intro x3_1 e1
        exact ih x2 x3_1 z2 zu t2 (by rw [e1]; exact tu2) h0 (by omega) (by omega)
      · unfold pX11_wax_69
        intro x3_1 e1
        exact ih x3 x3_1 z3 zu t3 (by rw [e1]; exact tu2) (by omega) (by omega) (by omega)
theorem sX11_wax {post : Int32 → Wd → Prop} {x1 : Int32} {zx1 : Int} (tx1 : Ti x1 zx1) (hI : IM T W H P S M w) (hp : ∀ (r : Int32) (zr : Int) (w9 : Wd), Ti r zr → IM T W H P S M w9 → post r w9) : pX11_wax post x1 w := by
  unfold pX11_wax
  have hk := im_k hI
  intro w_1 e1
  have i1 := ims_48 hI e1 lit_0 (by omega) (by omega)
  refine sX11_isRow (hI := i1) (tx1 := tx1) (hp := fun r zr tr p1 => ?_)
  refine ⟨fun c => ?_, fun c => hp _ _ _ lit_m1 i1⟩
  refine sX11_layWays tx1 i1 (fun w' i' n' l' => ?_)
  exact ⟨1000, l_wax24 hp i' ⟨n', l'⟩ 1000 0 1 0 1 lit_0 lit_1 (by omega) (by omega) (by omega)⟩
end WAX2
