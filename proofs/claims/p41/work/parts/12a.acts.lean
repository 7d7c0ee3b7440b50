/-! ===== acts: what is kept and brought back ===== -/
theorem ak_eq {P : Int} {a b : Nat → Int32} {o o2 : Nat} (h : AK P a o) (e : ∀ k : Nat, k < 221 → b (o2 + k) = a (o + k)) : AK P b o2 := by
  obtain ⟨h1, h2, h3⟩ := h
  refine ⟨by rw [e 216 (by decide)]; exact h1, by rw [e 217 (by decide)]; exact h2, ?_⟩
  intro s hs
  rw [e 216 (by decide)] at hs
  have h1 : 1 ≤ (a (o + 216)).toInt ∧ (a (o + 216)).toInt ≤ 24 := h1
  have q := h3 s hs
  refine ⟨by rw [e (4 * s) (by omega)]; exact q.1, fun hq => ?_⟩
  rw [show o2 + 4 * s + 1 = o2 + (4 * s + 1) by omega, e (4 * s + 1) (by omega), show o + (4 * s + 1) = o + 4 * s + 1 by omega]
  exact q.2 hq
section ACT
variable {T W H P S S9 M : Int} {w w0 w9 : Wd}
theorem im_upd (h : IM T W H P S M w0) (ef : ∀ f, f = 2 ∨ f = 29 ∨ f = 48 ∨ f = 58 ∨ f = 59 ∨ f = 63 → w9.1 300 f = w0.1 300 f) (ea : ∀ a, a = 312 ∨ a = 314 ∨ a = 319 ∨ a = 320 ∨ a = 325 ∨ a = 353 ∨ a = 354 ∨ a = 355 ∨ a = 321 ∨ a = 322 → w9.2.1 a = w0.2.1 a) (c7 : 0 ≤ (w9.1 300 42).toInt ∧ 0 ≤ (w9.1 300 43).toInt ∧ (w9.1 300 42).toInt + (w9.1 300 43).toInt ≤ 40) (c11 : AK P (w9.2.1 341) 0 ∧ (w9.2.1 341 216).toInt = S9) (c12 : ∀ j : Nat, (j : Int) < (w9.1 300 42).toInt + (w9.1 300 43).toInt → AK P (w9.2.1 342) (221 * j)) (c13 : ∀ b : Nat, b < 3 → w9.2.1 369 b ≠ 0 → AK P (w9.2.1 368) (221 * b)) : IM T W H P S9 M w9 := by
  obtain ⟨m0, m1, m2, m3, m4, m5, m6, m7, m8, m9, m10, m11, m12, m13, m14, m15⟩ := h
  unfold IM
  rw [ef 2 (by decide), ef 29 (by decide), ef 48 (by decide), ef 58 (by decide), ef 59 (by decide), ef 63 (by decide), ea 312 (by decide), ea 314 (by decide), ea 319 (by decide), ea 320 (by decide), ea 325 (by decide), ea 353 (by decide), ea 354 (by decide), ea 355 (by decide), ea 321 (by decide), ea 322 (by decide)]
  exact ⟨m0, m1, m2, m3, m4, m5, m6, c7, m8, m9, m10, c11, c12, c13, m14, m15⟩
theorem im_acts (h : IM T W H P S M w) : 0 ≤ (w.1 300 42).toInt ∧ 0 ≤ (w.1 300 43).toInt ∧ (w.1 300 42).toInt + (w.1 300 43).toInt ≤ 40 := h.2.2.2.2.2.2.2.1
theorem im_was (h : IM T W H P S M w) : ∀ j : Nat, (j : Int) < (w.1 300 42).toInt + (w.1 300 43).toInt → AK P (w.2.1 342) (221 * j) := h.2.2.2.2.2.2.2.2.2.2.2.2.1
theorem im_box (h : IM T W H P S M w) : ∀ b : Nat, b < 3 → w.2.1 369 b ≠ 0 → AK P (w.2.1 368) (221 * b) := h.2.2.2.2.2.2.2.2.2.2.2.2.2.1
/-! image -/
set_option maxHeartbeats 4000000 in
theorem lX11_image_13 {post : Int32 → Wd → Prop} {x1 : Int32} {b : Nat} (tx1 : Ti x1 (b : Int)) (hb : b < 3) (hK : ∀ w1 : Wd, w1.1 = w0.1 → (∀ o, o ≠ 368 → w1.2.1 o = w0.2.1 o) → (∀ k : Nat, k < 221 → w1.2.1 368 (221 * b + k) = w0.2.1 341 k) → (∀ k : Nat, k < 221 * b ∨ 221 * b + 221 ≤ k → w1.2.1 368 k = w0.2.1 368 k) → ∀ w_2, w_2 = sA w1 369 x1.toNatClampNeg (vp_nar .boolean (1 : Int32)) → post (w_2.2.1 341 (216 : Int32).toNatClampNeg) w_2) : ∀ (n : Nat) (x2 : Int32) (z : Int) (w : Wd), Ti x2 z → (0 ≤ z ∧ z ≤ 221) → w.1 = w0.1 → (∀ o, o ≠ 368 → w.2.1 o = w0.2.1 o) → (∀ k : Nat, (k : Int) < z → w.2.1 368 (221 * b + k) = w0.2.1 341 k) → (∀ k : Nat, k < 221 * b ∨ 221 * b + 221 ≤ k → w.2.1 368 k = w0.2.1 368 k) → 222 - z < (n : Int) → pX11_image_13 post n x1 x2 w := by
  intro n
  induction n with
  | zero => intro x2 z w t h0 h1 h2 h3 h4 hm; exact absurd hm (by omega)
  | succ n ih =>
    intro x2 z w t h0 h1 h2 h3 h4 hm
    unfold pX11_image_13
    refine ⟨fun c => ?_, fun c => ?_⟩
    · replace c := c_le lit_221 t c
      refine ⟨vp_of tx1 (by omega) (by omega), ?_⟩
      exact hK w h1 h2 (fun k hk => h3 k (by omega)) h4
    · replace c := c_nle lit_221 t c
      obtain ⟨z1, t1, f1⟩ := t_mul lit_221 tx1
      replace f1 := f1 (by omega)
      obtain ⟨z2, t2, f2⟩ := t_add t1 t
      replace f2 := f2 (by omega)
      obtain ⟨z3, t3, f3⟩ := t_add t lit_1
      replace f3 := f3 (by omega)
      have e2 := i_cz t2
      have e := i_cz t
      refine ⟨vp_of t (by omega) (by omega), vp_of t2 (by omega) (by omega), ?_⟩
      intro w_3 e3 x2_4 e4
      refine ih x2_4 z3 w_3 (by rw [e4]; exact t3) (by omega) ((e1_A e3).trans h1) (fun o ho => by rw [e3, sA_ne ho]; exact h2 o ho) (fun k hk => ?_) (fun k hk => ?_) (by omega)
      · by_cases hq : (k : Int) < z
        · rw [e3, sA_nx (by omega)]; exact h3 k hq
        · rw [e3, show 221 * b + k = (((221 : Int32) * x1) + x2).toNatClampNeg by omega, sA_at, h2 341 (by decide), show x2.toNatClampNeg = k by omega]
      · rw [e3, sA_nx (by omega)]; exact h4 k hk
theorem sX11_image {post : Int32 → Wd → Prop} {x1 : Int32} {zx1 : Int} (tx1 : Ti x1 zx1) (hI : IM T W H P S M w) (hp : ∀ (r : Int32) (zr : Int) (w9 : Wd), Ti r zr → IM T W H P S M w9 → post r w9) : pX11_image post x1 w := by
  unfold pX11_image
  refine sX11_isIn (hI := hI) (tx0 := tx1) (tx1 := lit_0) (tx2 := lit_2) (hp := fun r zr tr p1 p2 => ?_)
  refine ⟨fun c => ?_, fun c => hp _ _ _ lit_m1 hI⟩
  replace c := c_neq tr lit_0 c
  obtain ⟨b, hb⟩ : ∃ b : Nat, zx1 = (b : Int) := ⟨zx1.toNat, by omega⟩
  subst hb
  refine ⟨1000, lX11_image_13 (w0 := w) tx1 (by omega) (fun w1 q1 q2 q3 q4 w_2 e2 => ?_) 1000 0 0 w lit_0 (by omega) rfl (fun _ _ => rfl) (fun k hk => absurd hk (by omega)) (fun _ _ => rfl) (by omega)⟩
  have eb := i_cz tx1
  refine hp _ _ _ rfl (im_upd hI (fun f _ => by rw [e1_A e2, q1]) (fun a ha => by rw [e2, sA_ne (by omega), q2 a (by omega)]) (by rw [e1_A e2, q1]; exact im_acts hI) (by rw [e2, sA_ne (by decide), q2 341 (by decide)]; exact im_ak hI) (by rw [e1_A e2, q1, e2, sA_ne (by decide), q2 342 (by decide)]; exact im_was hI) ?_)
  intro b9 h9 k9
  rw [e2, sA_ne (by decide)]
  by_cases hq : b9 = b
  · subst hq
    exact ak_eq (im_ak hI).1 (fun k hk => by rw [q3 k hk, Nat.zero_add])
  · rw [e2, sA_nx (by omega), q2 369 (by decide)] at k9
    exact ak_eq (im_box hI b9 h9 k9) (fun k hk => q4 _ (by omega))
/-! back -/
set_option maxHeartbeats 4000000 in
theorem lX11_back_22 {post : Int32 → Wd → Prop} {x1 : Int32} {b : Nat} (tx1 : Ti x1 (b : Int)) (hb : b < 3) (hK : ∀ w1 : Wd, w1.1 = w0.1 → (∀ o, o ≠ 341 → w1.2.1 o = w0.2.1 o) → (∀ k : Nat, k < 221 → w1.2.1 341 k = w0.2.1 368 (221 * b + k)) → ∀ w_2, w_2 = sI w1 300 42 (0 : Int32) → ∀ w_3, w_3 = sI w_2 300 43 (0 : Int32) → post (w_3.2.1 341 (216 : Int32).toNatClampNeg) w_3) : ∀ (n : Nat) (x2 : Int32) (z : Int) (w : Wd), Ti x2 z → (0 ≤ z ∧ z ≤ 221) → w.1 = w0.1 → (∀ o, o ≠ 341 → w.2.1 o = w0.2.1 o) → (∀ k : Nat, (k : Int) < z → w.2.1 341 k = w0.2.1 368 (221 * b + k)) → 222 - z < (n : Int) → pX11_back_22 post n x1 x2 w := by
  intro n
  induction n with
  | zero => intro x2 z w t h0 h1 h2 h3 hm; exact absurd hm (by omega)
  | succ n ih =>
    intro x2 z w t h0 h1 h2 h3 hm
    unfold pX11_back_22
    refine ⟨fun c => ?_, fun c => ?_⟩
    · replace c := c_le lit_221 t c
      exact hK w h1 h2 (fun k hk => h3 k (by omega))
    · replace c := c_nle lit_221 t c
      obtain ⟨z1, t1, f1⟩ := t_mul lit_221 tx1
      replace f1 := f1 (by omega)
      obtain ⟨z2, t2, f2⟩ := t_add t1 t
      replace f2 := f2 (by omega)
      obtain ⟨z3, t3, f3⟩ := t_add t lit_1
      replace f3 := f3 (by omega)
      have e2 := i_cz t2
      have e := i_cz t
      refine ⟨vp_of t2 (by omega) (by omega), vp_of t (by omega) (by omega), ?_⟩
      intro w_4 e4 x2_5 e5
      refine ih x2_5 z3 w_4 (by rw [e5]; exact t3) (by omega) ((e1_A e4).trans h1) (fun o ho => by rw [e4, sA_ne ho]; exact h2 o ho) (fun k hk => ?_) (by omega)
      by_cases hq : (k : Int) < z
      · rw [e4, sA_nx (by omega)]; exact h3 k hq
      · rw [e4, show k = x2.toNatClampNeg by omega, sA_at, h2 368 (by decide), show (((221 : Int32) * x1) + x2).toNatClampNeg = 221 * b + x2.toNatClampNeg by omega]
theorem sX11_back {post : Int32 → Wd → Prop} {x1 : Int32} {zx1 : Int} (tx1 : Ti x1 zx1) (hI : IM T W H P S M w) (hp : ∀ (r : Int32) (zr : Int) (w9 : Wd) (S9 : Int), Ti r zr → IM T W H P S9 M w9 → post r w9) : pX11_back post x1 w := by
  unfold pX11_back
  refine sX11_isIn (hI := hI) (tx0 := tx1) (tx1 := lit_0) (tx2 := lit_2) (hp := fun r zr tr p1 p2 => ?_)
  refine ⟨fun c => hp _ _ _ _ lit_m1 hI, fun c => ?_⟩
  replace c := c_neq tr lit_0 c
  obtain ⟨b, hb⟩ : ∃ b : Nat, zx1 = (b : Int) := ⟨zx1.toNat, by omega⟩
  subst hb
  refine ⟨vp_of tx1 (by omega) (by omega), fun c2 => ?_, fun c2 => hp _ _ _ _ lit_m1 hI⟩
  have eb := i_cz tx1
  rw [show x1.toNatClampNeg = b by omega] at c2
  refine ⟨1000, lX11_back_22 (w0 := w) tx1 (by omega) (fun w1 q1 q2 q3 w_2 e2 w_3 e3 => ?_) 1000 0 0 w lit_0 (by omega) rfl (fun _ _ => rfl) (fun k hk => absurd hk (by omega)) (by omega)⟩
  have a3 : w_3.2.1 = w1.2.1 := (e2_I e3).trans (e2_I e2)
  have s42 : w_3.1 300 42 = 0 := by rw [e3, sI_ne (by omega), e2, sI_at]
  have s43 : w_3.1 300 43 = 0 := by rw [e3, sI_at]
  have zz : (0 : Int32).toInt = 0 := rfl
  refine hp _ _ _ _ rfl (im_upd hI (fun f hf => by rw [e3, sI_ne (by omega), e2, sI_ne (by omega), q1]) (fun a ha => by rw [a3, q2 a (by omega)]) (by rw [s42, s43]; decide) ⟨?_, rfl⟩ (by rw [s42, s43]; intro j hj; exact absurd hj (by omega)) (by rw [a3, q2 369 (by decide), q2 368 (by decide)]; exact im_box hI))
  rw [a3]
  exact ak_eq (im_box hI b (by omega) c2) (fun k hk => by rw [Nat.zero_add, q3 k hk])
/-! keepAct -/
set_option maxHeartbeats 4000000 in
theorem lX11_keepAct_52 {post : Wd → Prop} {A : Nat} (tA : Ti (w0.1 300 42) (A : Int)) (hA : A ≤ 40) (hK : ∀ w1 : Wd, w1.1 = w0.1 → (∀ o, o ≠ 342 → w1.2.1 o = w0.2.1 o) → (∀ k : Nat, k < 221 → w1.2.1 342 (221 * A + k) = w0.2.1 341 k) → (∀ k : Nat, k < 221 * A → w1.2.1 342 k = w0.2.1 342 k) → ∀ w_2, w_2 = sI w1 300 42 ((w1.1 300 42) + (1 : Int32)) → ∀ w_3, w_3 = sI w_2 300 43 (0 : Int32) → post w_3) : ∀ (n : Nat) (x1 : Int32) (z : Int) (w : Wd), Ti x1 z → (0 ≤ z ∧ z ≤ 221) → w.1 = w0.1 → (∀ o, o ≠ 342 → w.2.1 o = w0.2.1 o) → (∀ k : Nat, (k : Int) < z → w.2.1 342 (221 * A + k) = w0.2.1 341 k) → (∀ k : Nat, k < 221 * A → w.2.1 342 k = w0.2.1 342 k) → 222 - z < (n : Int) → pX11_keepAct_52 post n x1 w := by
  intro n
  induction n with
  | zero => intro x2 z w t h0 h1 h2 h3 h4 hm; exact absurd hm (by omega)
  | succ n ih =>
    intro x1 z w t h0 h1 h2 h3 h4 hm
    unfold pX11_keepAct_52
    refine ⟨fun c => ?_, fun c => ?_⟩
    · replace c := c_le lit_221 t c
      exact hK w h1 h2 (fun k hk => h3 k (by omega)) h4
    · replace c := c_nle lit_221 t c
      rw [h1]
      obtain ⟨z1, t1, f1⟩ := t_mul lit_221 tA
      replace f1 := f1 (by omega)
      obtain ⟨z2, t2, f2⟩ := t_add t1 t
      replace f2 := f2 (by omega)
      obtain ⟨z3, t3, f3⟩ := t_add t lit_1
      replace f3 := f3 (by omega)
      have e2 := i_cz t2
      have e := i_cz t
      refine ⟨vp_of t (by omega) (by omega), vp_of t2 (by omega) (by omega), ?_⟩
      intro w_4 e4 x1_5 e5
      refine ih x1_5 z3 w_4 (by rw [e5]; exact t3) (by omega) ((e1_A e4).trans h1) (fun o ho => by rw [e4, sA_ne ho]; exact h2 o ho) (fun k hk => ?_) (fun k hk => ?_) (by omega)
      · by_cases hq : (k : Int) < z
        · rw [e4, sA_nx (by omega)]; exact h3 k hq
        · rw [e4, show 221 * A + k = (((221 : Int32) * (w0.1 300 42)) + x1).toNatClampNeg by omega, sA_at, h2 341 (by decide), show x1.toNatClampNeg = k by omega]
      · rw [e4, sA_nx (by omega)]; exact h4 k hk
set_option maxHeartbeats 4000000 in
theorem lX11_keepAct_11 {post : Wd → Prop} (hK : ∀ w1 : Wd, w1.1 = w0.1 → (∀ o, o ≠ 342 → w1.2.1 o = w0.2.1 o) → (∀ k : Nat, k < 8840 → w1.2.1 342 k = w0.2.1 342 (k + 221)) → ∀ w_2, w_2 = sI w1 300 42 ((w1.1 300 42) - (1 : Int32)) → pX11_keepAct_50 post w_2) : ∀ (n : Nat) (x1 : Int32) (z : Int) (w : Wd), Ti x1 z → (0 ≤ z ∧ z ≤ 8840) → w.1 = w0.1 → (∀ o, o ≠ 342 → w.2.1 o = w0.2.1 o) → (∀ k : Nat, (k : Int) < z → w.2.1 342 k = w0.2.1 342 (k + 221)) → (∀ k : Nat, z ≤ (k : Int) → w.2.1 342 k = w0.2.1 342 k) → 8841 - z < (n : Int) → pX11_keepAct_11 post n x1 w := by
  intro n
  induction n with
  | zero => intro x2 z w t h0 h1 h2 h3 h4 hm; exact absurd hm (by omega)
  | succ n ih =>
    intro x1 z w t h0 h1 h2 h3 h4 hm
    unfold pX11_keepAct_11
    refine ⟨fun c => ?_, fun c => ?_⟩
    · replace c := c_le lit_8840 t c
      exact hK w h1 h2 (fun k hk => h3 k (by omega))
    · replace c := c_nle lit_8840 t c
      obtain ⟨z2, t2, f2⟩ := t_add t lit_221
      replace f2 := f2 (by omega)
      obtain ⟨z3, t3, f3⟩ := t_add t lit_1
      replace f3 := f3 (by omega)
      have e2 := i_cz t2
      have e := i_cz t
      refine ⟨vp_of t2 (by omega) (by omega), vp_of t (by omega) (by omega), ?_⟩
      intro w_3 e3 x1_4 e4
      refine ih x1_4 z3 w_3 (by rw [e4]; exact t3) (by omega) ((e1_A e3).trans h1) (fun o ho => by rw [e3, sA_ne ho]; exact h2 o ho) (fun k hk => ?_) (fun k hk => ?_) (by omega)
      · by_cases hq : (k : Int) < z
        · rw [e3, sA_nx (by omega)]; exact h3 k hq
        · rw [e3, show k = x1.toNatClampNeg by omega, sA_at, h4 _ (by omega), show (x1 + (221 : Int32)).toNatClampNeg = x1.toNatClampNeg + 221 by omega]
      · rw [e3, sA_nx (by omega)]; exact h4 k (by omega)
theorem sX11_keepAct_50 {post : Wd → Prop} (hI : IM T W H P S M w0) (hA : (w0.1 300 42).toInt < 40) (hp : ∀ (w9 : Wd), IM T W H P S M w9 → (∀ o, o ≠ 342 → w9.2.1 o = w0.2.1 o) → post w9) : pX11_keepAct_50 post w0 := by
  unfold pX11_keepAct_50
  have ha := im_acts hI
  obtain ⟨u, tu⟩ := t_any (w0.1 300 42)
  have eu : (w0.1 300 42).toInt = u := tu
  rw [eu] at ha hA
  obtain ⟨A, hA2⟩ : ∃ A : Nat, u = (A : Int) := ⟨u.toNat, by omega⟩
  subst hA2
  refine ⟨1000, lX11_keepAct_52 (w0 := w0) tu (by omega) (fun w1 q1 q2 q3 q4 w_2 e2 w_3 e3 => ?_) 1000 0 0 w0 lit_0 (by omega) rfl (fun _ _ => rfl) (fun k hk => absurd hk (by omega)) (fun _ _ => rfl) (by omega)⟩
  rw [q1] at e2
  have a3 : w_3.2.1 = w1.2.1 := (e2_I e3).trans (e2_I e2)
  obtain ⟨v, tv, fv⟩ := t_add tu lit_1
  replace fv := fv (by omega)
  have s42 : (w_3.1 300 42).toInt = A + 1 := by rw [e3, sI_ne (by omega), e2, sI_at, ← fv]; exact tv
  have s43 : (w_3.1 300 43).toInt = 0 := by rw [e3, sI_at]; rfl
  refine hp _ (im_upd hI (fun f hf => by rw [e3, sI_ne (by omega), e2, sI_ne (by omega), q1]) (fun a ha => by rw [a3, q2 a (by omega)]) (by rw [s42, s43]; omega) (by rw [a3, q2 341 (by decide)]; exact im_ak hI) ?_ (by rw [a3, q2 369 (by decide), q2 368 (by decide)]; exact im_box hI)) (fun o ho => by rw [a3]; exact q2 o ho)
  rw [s42, s43, a3]
  intro j hj
  by_cases hq : j = A
  · subst hq
    exact ak_eq (im_ak hI).1 (fun k hk => by rw [q3 k hk, Nat.zero_add])
  · exact ak_eq (im_was hI j (by rw [eu]; omega)) (fun k hk => q4 _ (by omega))
theorem sX11_keepAct {post : Wd → Prop} (hI : IM T W H P S M w) (hp : ∀ (w9 : Wd), IM T W H P S M w9 → (∀ o, o ≠ 342 → w9.2.1 o = w.2.1 o) → post w9) : pX11_keepAct post w := by
  unfold pX11_keepAct
  have ha := im_acts hI
  obtain ⟨u, tu⟩ := t_any (w.1 300 42)
  have eu : (w.1 300 42).toInt = u := tu
  refine ⟨fun c => ?_, fun c => ?_⟩
  · replace c := c_neq tu lit_40 c
    exact sX11_keepAct_50 hI (by omega) hp
  · replace c := c_eq tu lit_40 c
    refine ⟨10000, lX11_keepAct_11 (w0 := w) (fun w1 q1 q2 q3 w_2 e2 => ?_) 10000 0 0 w lit_0 (by omega) rfl (fun _ _ => rfl) (fun k hk => absurd hk (by omega)) (fun _ _ => rfl) (by omega)⟩
    rw [q1] at e2
    obtain ⟨v, tv, fv⟩ := t_sub tu lit_1
    replace fv := fv (by omega)
    have a2 : w_2.2.1 = w1.2.1 := e2_I e2
    have s42 : (w_2.1 300 42).toInt = 39 := by rw [e2, sI_at, show ((w.1 300 42) - (1 : Int32)).toInt = v from tv]; omega
    have s43 : (w_2.1 300 43).toInt = (w.1 300 43).toInt := by rw [e2, sI_ne (by omega), q1]
    have i2 : IM T W H P S M w_2 := im_upd hI (fun f hf => by rw [e2, sI_ne (by omega), q1]) (fun a ha => by rw [a2, q2 a (by omega)]) (by rw [s42, s43]; omega) (by rw [a2, q2 341 (by decide)]; exact im_ak hI) (by
      rw [s42, s43, a2]
      intro j hj
      exact ak_eq (im_was hI (j + 1) (by rw [eu]; omega)) (fun k hk => by rw [q3 _ (by omega), show 221 * j + k + 221 = 221 * (j + 1) + k by omega])) (by rw [a2, q2 369 (by decide), q2 368 (by decide)]; exact im_box hI)
    exact sX11_keepAct_50 i2 (by omega) (fun w9 i9 o9 => hp _ i9 (fun o ho => by rw [o9 o ho, a2, q2 o ho]))
/-! exchange -/
set_option maxHeartbeats 4000000 in
theorem lX11_exchange_2 {post : Wd → Prop} {A : Nat} (tA : Ti (w0.1 300 42) (A : Int)) (hA : A ≤ 40) (hK : ∀ w1 : Wd, w1.1 = w0.1 → (∀ o, o ≠ 342 → o ≠ 341 → w1.2.1 o = w0.2.1 o) → (∀ k : Nat, k < 221 → w1.2.1 342 (221 * A + k) = w0.2.1 341 k ∧ w1.2.1 341 k = w0.2.1 342 (221 * A + k)) → (∀ k : Nat, k < 221 * A ∨ 221 * A + 221 ≤ k → w1.2.1 342 k = w0.2.1 342 k) → post w1) : ∀ (n : Nat) (x1 : Int32) (z : Int) (w : Wd), Ti x1 z → (0 ≤ z ∧ z ≤ 221) → w.1 = w0.1 → (∀ o, o ≠ 342 → o ≠ 341 → w.2.1 o = w0.2.1 o) → (∀ k : Nat, (k : Int) < z → w.2.1 342 (221 * A + k) = w0.2.1 341 k ∧ w.2.1 341 k = w0.2.1 342 (221 * A + k)) → (∀ k : Nat, z ≤ (k : Int) → k < 221 → w.2.1 342 (221 * A + k) = w0.2.1 342 (221 * A + k) ∧ w.2.1 341 k = w0.2.1 341 k) → (∀ k : Nat, k < 221 * A ∨ 221 * A + 221 ≤ k → w.2.1 342 k = w0.2.1 342 k) → 222 - z < (n : Int) → pX11_exchange_2 post n x1 w := by
  intro n
  induction n with
  | zero => intro x2 z w t h0 h1 h2 h3 h4 h5 hm; exact absurd hm (by omega)
  | succ n ih =>
    intro x1 z w t h0 h1 h2 h3 h4 h5 hm
    unfold pX11_exchange_2
    refine ⟨fun c => ?_, fun c => ?_⟩
    · replace c := c_le lit_221 t c
      exact hK w h1 h2 (fun k hk => h3 k (by omega)) h5
    · replace c := c_nle lit_221 t c
      rw [h1]
      obtain ⟨z1, t1, f1⟩ := t_mul lit_221 tA
      replace f1 := f1 (by omega)
      obtain ⟨z2, t2, f2⟩ := t_add t1 t
      replace f2 := f2 (by omega)
      obtain ⟨z3, t3, f3⟩ := t_add t lit_1
      replace f3 := f3 (by omega)
      have e2 := i_cz t2
      have e := i_cz t
      refine ⟨vp_of t2 (by omega) (by omega), ?_⟩
      intro x2_2 ex2
      refine ⟨vp_of t (by omega) (by omega), vp_of t2 (by omega) (by omega), ?_⟩
      intro w_3 e3
      refine ⟨vp_of t (by omega) (by omega), ?_⟩
      intro w_4 e4 x1_5 e5
      have g4 := h4 x1.toNatClampNeg (by omega) (by omega)
      have ei : (((221 : Int32) * (w0.1 300 42)) + x1).toNatClampNeg = 221 * A + x1.toNatClampNeg := by omega
      rw [ei] at ex2 e3
      rw [g4.1] at ex2
      rw [g4.2] at e3
      refine ih x1_5 z3 w_4 (by rw [e5]; exact t3) (by omega) ((e1_A e4).trans ((e1_A e3).trans h1)) (fun o ho ho2 => by rw [e4, sA_ne ho2, e3, sA_ne ho]; exact h2 o ho ho2) (fun k hk => ?_) (fun k hk hk2 => ?_) (fun k hk => ?_) (by omega)
      · by_cases hq : (k : Int) < z
        · refine ⟨?_, ?_⟩
          · rw [e4, sA_ne (by decide), e3, sA_nx (by omega)]; exact (h3 k hq).1
          · rw [e4, sA_nx (by omega), e3, sA_ne (by decide)]; exact (h3 k hq).2
        · have hk' : k = x1.toNatClampNeg := by omega
          refine ⟨?_, ?_⟩
          · rw [e4, sA_ne (by decide), e3, hk', sA_at]
          · rw [e4, hk', sA_at, ex2]
      · refine ⟨?_, ?_⟩
        · rw [e4, sA_ne (by decide), e3, sA_nx (by omega)]; exact (h4 k (by omega) hk2).1
        · rw [e4, sA_nx (by omega), e3, sA_ne (by decide)]; exact (h4 k (by omega) hk2).2
      · rw [e4, sA_ne (by decide), e3, sA_nx (by omega)]; exact h5 k hk
/-- what is kept at place A changes places with what is -/
theorem im_exch (hI : IM T W H P S M w0) {A : Nat} (w9 : Wd) (hA : (A : Int) < (w0.1 300 42).toInt + (w0.1 300 43).toInt) (ef : ∀ f, f = 2 ∨ f = 29 ∨ f = 48 ∨ f = 58 ∨ f = 59 ∨ f = 63 → w9.1 300 f = w0.1 300 f) (c7 : 0 ≤ (w9.1 300 42).toInt ∧ 0 ≤ (w9.1 300 43).toInt ∧ (w9.1 300 42).toInt + (w9.1 300 43).toInt = (w0.1 300 42).toInt + (w0.1 300 43).toInt) (q2 : ∀ o, o ≠ 342 → o ≠ 341 → w9.2.1 o = w0.2.1 o) (q3 : ∀ k : Nat, k < 221 → w9.2.1 342 (221 * A + k) = w0.2.1 341 k ∧ w9.2.1 341 k = w0.2.1 342 (221 * A + k)) (q4 : ∀ k : Nat, k < 221 * A ∨ 221 * A + 221 ≤ k → w9.2.1 342 k = w0.2.1 342 k) : ∃ S9 : Int, IM T W H P S9 M w9 := by
  have ha := im_acts hI
  refine ⟨_, im_upd hI ef (fun a ha => q2 a (by omega) (by omega)) (by omega) ⟨?_, rfl⟩ ?_ (by rw [q2 369 (by decide) (by decide), q2 368 (by decide) (by decide)]; exact im_box hI)⟩
  · exact ak_eq (im_was hI A hA) (fun k hk => by rw [Nat.zero_add, (q3 k hk).2])
  · intro j hj
    by_cases hq : j = A
    · subst hq
      exact ak_eq (im_ak hI).1 (fun k hk => by rw [(q3 k hk).1, Nat.zero_add])
    · exact ak_eq (im_was hI j (by omega)) (fun k hk => q4 _ (by omega))
theorem sX11_undo {post : Int32 → Wd → Prop} (hI : IM T W H P S M w) (hp : ∀ (r : Int32) (zr : Int) (w9 : Wd) (S9 : Int), Ti r zr → IM T W H P S9 M w9 → post r w9) : pX11_undo post w := by
  unfold pX11_undo
  have ha := im_acts hI
  obtain ⟨u, tu⟩ := t_any (w.1 300 42)
  have eu : (w.1 300 42).toInt = u := tu
  obtain ⟨v, tv⟩ := t_any (w.1 300 43)
  have ev : (w.1 300 43).toInt = v := tv
  refine ⟨fun c => ?_, fun c => hp _ _ _ _ lit_0 hI⟩
  replace c := c_neq tu lit_0 c
  obtain ⟨u1, tu1, fu1⟩ := t_sub tu lit_1
  replace fu1 := fu1 (by omega)
  obtain ⟨v1, tv1, fv1⟩ := t_add tv lit_1
  replace fv1 := fv1 (by omega)
  intro w_2 e2 w_3 e3
  rw [show w_2.1 300 43 = w.1 300 43 by rw [e2, sI_ne (by omega)]] at e3
  have s42 : Ti (w_3.1 300 42) u1 := by rw [e3, sI_ne (by omega), e2, sI_at]; exact tu1
  have s43 : Ti (w_3.1 300 43) v1 := by rw [e3, sI_at]; exact tv1
  have a3 : w_3.2.1 = w.2.1 := (e2_I e3).trans (e2_I e2)
  obtain ⟨A, hA2⟩ : ∃ A : Nat, u1 = (A : Int) := ⟨u1.toNat, by omega⟩
  subst hA2
  unfold pX11_exchange
  refine ⟨1000, lX11_exchange_2 (w0 := w_3) s42 (by omega) (fun w1 q1 q2 q3 q4 => ?_) 1000 0 0 w_3 lit_0 (by omega) rfl (fun _ _ _ => rfl) (fun k hk => absurd hk (by omega)) (fun _ _ _ => ⟨rfl, rfl⟩) (fun _ _ => rfl) (by omega)⟩
  rw [a3] at q2 q3 q4
  have s42 : (w_3.1 300 42).toInt = A := s42
  have s43 : (w_3.1 300 43).toInt = v1 := s43
  obtain ⟨S9, i9⟩ := im_exch hI (A := A) w1 (by omega) (fun f hf => by rw [q1, e3, sI_ne (by omega), e2, sI_ne (by omega)]) (by rw [q1, s42, s43]; omega) q2 q3 q4
  exact hp _ _ _ _ lit_1 i9
theorem sX11_redo {post : Int32 → Wd → Prop} (hI : IM T W H P S M w) (hp : ∀ (r : Int32) (zr : Int) (w9 : Wd) (S9 : Int), Ti r zr → IM T W H P S9 M w9 → post r w9) : pX11_redo post w := by
  unfold pX11_redo
  have ha := im_acts hI
  obtain ⟨u, tu⟩ := t_any (w.1 300 42)
  have eu : (w.1 300 42).toInt = u := tu
  obtain ⟨v, tv⟩ := t_any (w.1 300 43)
  have ev : (w.1 300 43).toInt = v := tv
  refine ⟨fun c => ?_, fun c => hp _ _ _ _ lit_0 hI⟩
  replace c := c_neq tv lit_0 c
  obtain ⟨A, hA2⟩ : ∃ A : Nat, u = (A : Int) := ⟨u.toNat, by omega⟩
  subst hA2
  unfold pX11_exchange
  refine ⟨1000, lX11_exchange_2 (w0 := w) tu (by omega) (fun w1 q1 q2 q3 q4 => ?_) 1000 0 0 w lit_0 (by omega) rfl (fun _ _ _ => rfl) (fun k hk => absurd hk (by omega)) (fun _ _ _ => ⟨rfl, rfl⟩) (fun _ _ => rfl) (by omega)⟩
  intro w_3 e3 w_4 e4
  obtain ⟨u1, tu1, fu1⟩ := t_add tu lit_1
  replace fu1 := fu1 (by omega)
  obtain ⟨v1, tv1, fv1⟩ := t_sub tv lit_1
  replace fv1 := fv1 (by omega)
  rw [q1] at e3
  rw [show w_3.1 300 43 = w.1 300 43 by rw [e3, sI_ne (by omega), q1]] at e4
  have s42 : (w_4.1 300 42).toInt = u1 := by rw [e4, sI_ne (by omega), e3, sI_at]; exact tu1
  have s43 : (w_4.1 300 43).toInt = v1 := by rw [e4, sI_at]; exact tv1
  have a4 : w_4.2.1 = w1.2.1 := (e2_I e4).trans (e2_I e3)
  obtain ⟨S9, i9⟩ := im_exch hI (A := A) w_4 (by omega) (fun f hf => by rw [e4, sI_ne (by omega), e3, sI_ne (by omega), q1]) (by rw [s42, s43]; omega) (by rw [a4]; exact q2) (by rw [a4]; exact q3) (by rw [a4]; exact q4)
  exact hp _ _ _ _ lit_1 i9
/-! the acts themselves -/
theorem im_341 {i : Int32} {u : Int} {v : Int32} (hI : IM T W H P S M w) (e : w9 = sA w 341 i.toNatClampNeg v) (ti : Ti i u) (h1 : 4 * S ≤ u ∧ u ≠ 216 ∧ u ≠ 217) : IM T W H P S M w9 := by
  have q := i_cz ti
  have hk := im_k hI
  obtain ⟨⟨b1, b2, b3⟩, b4⟩ := im_ak hI
  have x : ∀ j : Nat, j ≠ i.toNatClampNeg → w9.2.1 341 j = w.2.1 341 j := fun j hj => by rw [e, sA_nx hj]
  have x216 := x (0 + 216) (by omega)
  have x217 := x (0 + 217) (by omega)
  refine im_upd hI (fun f hf => by rw [e1_A e]) (fun a ha => by rw [e, sA_ne (by omega)]) (by rw [e1_A e]; exact im_acts hI) ⟨⟨by rw [x216]; exact b1, by rw [x217]; exact b2, ?_⟩, x216 ▸ b4⟩ (by rw [e1_A e, e, sA_ne (by decide)]; exact im_was hI) (by rw [e, sA_ne (by decide), sA_ne (by decide)]; exact im_box hI)
  intro s hs
  rw [x216] at hs
  have hs2 : (s : Int) < S := by rw [← b4]; exact hs
  rw [x _ (by omega), x _ (by omega)]
  exact b3 s hs
theorem im_341_print {v : Int32} {z : Int} (hI : IM T W H P S M w) (e : w9 = sA w 341 (217 : Int32).toNatClampNeg v) (tv : Ti v z) (h1 : 0 ≤ z) (h2 : z ≤ 40) : IM T W H P S M w9 := by
  have hk := im_k hI
  have e : w9 = sA w 341 217 v := e
  obtain ⟨⟨b1, b2, b3⟩, b4⟩ := im_ak hI
  have x : ∀ j : Nat, j ≠ 217 → w9.2.1 341 j = w.2.1 341 j := fun j hj => by rw [e, sA_nx hj]
  have x216 := x (0 + 216) (by omega)
  refine im_upd hI (fun f hf => by rw [e1_A e]) (fun a ha => by rw [e, sA_ne (by omega)]) (by rw [e1_A e]; exact im_acts hI) ⟨⟨by rw [x216]; exact b1, by rw [e, sA_at]; exact Rg.m tv h1 h2, ?_⟩, x216 ▸ b4⟩ (by rw [e1_A e, e, sA_ne (by decide)]; exact im_was hI) (by rw [e, sA_ne (by decide), sA_ne (by decide)]; exact im_box hI)
  intro s hs
  rw [x216] at hs
  have hs2 : (s : Int) < S := by rw [← b4]; exact hs
  rw [x _ (by omega), x _ (by omega)]
  exact b3 s hs
theorem im_341_row {i : Int32} {u z s0 : Int} {v : Int32} (hI : IM T W H P S M w) (e : w9 = sA w 341 i.toNatClampNeg v) (ti : Ti i u) (hu : u = 4 * s0 ∧ 0 ≤ s0 ∧ s0 < S) (tv : Ti v z) (h1 : 0 ≤ z) (h2 : z ≤ P - 1) : IM T W H P S M w9 := by
  have q := i_cz ti
  have hk := im_k hI
  obtain ⟨⟨b1, b2, b3⟩, b4⟩ := im_ak hI
  have x : ∀ j : Nat, j ≠ i.toNatClampNeg → w9.2.1 341 j = w.2.1 341 j := fun j hj => by rw [e, sA_nx hj]
  have x216 := x (0 + 216) (by omega)
  have x217 := x (0 + 217) (by omega)
  refine im_upd hI (fun f hf => by rw [e1_A e]) (fun a ha => by rw [e, sA_ne (by omega)]) (by rw [e1_A e]; exact im_acts hI) ⟨⟨by rw [x216]; exact b1, by rw [x217]; exact b2, ?_⟩, x216 ▸ b4⟩ (by rw [e1_A e, e, sA_ne (by decide)]; exact im_was hI) (by rw [e, sA_ne (by decide), sA_ne (by decide)]; exact im_box hI)
  intro s hs
  rw [x216] at hs
  have hs2 : (s : Int) < S := by rw [← b4]; exact hs
  refine ⟨?_, fun h9 => by rw [x _ (by omega)]; exact (b3 s hs).2 h9⟩
  by_cases hq : 0 + 4 * s = i.toNatClampNeg
  · rw [hq, e, sA_at]; exact Rg.m tv h1 h2
  · rw [x _ hq]; exact (b3 s hs).1
theorem im_341_seal {v : Int32} {z : Int} {n : Nat} (hI : IM T W H P S M w) (e : w9 = sA w 341 (216 : Int32).toNatClampNeg v) (tv : Ti v z) (hn : S = (n : Int)) (h1 : z = S + 1) (h2 : S < 24) (r1 : Rg (w.2.1 341 (4 * n)) 0 (P - 1)) (r2 : Rg (w.2.1 341 (4 * n + 1)) 0 (S - 1)) : IM T W H P (S + 1) M w9 := by
  have hk := im_k hI
  have e : w9 = sA w 341 216 v := e
  obtain ⟨⟨b1, b2, b3⟩, b4⟩ := im_ak hI
  have x : ∀ j : Nat, j ≠ 216 → w9.2.1 341 j = w.2.1 341 j := fun j hj => by rw [e, sA_nx hj]
  have x217 := x (0 + 217) (by omega)
  have x216 : (w9.2.1 341 216).toInt = S + 1 := by rw [e, sA_at, ← h1]; exact tv
  refine im_upd hI (fun f hf => by rw [e1_A e]) (fun a ha => by rw [e, sA_ne (by omega)]) (by rw [e1_A e]; exact im_acts hI) ⟨⟨⟨by rw [x216]; omega, by rw [x216]; omega⟩, by rw [x217]; exact b2, ?_⟩, x216⟩ (by rw [e1_A e, e, sA_ne (by decide)]; exact im_was hI) (by rw [e, sA_ne (by decide), sA_ne (by decide)]; exact im_box hI)
  intro s hs
  rw [show 0 + 216 = 216 from rfl, x216] at hs
  rw [x _ (by omega), x _ (by omega)]
  by_cases hq : s = n
  · subst hq
    rw [Nat.zero_add]
    exact ⟨r1, fun _ => hn ▸ r2⟩
  · exact b3 s (by rw [b4]; omega)
theorem sX11_year {post : Int32 → Wd → Prop} (hI : IM T W H P S M w) (hp : ∀ (r : Int32) (zr : Int) (w9 : Wd), Ti r zr → IM T W H P S M w9 → post r w9) : pX11_year post w := by
  unfold pX11_year
  have hk := im_k hI
  refine ⟨fun c => ?_, fun c => hp _ _ _ lit_m1 hI⟩
  refine sX11_keepAct hI (fun w_2 i2 _ => ?_)
  intro w_3 e3
  exact hp _ _ _ rfl (im_341 i2 e3 lit_219 (by omega))
set_option maxHeartbeats 4000000 in
theorem sX11_print {post : Int32 → Wd → Prop} {x1 : Int32} {zx1 : Int} (tx1 : Ti x1 zx1) (hI : IM T W H P S M w) (hp : ∀ (r : Int32) (zr : Int) (w9 : Wd), Ti r zr → IM T W H P S M w9 → post r w9) : pX11_print post x1 w := by
  unfold pX11_print
  have hk := im_k hI
  refine sX11_isSeal (hI := hI) (tx1 := tx1) (hp := fun r zr tr p1 => ?_)
  refine ⟨fun c => hp _ _ _ lit_m1 hI, fun c => ?_⟩
  replace c := c_neq tr lit_0 c
  obtain ⟨u, tu⟩ := t_any (w.2.1 341 (217 : Int32).toNatClampNeg)
  have fu := img_217 hI tu
  refine ⟨fun c2 => hp _ _ _ lit_m1 hI, fun c2 => ?_⟩
  replace c2 := c_neq tu lit_40 c2
  refine ⟨fun c3 => ?_, fun c3 => hp _ _ _ lit_m1 hI⟩
  refine sX11_keepAct hI (fun w_6 i6 o6 => ?_)
  intro x2_7 e7
  rw [o6 341 (by decide)] at e7
  have t7 : Ti x2_7 u := by rw [e7]; exact tu
  refine sX11_rowOf (hI := i6) (tx1 := tx1) (h0 := by omega) (hp := fun r8 z8 t8 p8 => ?_)
  refine sX11_turnedRow (hI := i6) (tx1 := t8) (hp := fun r10 z10 t10 => ?_)
  obtain ⟨a1, ta1, fa1⟩ := t_mul lit_3 t7
  replace fa1 := fa1 (by omega)
  obtain ⟨a2, ta2, fa2⟩ := t_add lit_96 ta1
  replace fa2 := fa2 (by omega)
  obtain ⟨a3, ta3, fa3⟩ := t_add ta2 lit_1
  replace fa3 := fa3 (by omega)
  obtain ⟨a4, ta4, fa4⟩ := t_add ta2 lit_2
  replace fa4 := fa4 (by omega)
  refine ⟨vp_of ta2 (by omega) (by omega), ?_⟩
  intro w_12 e12
  have i12 := im_341 i6 e12 ta2 (by omega)
  refine ⟨vp_of ta3 (by omega) (by omega), ?_⟩
  intro w_13 e13
  have i13 := im_341 i12 e13 ta3 (by omega)
  refine ⟨vp_of ta4 (by omega) (by omega), ?_⟩
  intro w_14 e14
  have i14 := im_341 i13 e14 ta4 (by omega)
  have n2 := i_cz ta2
  have n3 := i_cz ta3
  have n4 := i_cz ta4
  have v14 : w_14.2.1 341 (217 : Int32).toNatClampNeg = w.2.1 341 (217 : Int32).toNatClampNeg := by
    have z217 : (217 : Int32).toNatClampNeg = 217 := by decide
    rw [z217, e14, sA_nx (by omega), e13, sA_nx (by omega), e12, sA_nx (by omega), o6 341 (by decide)]
  obtain ⟨b, tb, fb⟩ := t_add tu lit_1
  replace fb := fb (by omega)
  intro w_15 e15
  rw [v14] at e15
  have i15 := im_341_print i14 e15 tb (by omega) (by omega)
  intro w_16 e16
  exact hp _ _ _ rfl (im_341 i15 e16 lit_218 (by omega))
theorem bit_le {x m : Int32} {zx zm : Int} (tx : Ti x zx) (tm : Ti m zm) (h0 : 0 ≤ zx) (h1 : 0 ≤ zm) (h2 : zm ≤ 12) (hb : ¬ ((x >>> (m &&& 31)) &&& (1 : Int32)) = 0) : ∀ z : Int, Ti ((1 : Int32) <<< (m &&& 31)) z → z ≤ zx := by
  intro z tz
  have tx : x.toInt = zx := tx
  have tm : m.toInt = zm := tm
  obtain ⟨j, hj, rfl⟩ := i_nI (n := 12) (x := m) (by omega) (by omega)
  have tz : ((1 : Int32) <<< (nI j &&& 31)).toInt = z := tz
  rw [shl_tab j (by omega)] at tz
  have hs : ((nI j &&& 31).toBitVec.smod 32).toNat = j := by
    have key : ∀ j : Nat, j < 13 → ((nI j &&& 31).toBitVec.smod 32).toNat = j := by decide +kernel
    exact key j (by omega)
  have hx := pk_shr x (nI j &&& 31) j hs
  rw [Int.shiftRight_eq_div_pow] at hx
  apply Decidable.byContradiction
  intro hc
  apply hb
  have hz : (x >>> (nI j &&& 31)).toInt = 0 := by
    rw [hx]
    have e5 : (((2 : Nat) ^ j : Nat) : Int) = (2 : Int) ^ j := by rw [Int.natCast_pow]; rfl
    have e6 : ((2 : Nat) : Int) ^ j = (2 : Int) ^ j := rfl
    exact Int.ediv_eq_zero_of_lt (by omega) (by omega)
  have : x >>> (nI j &&& 31) = 0 := Int32.toInt_inj.mp (hz.trans rfl)
  rw [this]
  decide
set_option maxHeartbeats 4000000 in
theorem sX11_crack {post : Int32 → Wd → Prop} {x1 : Int32} {zx1 : Int} {x2 : Int32} {zx2 : Int} (tx1 : Ti x1 zx1) (tx2 : Ti x2 zx2) (hI : IM T W H P S M w) (hp : ∀ (r : Int32) (zr : Int) (w9 : Wd), Ti r zr → IM T W H P S M w9 → post r w9) : pX11_crack post x1 x2 w := by
  unfold pX11_crack
  have hk := im_k hI
  refine sX11_isSeal (hI := hI) (tx1 := tx1) (hp := fun r zr tr p1 => ?_)
  refine ⟨fun c => hp _ _ _ lit_0 hI, fun c => ?_⟩
  replace c := c_neq tr lit_0 c
  refine sX11_width (hI := hI) (hp := fun r4 z4 t4 p4 => ?_)
  obtain ⟨a1, ta1, fa1⟩ := t_sub t4 lit_1
  replace fa1 := fa1 (by omega)
  refine sX11_isIn (hI := hI) (tx0 := tx2) (tx1 := lit_0) (tx2 := ta1) (hp := fun r6 z6 t6 p6 q6 => ?_)
  refine ⟨fun c2 => hp _ _ _ lit_0 hI, fun c2 => ?_⟩
  replace c2 := c_neq t6 lit_0 c2
  obtain ⟨a2, ta2, fa2⟩ := t_mul lit_4 tx1
  replace fa2 := fa2 (by omega)
  have v4 : vp_in ((4 : Int32) * x1) 221 := vp_of ta2 (by omega) (by omega)
  unfold pX11_rowOf
  refine ⟨v4, ?_⟩
  obtain ⟨a3, ta3⟩ := t_any (w.2.1 341 ((4 : Int32) * x1).toNatClampNeg)
  have f3 := img_row (x := zx1) hI ta2 ta3 (by omega)
  refine ⟨fun c3 => ?_, fun c3 => hp _ _ _ lit_0 hI⟩
  refine sX11_keepAct hI (fun w_12 i12 o12 => ?_)
  refine ⟨v4, v4, ?_⟩
  rw [o12 341 (by decide)]
  obtain ⟨b, tb, fb⟩ := t_shlW hI tx2
  replace fb := fb (by omega)
  have hle := bit_le ta3 tx2 (by omega) (by omega) (by omega) c3 b tb
  obtain ⟨d, td, fd⟩ := t_sub ta3 tb
  replace fd := fd (by omega)
  intro w_13 e13
  exact hp _ _ _ lit_1 (im_341_row (s0 := zx1) i12 e13 ta2 (by omega) td (by omega) (by omega))
set_option maxHeartbeats 4000000 in
theorem sX11_cast {post : Int32 → Wd → Prop} {x1 : Int32} {zx1 : Int} {x2 : Int32} {zx2 : Int} {x3 : Int32} {zx3 : Int} (tx1 : Ti x1 zx1) (tx2 : Ti x2 zx2) (tx3 : Ti x3 zx3) (hI : IM T W H P S M w) (hp : ∀ (r : Int32) (zr : Int) (w9 : Wd) (S9 : Int), Ti r zr → IM T W H P S9 M w9 → post r w9) : pX11_cast post x1 x2 x3 w := by
  unfold pX11_cast
  have hk := im_k hI
  refine sX11_isSeal (hI := hI) (tx1 := tx1) (hp := fun r zr tr p1 => ?_)
  refine ⟨fun c => hp _ _ _ _ lit_m1 hI, fun c => ?_⟩
  replace c := c_neq tr lit_0 c
  refine sX11_isHand (hI := hI) (tx1 := tx2) (hp := fun r4 z4 t4 p4 => ?_)
  refine ⟨fun c => hp _ _ _ _ lit_m1 hI, fun c2 => ?_⟩
  replace c2 := c_neq t4 lit_0 c2
  refine sX11_isHeat (hI := hI) (tx0 := tx3) (hp := fun r7 z7 t7 p7 => ?_)
  refine ⟨fun c => hp _ _ _ _ lit_m1 hI, fun c3 => ?_⟩
  replace c3 := c_neq t7 lit_0 c3
  obtain ⟨u, tu⟩ := t_any (w.2.1 341 (216 : Int32).toNatClampNeg)
  have fu := img_216 hI tu
  refine ⟨fun c => hp _ _ _ _ lit_m1 hI, fun c4 => ?_⟩
  replace c4 := c_neq tu lit_24 c4
  refine ⟨fun c5 => ?_, fun c5 => hp _ _ _ _ lit_m1 hI⟩
  refine sX11_keepAct hI (fun w_12 i12 o12 => ?_)
  intro x4_13 e13
  rw [o12 341 (by decide)] at e13
  have t13 : Ti x4_13 u := by rw [e13]; exact tu
  intro w_14 e14
  have i14 := im_341 i12 e14 lit_220 (by omega)
  refine sX11_rowOf (hI := i14) (tx1 := tx1) (h0 := by omega) (hp := fun r15 z15 t15 p15 => ?_)
  refine jX11_castOf (J := fun w' => w'.2.1 341 = w_14.2.1 341) t15 tx2 tx3 rfl ⟨i14, rfl, fun w f v _ _ h => h, fun w i v h => by show (sA w 329 i v).2.1 341 = _; rw [sA_ne (by decide)]; exact h⟩ (by omega) (fun r17 z17 w_18 t17 i18 p17 => ?_)
  have j18 : w_18.2.1 341 = w_14.2.1 341 := i18.2.1
  replace i18 := i18.1
  obtain ⟨a1, ta1, fa1⟩ := t_mul lit_4 t13
  replace fa1 := fa1 (by omega)
  obtain ⟨a2, ta2, fa2⟩ := t_add ta1 lit_1
  replace fa2 := fa2 (by omega)
  obtain ⟨a3, ta3, fa3⟩ := t_add ta1 lit_2
  replace fa3 := fa3 (by omega)
  obtain ⟨a4, ta4, fa4⟩ := t_add ta1 lit_3
  replace fa4 := fa4 (by omega)
  refine ⟨vp_of ta1 (by omega) (by omega), ?_⟩
  intro w_19 e19
  have i19 := im_341 i18 e19 ta1 (by omega)
  refine ⟨vp_of ta2 (by omega) (by omega), ?_⟩
  intro w_20 e20
  have i20 := im_341 i19 e20 ta2 (by omega)
  refine ⟨vp_of ta3 (by omega) (by omega), ?_⟩
  intro w_21 e21
  have i21 := im_341 i20 e21 ta3 (by omega)
  refine ⟨vp_of ta4 (by omega) (by omega), ?_⟩
  intro w_22 e22
  have i22 := im_341 i21 e22 ta4 (by omega)
  have n1 := i_cz ta1
  have n2 := i_cz ta2
  have n3 := i_cz ta3
  have n4 := i_cz ta4
  obtain ⟨v, tv⟩ := t_any (w_22.2.1 341 (216 : Int32).toNatClampNeg)
  have fv := img_216 i22 tv
  obtain ⟨b, tb, fb⟩ := t_add tv lit_1
  replace fb := fb (by omega)
  obtain ⟨m, hm⟩ : ∃ m : Nat, S = (m : Int) := ⟨S.toNat, by omega⟩
  intro w_23 e23
  have i23 := im_341_seal (n := m) i22 e23 tb hm (by omega) (by omega) (by
    rw [show 4 * m = ((4 : Int32) * x4_13).toNatClampNeg by omega, e22, sA_nx (by omega), e21, sA_nx (by omega), e20, sA_nx (by omega), e19, sA_at]
    exact Rg.m t17 (by omega) (by omega)) (by
    rw [show 4 * m + 1 = (((4 : Int32) * x4_13) + (1 : Int32)).toNatClampNeg by omega, e22, sA_nx (by omega), e21, sA_nx (by omega), e20, sA_at]
    exact Rg.m tx1 (by omega) (by omega))
  intro w_24 e24
  exact hp _ _ _ _ t13 (im_341 i23 e24 lit_218 (by omega))
end ACT
