/-! ===== what holds of the model between calls and inside them ===== -/
/-- the state `all` (or a kept copy of it, from o on): seals, prints, rows below P, each seal of an earlier one -/
def AK (P : Int) (a : Nat → Int32) (o : Nat) : Prop := Rg (a (o + 216)) 1 24 ∧ Rg (a (o + 217)) 0 40 ∧ ∀ s : Nat, (s : Int) < (a (o + 216)).toInt → Rg (a (o + 4 * s)) 0 (P - 1) ∧ (1 ≤ s → Rg (a (o + 4 * s + 1)) 0 ((s : Int) - 1))
/-- one code of a rule: what it does to the number of values -/
def SS (c : Int32) (n m : Int) : Prop := n ≤ 50 ∧ ((c.toInt = 126 ∧ 1 ≤ n ∧ m = n) ∨ (97 ≤ c.toInt ∧ c.toInt ≤ 122 ∧ 0 ≤ n ∧ m = n + 1) ∨ (c.toInt ≠ 126 ∧ (c.toInt < 97 ∨ 122 < c.toInt) ∧ 2 ≤ n ∧ m = n - 1))
/-- a rule's codes, from f to t: g tells how many values there are ahead of each -/
def PX (code : Nat → Int32) (f t : Int) : Prop := 0 ≤ f ∧ f ≤ t ∧ t ≤ 1120 ∧ ∃ g : Nat → Int, g f.toNat = 0 ∧ ∀ k : Nat, f ≤ (k : Int) → (k : Int) < t → SS (code k) (g k) (g (k + 1))
/-- the rules of a bank's hands -/
def RO (rf rt code : Nat → Int32) (b : Int) (h : Int) : Prop := ∀ r : Nat, (r : Int) < 2 * h → PX code (rf (8 * b + r).toNat).toInt (rt (8 * b + r).toNat).toInt ∧ 560 * b ≤ (rf (8 * b + r).toNat).toInt ∧ (rt (8 * b + r).toNat).toInt ≤ 560 * b + 560
def IM (T W H P S M : Int) (w : Wd) : Prop :=
  (1 ≤ W ∧ W ≤ 12 ∧ 0 ≤ H ∧ H ≤ 4 ∧ P = 2 ^ W.toNat) ∧ Rg (w.1 300 2) 0 1600 ∧ Rg (w.1 300 29) 0 1 ∧ Rg (w.1 300 48) 0 12 ∧ Rg (w.1 300 58) 0 40 ∧ (w.1 300 59).toInt = T ∧ ((w.1 300 63).toInt = M ∧ 0 ≤ M ∧ M ≤ 7) ∧ (0 ≤ (w.1 300 42).toInt ∧ 0 ≤ (w.1 300 43).toInt ∧ (w.1 300 42).toInt + (w.1 300 43).toInt ≤ 40)
  ∧ (w.2.1 312 (w.1 300 29).toNatClampNeg).toInt = W ∧ (w.2.1 314 (w.1 300 29).toNatClampNeg).toInt = H ∧ RO (w.2.1 319) (w.2.1 320) (w.2.1 325) (w.1 300 29).toInt H ∧ (AK P (w.2.1 341) 0 ∧ (w.2.1 341 216).toInt = S)
  ∧ (∀ j : Nat, (j : Int) < (w.1 300 42).toInt + (w.1 300 43).toInt → AK P (w.2.1 342) (221 * j)) ∧ (∀ b : Nat, b < 3 → w.2.1 369 b ≠ 0 → AK P (w.2.1 368) (221 * b))
  ∧ (∀ n : Nat, (n : Int) < (w.1 300 58).toInt → w.2.1 353 n = 3 → Rg (w.2.1 354 n) 0 7 ∧ Rg (w.2.1 355 n) 0 7) ∧ (∀ i : Nat, w.2.1 321 i = vp_nar .boolean (w.2.1 321 i) ∧ w.2.1 322 i = vp_nar .boolean (w.2.1 322 i))
section IMS
variable {T W H P S M z x : Int} {w w9 : Wd}
theorem pw_rng : ∀ j : Nat, j < 13 → 1 ≤ (2 : Int) ^ j ∧ (2 : Int) ^ j ≤ 4096 := by decide +kernel
theorem im_k (h : IM T W H P S M w) : 1 ≤ W ∧ W ≤ 12 ∧ 0 ≤ H ∧ H ≤ 4 ∧ 1 ≤ P ∧ P ≤ 4096 ∧ 1 ≤ S ∧ S ≤ 24 ∧ 0 ≤ M ∧ M ≤ 7 := by
  obtain ⟨⟨a1, a2, a3, a4, a5⟩, -, -, -, -, -, ⟨-, a6, a7⟩, -, -, -, -, ⟨⟨a8, -⟩, a9⟩, -⟩ := h
  have q := pw_rng W.toNat (by omega)
  have a8 := Rg.g (z := S) a8 a9
  refine ⟨a1, a2, a3, a4, by omega, by omega, a8.1, a8.2, a6, a7⟩
theorem img_2 (h : IM T W H P S M w) (t : Ti (w.1 300 2) z) : 0 ≤ z ∧ z ≤ 1600 := Rg.g h.2.1 t
theorem img_29 (h : IM T W H P S M w) (t : Ti (w.1 300 29) z) : 0 ≤ z ∧ z ≤ 1 := Rg.g h.2.2.1 t
theorem img_48 (h : IM T W H P S M w) (t : Ti (w.1 300 48) z) : 0 ≤ z ∧ z ≤ 12 := Rg.g h.2.2.2.1 t
theorem img_58 (h : IM T W H P S M w) (t : Ti (w.1 300 58) z) : 0 ≤ z ∧ z ≤ 40 := Rg.g h.2.2.2.2.1 t
theorem img_59 (h : IM T W H P S M w) (t : Ti (w.1 300 59) z) : z = T := (show _ = z from t).symm.trans h.2.2.2.2.2.1
theorem img_63 (h : IM T W H P S M w) (t : Ti (w.1 300 63) z) : z = M := (show _ = z from t).symm.trans h.2.2.2.2.2.2.1.1
theorem img_312 (h : IM T W H P S M w) (t : Ti (w.2.1 312 (w.1 300 29).toNatClampNeg) z) : z = W := (show _ = z from t).symm.trans h.2.2.2.2.2.2.2.2.1
theorem img_314 (h : IM T W H P S M w) (t : Ti (w.2.1 314 (w.1 300 29).toNatClampNeg) z) : z = H := (show _ = z from t).symm.trans h.2.2.2.2.2.2.2.2.2.1
theorem im_ak (h : IM T W H P S M w) : AK P (w.2.1 341) 0 ∧ (w.2.1 341 216).toInt = S := h.2.2.2.2.2.2.2.2.2.2.2.1
theorem img_216 (h : IM T W H P S M w) (t : Ti (w.2.1 341 (216 : Int32).toNatClampNeg) z) : z = S := (show _ = z from t).symm.trans (im_ak h).2
theorem img_217 (h : IM T W H P S M w) (t : Ti (w.2.1 341 (217 : Int32).toNatClampNeg) z) : 0 ≤ z ∧ z ≤ 40 := Rg.g (im_ak h).1.2.1 t
theorem img_row {i : Int32} {u : Int} (h : IM T W H P S M w) (ti : Ti i u) (t : Ti (w.2.1 341 i.toNatClampNeg) z) : (u = 4 * x ∧ 0 ≤ x ∧ x < S) → 0 ≤ z ∧ z ≤ P - 1 := by
  rintro ⟨h1, h2, h3⟩
  have e := i_cz ti
  obtain ⟨⟨-, -, a⟩, b⟩ := im_ak h
  have q := (a x.toNat (by rw [show (0 + 216 : Nat) = 216 from rfl, b]; omega)).1
  rw [show 0 + 4 * x.toNat = i.toNatClampNeg by omega] at q
  exact Rg.g q t
theorem img_par {i : Int32} {u : Int} (h : IM T W H P S M w) (ti : Ti i u) (t : Ti (w.2.1 341 i.toNatClampNeg) z) : (u = 4 * x + 1 ∧ 1 ≤ x ∧ x < S) → 0 ≤ z ∧ z ≤ x - 1 := by
  rintro ⟨h1, h2, h3⟩
  have e := i_cz ti
  obtain ⟨⟨-, -, a⟩, b⟩ := im_ak h
  have q := (a x.toNat (by rw [show (0 + 216 : Nat) = 216 from rfl, b]; omega)).2 (by omega)
  rw [show 0 + 4 * x.toNat + 1 = i.toNatClampNeg by omega, show ((x.toNat : Nat) : Int) = x by omega] at q
  exact Rg.g q t
theorem img_lnk {i : Int32} {u v : Int} {e : w.2.1 353 i.toNatClampNeg = 3} (h : IM T W H P S M w) (ti : Ti i u) (tf : Ti (w.1 300 58) v) (h1 : 0 ≤ u) (h2 : u < v) : Rg (w.2.1 354 i.toNatClampNeg) 0 7 ∧ Rg (w.2.1 355 i.toNatClampNeg) 0 7 := by
  have q := i_cz ti
  have tf : (w.1 300 58).toInt = v := tf
  exact h.2.2.2.2.2.2.2.2.2.2.2.2.2.2.1 _ (by rw [tf]; omega) e
/-- nothing that the invariant speaks of has changed -/
theorem im_same (h : IM T W H P S M w) (e1 : ∀ f, f = 2 ∨ f = 29 ∨ f = 48 ∨ f = 58 ∨ f = 59 ∨ f = 63 ∨ f = 42 ∨ f = 43 → w9.1 300 f = w.1 300 f) (e2 : ∀ a, a = 312 ∨ a = 314 ∨ a = 319 ∨ a = 320 ∨ a = 325 ∨ a = 341 ∨ a = 342 ∨ a = 369 ∨ a = 368 ∨ a = 353 ∨ a = 354 ∨ a = 355 ∨ a = 321 ∨ a = 322 → w9.2.1 a = w.2.1 a) : IM T W H P S M w9 := by
  unfold IM
  rw [e1 2 (by decide), e1 29 (by decide), e1 48 (by decide), e1 58 (by decide), e1 59 (by decide), e1 63 (by decide), e1 42 (by decide), e1 43 (by decide), e2 312 (by decide), e2 314 (by decide), e2 319 (by decide), e2 320 (by decide), e2 325 (by decide), e2 341 (by decide), e2 342 (by decide), e2 369 (by decide), e2 368 (by decide), e2 353 (by decide), e2 354 (by decide), e2 355 (by decide), e2 321 (by decide), e2 322 (by decide)]
  exact h
theorem ims_n {f : Nat} {v : Int32} (h : IM T W H P S M w) (e : w9 = sI w 300 f v) (hf : f ≠ 2 ∧ f ≠ 29 ∧ f ≠ 48 ∧ f ≠ 58 ∧ f ≠ 59 ∧ f ≠ 63 ∧ f ≠ 42 ∧ f ≠ 43) : IM T W H P S M w9 :=
  im_same h (fun g hg => by rw [e, sI_ne (by omega)]) (fun a ha => by rw [e]; rfl)
theorem ims_A {o i : Nat} {v : Int32} (h : IM T W H P S M w) (e : w9 = sA w o i v) (ho : ¬ (o = 312 ∨ o = 314 ∨ o = 319 ∨ o = 320 ∨ o = 325 ∨ o = 341 ∨ o = 342 ∨ o = 369 ∨ o = 368 ∨ o = 353 ∨ o = 354 ∨ o = 355 ∨ o = 321 ∨ o = 322)) : IM T W H P S M w9 :=
  im_same h (fun g hg => by rw [e1_A e]) (fun a ha => by rw [e]; exact sA_ne (fun q => ho (by rw [← q]; exact ha)))
theorem ims_J {o i : Nat} {v : Int64} (h : IM T W H P S M w) (e : w9 = sJ w o i v) : IM T W H P S M w9 := im_same h (fun g hg => by rw [e1_J e]) (fun a ha => by rw [e]; rfl)
theorem ims_B {o i : Nat} {v : Int64} (h : IM T W H P S M w) (e : w9 = sB w o i v) : IM T W H P S M w9 := im_same h (fun g hg => by rw [e1_B e]) (fun a ha => by rw [e]; rfl)
theorem ims_2 {v : Int32} (h : IM T W H P S M w) (e : w9 = sI w 300 2 v) (t : Ti v z) (h1 : 0 ≤ z) (h2 : z ≤ 1600) : IM T W H P S M w9 := by
  subst e
  unfold IM
  rw [sI_at, sI_ne (a := 300) (b := 29) (by omega), sI_ne (a := 300) (b := 48) (by omega), sI_ne (a := 300) (b := 58) (by omega), sI_ne (a := 300) (b := 59) (by omega), sI_ne (a := 300) (b := 63) (by omega), sI_ne (a := 300) (b := 42) (by omega), sI_ne (a := 300) (b := 43) (by omega)]
  exact ⟨h.1, Rg.m t h1 h2, h.2.2⟩
theorem ims_48 {v : Int32} (h : IM T W H P S M w) (e : w9 = sI w 300 48 v) (t : Ti v z) (h1 : 0 ≤ z) (h2 : z ≤ 12) : IM T W H P S M w9 := by
  subst e
  unfold IM
  rw [sI_at, sI_ne (a := 300) (b := 29) (by omega), sI_ne (a := 300) (b := 2) (by omega), sI_ne (a := 300) (b := 58) (by omega), sI_ne (a := 300) (b := 59) (by omega), sI_ne (a := 300) (b := 63) (by omega), sI_ne (a := 300) (b := 42) (by omega), sI_ne (a := 300) (b := 43) (by omega)]
  exact ⟨h.1, h.2.1, h.2.2.1, Rg.m t h1 h2, h.2.2.2.2⟩
theorem ims_63 {v : Int32} (h : IM T W H P S M w) (e : w9 = sI w 300 63 v) (t : Ti v z) (h1 : 0 ≤ z) (h2 : z ≤ 7) : IM T W H P S z w9 := by
  subst e
  unfold IM
  rw [sI_at, sI_ne (a := 300) (b := 29) (by omega), sI_ne (a := 300) (b := 2) (by omega), sI_ne (a := 300) (b := 58) (by omega), sI_ne (a := 300) (b := 59) (by omega), sI_ne (a := 300) (b := 48) (by omega), sI_ne (a := 300) (b := 42) (by omega), sI_ne (a := 300) (b := 43) (by omega)]
  exact ⟨h.1, h.2.1, h.2.2.1, h.2.2.2.1, h.2.2.2.2.1, h.2.2.2.2.2.1, ⟨t, h1, h2⟩, h.2.2.2.2.2.2.2⟩
theorem ims_59 {v : Int32} (h : IM T W H P S M w) (e : w9 = sI w 300 59 v) (t : Ti v z) : IM z W H P S M w9 := by
  subst e
  unfold IM
  rw [sI_at, sI_ne (a := 300) (b := 29) (by omega), sI_ne (a := 300) (b := 2) (by omega), sI_ne (a := 300) (b := 58) (by omega), sI_ne (a := 300) (b := 63) (by omega), sI_ne (a := 300) (b := 48) (by omega), sI_ne (a := 300) (b := 42) (by omega), sI_ne (a := 300) (b := 43) (by omega)]
  exact ⟨h.1, h.2.1, h.2.2.1, h.2.2.2.1, h.2.2.2.2.1, t, h.2.2.2.2.2.2⟩
/-- bits -/
theorem t_shlW {a : Int32} (h : IM T W H P S M w) (ta : Ti a x) : ∃ z : Int, Ti ((1 : Int32) <<< (a &&& 31)) z ∧ ((0 ≤ x ∧ x ≤ W) → 1 ≤ z ∧ z ≤ P ∧ (x = W → z = P) ∧ (x < W → 2 * z ≤ P)) := by
  obtain ⟨⟨a1, a2, a3, a4, a5⟩, -⟩ := h
  refine ⟨_, rfl, fun hx => ?_⟩
  have ta : a.toInt = x := ta
  obtain ⟨j, hj, rfl⟩ := i_nI (n := 12) (x := a) (by omega) (by omega)
  rw [nI_toInt (by omega)] at ta
  obtain ⟨v, hv⟩ : ∃ v : Nat, W = (v : Int) := ⟨W.toNat, by omega⟩
  rw [hv, show ((v : Nat) : Int).toNat = v from by omega] at a5
  rw [shl_tab j (by omega), a5]
  have key : ∀ v : Nat, v < 13 → ∀ j : Nat, j ≤ v → 1 ≤ (2 : Int) ^ j ∧ (2 : Int) ^ j ≤ 2 ^ v ∧ (j = v → (2 : Int) ^ j = 2 ^ v) ∧ (j < v → 2 * (2 : Int) ^ j ≤ 2 ^ v) := by decide +kernel
  have q := key v (by omega) j (by omega)
  exact ⟨q.1, q.2.1, fun e => q.2.2.1 (by omega), fun e => q.2.2.2 (by omega)⟩
theorem t_orW {a b : Int32} {y : Int} (h : IM T W H P S M w) (ta : Ti a x) (tb : Ti b y) : ∃ z : Int, Ti (a ||| b) z ∧ ((0 ≤ x ∧ x < P ∧ 0 ≤ y ∧ y < P) → 0 ≤ z ∧ z < P) := by
  obtain ⟨⟨a1, a2, a3, a4, a5⟩, -⟩ := h
  refine ⟨_, rfl, fun hx => ?_⟩
  have ta : a.toInt = x := ta
  have tb : b.toInt = y := tb
  have q := pw_rng W.toNat (by omega)
  have ha := i_tq (x := a) (by omega)
  have hb := i_tq (x := b) (by omega)
  have ea := i_tp ha
  have eb := i_tp hb
  have e5 : ((2 ^ W.toNat : Nat) : Int) = (2 : Int) ^ W.toNat := by rw [Int.natCast_pow]; rfl
  have h1 : a.toBitVec.toNat < 2 ^ W.toNat := by omega
  have h2 : b.toBitVec.toNat < 2 ^ W.toNat := by omega
  have h3 : (a ||| b).toBitVec.toNat < 2 ^ W.toNat := by
    rw [Int32.toBitVec_or, BitVec.toNat_or]
    exact Nat.or_lt_two_pow h1 h2
  rw [i_tp (x := a ||| b) (by omega)]
  omega
end IMS
