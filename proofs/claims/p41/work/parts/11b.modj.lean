/-! ===== casts: a property J of worlds that the asked words and the pile don't touch goes along ===== -/
def StJ (J : Wd → Prop) : Prop := (∀ (w : Wd) (f : Nat) (v : Int32), 35 ≤ f → f ≤ 39 → J w → J (sI w 300 f v)) ∧ (∀ (w : Wd) (i : Nat) (v : Int32), J w → J (sA w 329 i v))
def IJ (T W H P S M : Int) (J : Wd → Prop) (w : Wd) : Prop := IM T W H P S M w ∧ J w ∧ StJ J
section IJS
variable {T W H P S M z x : Int} {w w9 : Wd} {J : Wd → Prop}
theorem ijs_n {f : Nat} {v : Int32} (h : IJ T W H P S M J w) (e : w9 = sI w 300 f v) (h1 : 35 ≤ f) (h2 : f ≤ 39) : IJ T W H P S M J w9 :=
  ⟨ims_n h.1 e (by omega), by rw [e]; exact h.2.2.1 w f v h1 h2 h.2.1, h.2.2⟩
theorem ijs_A {i : Nat} {v : Int32} (h : IJ T W H P S M J w) (e : w9 = sA w 329 i v) : IJ T W H P S M J w9 :=
  ⟨ims_A h.1 e (by decide), by rw [e]; exact h.2.2.2 w i v h.2.1, h.2.2⟩
theorem stJ_true : StJ (fun _ => True) := ⟨fun _ _ _ _ _ _ => trivial, fun _ _ _ _ => trivial⟩
/-- the rule being run: its codes, its end -/
def CQ (cd : Nat → Int32) (bk q t : Int) (w : Wd) : Prop := w.2.1 325 = cd ∧ (w.1 300 29).toInt = bk ∧ (w.2.1 320 (8 * bk + q).toNat).toInt = t
theorem stJ_CQ {cd : Nat → Int32} {bk q t : Int} (h : StJ J) : StJ (fun w => J w ∧ CQ cd bk q t w) :=
  ⟨fun w f v h1 h2 hw => ⟨h.1 w f v h1 h2 hw.1, hw.2.1, by rw [sI_ne (by omega)]; exact hw.2.2.1, hw.2.2.2⟩, fun w i v hw => ⟨h.2 w i v hw.1, by rw [sA_ne (by decide)]; exact hw.2.1, hw.2.2.1, by rw [sA_ne (by decide)]; exact hw.2.2.2⟩⟩
end IJS
section BITS
variable {T W H P S M : Int}
theorem bits_dn {x : Int32} (h : ¬ x = 0) : (x &&& (x - (1 : Int32))).toBitVec.toNat < x.toBitVec.toNat := by
  have h0 : x.toBitVec.toNat ≠ 0 := fun q => h (Int32.toBitVec_inj.mp (BitVec.eq_of_toNat_eq q))
  have h1 : (x - (1 : Int32)).toBitVec.toNat = x.toBitVec.toNat - 1 := by
    have hl := x.toBitVec.isLt
    rw [Int32.toBitVec_sub, BitVec.toNat_sub, show (1 : Int32).toBitVec.toNat = 1 from by decide]
    omega
  have h2 : (x &&& (x - (1 : Int32))).toBitVec.toNat ≤ (x - (1 : Int32)).toBitVec.toNat := by
    rw [Int32.toBitVec_and, BitVec.toNat_and]
    exact Nat.and_le_right
  omega
theorem sX11_bitsOf_4 {post : Int32 → Wd → Prop} {w : Wd} (hp : ∀ (r : Int32) (zr : Int), Ti r zr → post r w) : ∀ (n : Nat) (x1 x2 : Int32), x2.toBitVec.toNat < n → pX11_bitsOf_4 post n x1 x2 w := by
  intro n
  induction n with
  | zero => intro x1 x2 h; exact absurd h (by omega)
  | succ n ih =>
    intro x1 x2 h
    unfold pX11_bitsOf_4
    refine ⟨fun c => hp _ _ rfl, fun c => ?_⟩
    intro x1_2 e1 x2_3 e2
    have q := bits_dn c
    exact ih _ _ (by rw [e2]; omega)
theorem sX11_bitsOf {post : Int32 → Wd → Prop} {x0 : Int32} {zx0 : Int} {w : Wd} (tx0 : Ti x0 zx0) (hI : IM T W H P S M w) (hp : ∀ (r : Int32) (zr : Int), Ti r zr → post r w) : pX11_bitsOf post x0 w := by
  unfold pX11_bitsOf
  exact ⟨_, sX11_bitsOf_4 hp (x0.toBitVec.toNat + 1) _ _ (by omega)⟩
end BITS
def IMe (T W H P S : Int) (w : Wd) : Prop := ∃ M : Int, IM T W H P S M w
section CQS
variable {T W H P S M z u : Int} {w : Wd} {J : Wd → Prop} {cd : Nat → Int32} {bk q t f : Int} {g : Nat → Int}
theorem cq_bk (h : IJ T W H P S M (fun w => J w ∧ CQ cd bk q t w) w) (tz : Ti (w.1 300 29) z) : z = bk := (show _ = z from tz).symm.trans h.2.1.2.2.1
theorem cq_to {i : Int32} (h : IJ T W H P S M (fun w => J w ∧ CQ cd bk q t w) w) (ti : Ti i u) (tz : Ti (w.2.1 320 i.toNatClampNeg) z) (h1 : u = 8 * bk + q) (h2 : 0 ≤ u) : z = t := by
  have e := i_cz ti
  have k := h.2.1.2.2.2
  rw [← h1, ← e] at k
  exact (show _ = z from tz).symm.trans k
theorem cq_ss {i : Int32} (hg : ∀ k : Nat, f ≤ (k : Int) → (k : Int) < t → SS (cd k) (g k) (g (k + 1))) (h : IJ T W H P S M (fun w => J w ∧ CQ cd bk q t w) w) (ti : Ti i u) (tz : Ti (w.2.1 325 i.toNatClampNeg) z) (h0 : 0 ≤ f) (h1 : f ≤ u) (h2 : u < t) : g u.toNat ≤ 50 ∧ ((z = 126 ∧ 1 ≤ g u.toNat ∧ g (u.toNat + 1) = g u.toNat) ∨ (97 ≤ z ∧ z ≤ 122 ∧ 0 ≤ g u.toNat ∧ g (u.toNat + 1) = g u.toNat + 1) ∨ (z ≠ 126 ∧ (z < 97 ∨ 122 < z) ∧ 2 ≤ g u.toNat ∧ g (u.toNat + 1) = g u.toNat - 1)) := by
  have e := i_cz ti
  have k := hg u.toNat (by omega) (by omega)
  rw [← h.2.1.2.1, ← e] at k
  have tz : (w.2.1 325 i.toNatClampNeg).toInt = z := tz
  unfold SS at k
  rw [tz, e] at k
  exact k
end CQS
