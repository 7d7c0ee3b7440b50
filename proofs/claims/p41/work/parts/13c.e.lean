/-! ===== reading a rule: the pile, the values, the codes ===== -/
def ct (p : Int → Bool) (a : Nat → Int32) : Nat → Nat
  | 0 => 0
  | n + 1 => ct p a n + (if p (a n).toInt then 1 else 0)
def pJ (z : Int) : Bool := decide (z = 1 ∨ z = 2 ∨ z = 4 ∨ z = 5 ∨ z = 6)
def pN (z : Int) : Bool := decide (z = 3)
def pK (z : Int) : Bool := decide (z = 7)
theorem ct_far {p : Int → Bool} {a : Nat → Int32} {i : Nat} {v : Int32} : ∀ n : Nat, n ≤ i → ct p (upd a i v) n = ct p a n := by
  intro n
  induction n with
  | zero => intro _; rfl
  | succ n ih =>
    intro h
    show ct p (upd a i v) n + (if p (upd a i v n).toInt then 1 else 0) = ct p a n + (if p (a n).toInt then 1 else 0)
    rw [ih (by omega), pk_un (by omega)]
theorem ct_push (p : Int → Bool) (a : Nat → Int32) (n : Nat) (v : Int32) : ct p (upd a n v) (n + 1) = ct p a n + (if p v.toInt then 1 else 0) := by
  show ct p (upd a n v) n + (if p (upd a n v n).toInt then 1 else 0) = _
  rw [ct_far n (Nat.le_refl n), pk_us]
theorem ct_pop (p : Int → Bool) (a : Nat → Int32) (n : Nat) : ct p a (n + 1) = ct p a n + (if p (a n).toInt then 1 else 0) := rfl
theorem kJ {k : Int} (h : k = 1 ∨ k = 2 ∨ k = 4 ∨ k = 5 ∨ k = 6) : pJ k = true ∧ pN k = false ∧ pK k = false := by
  rcases h with h | h | h | h | h <;> subst h <;> decide
theorem kN {k : Int} (h : k = 3) : pJ k = false ∧ pN k = true ∧ pK k = false := by subst h; decide
theorem kK {k : Int} (h : k = 7) : pJ k = false ∧ pN k = false ∧ pK k = true := by subst h; decide
theorem k8 {k : Int} (h : k = 8) : pJ k = false ∧ pN k = false ∧ pK k = false := by subst h; decide
def PE (k v : Int) : Prop := ((k = 1 ∨ k = 2 ∨ k = 4 ∨ k = 5 ∨ k = 6) ∧ v ≠ 126 ∧ (v < 97 ∨ 122 < v)) ∨ (k = 3 ∧ v = 126) ∨ k = 7
def PL (wh sn : Nat → Int32) (n : Nat) : Prop := (1 ≤ n → (wh 0).toInt = 8) ∧ ∀ i : Nat, 1 ≤ i → i < n → PE (wh i).toInt (sn i).toInt
theorem pl_cnt {wh sn : Nat → Int32} : ∀ n : Nat, PL wh sn n → n ≤ 1 + ct pJ wh n + ct pN wh n + ct pK wh n := by
  intro n
  induction n with
  | zero => intro _; omega
  | succ n ih =>
    intro h
    have q := ih ⟨fun hn => h.1 (by omega), fun i h1 h2 => h.2 i h1 (by omega)⟩
    rw [ct_pop, ct_pop, ct_pop]
    by_cases hn : n = 0
    · subst hn; omega
    · rcases h.2 n (by omega) (by omega) with e | e | e
      · obtain ⟨e1, e2, e3⟩ := kJ e.1; rw [e1, e2, e3]; simp; omega
      · obtain ⟨e1, e2, e3⟩ := kN e.1; rw [e1, e2, e3]; simp; omega
      · obtain ⟨e1, e2, e3⟩ := kK e; rw [e1, e2, e3]; simp; omega
theorem pl_push {wh sn : Nat → Int32} {n : Nat} {k v : Int32} (h : PL wh sn n) (hn : 1 ≤ n) (hp : PE k.toInt v.toInt) : PL (upd wh n k) (upd sn n v) (n + 1) := by
  refine ⟨fun _ => by rw [pk_un (by omega)]; exact h.1 hn, fun i h1 h2 => ?_⟩
  by_cases hi : i = n
  · subst hi; rw [pk_us, pk_us]; exact hp
  · rw [pk_un hi, pk_un hi]; exact h.2 i h1 (by omega)
theorem pl_pop {wh sn : Nat → Int32} {n : Nat} (h : PL wh sn (n + 1)) : PL wh sn n := ⟨fun hn => h.1 (by omega), fun i h1 h2 => h.2 i h1 (by omega)⟩
/-- what was read of the bank ahead of this rule -/
def BS (bn : Nat) (hd A0 : Int) (q : Nat) (c0 : Int) (w : Wd) : Prop := Rg (w.2.1 312 bn) 1 12 ∧ ((w.2.1 314 bn).toInt = hd ∧ 0 ≤ hd ∧ hd ≤ 4) ∧ (0 ≤ (w.2.1 313 bn).toInt ∧ (w.2.1 313 bn).toInt < 2 ^ (w.2.1 312 bn).toInt.toNat) ∧ ((w.2.1 318 bn).toInt ≤ 0 → (w.2.1 313 bn).toInt = 0) ∧ (0 ≤ (w.2.1 318 bn).toInt ∧ (w.2.1 318 bn).toInt ≤ (w.1 300 6).toInt ∧ A0 ≤ (w.1 300 6).toInt) ∧ (∀ r : Nat, r < q → PX (w.2.1 325) (w.2.1 319 (8 * bn + r)).toInt (w.2.1 320 (8 * bn + r)).toInt ∧ 560 * (bn : Int) ≤ (w.2.1 319 (8 * bn + r)).toInt ∧ (w.2.1 320 (8 * bn + r)).toInt ≤ c0)
theorem bs_frame {bn q : Nat} {hd A0 c0 : Int} {w w9 : Wd} (h : BS bn hd A0 q c0 w) (ea : ∀ a, a = 312 ∨ a = 313 ∨ a = 314 ∨ a = 318 ∨ a = 319 ∨ a = 320 → w9.2.1 a = w.2.1 a) (ec : ∀ k : Nat, (k : Int) < c0 → w9.2.1 325 k = w.2.1 325 k) (e6 : (w.1 300 6).toInt ≤ (w9.1 300 6).toInt) : BS bn hd A0 q c0 w9 := by
  obtain ⟨h1, h2, h3, h4, h5, h6⟩ := h
  unfold BS
  rw [ea 312 (by decide), ea 313 (by decide), ea 314 (by decide), ea 318 (by decide), ea 319 (by decide), ea 320 (by decide)]
  exact ⟨h1, h2, h3, h4, ⟨h5.1, by omega, by omega⟩, fun r hr => ⟨px_cong (h6 r hr).1 (fun k k1 k2 => ec k (by have := (h6 r hr).2.2; omega)), (h6 r hr).2⟩⟩
theorem bs_up {bn q : Nat} {hd A0 c0 c1 : Int} {w : Wd} (h : BS bn hd A0 q c0 w) (hc : c0 ≤ c1) : BS bn hd A0 q c1 w := by
  obtain ⟨h1, h2, h3, h4, h5, h6⟩ := h
  exact ⟨h1, h2, h3, h4, h5, fun r hr => ⟨(h6 r hr).1, (h6 r hr).2.1, by have := (h6 r hr).2.2; omega⟩⟩
/-- and where this rule begins -/
def BSe (bn : Nat) (hd A0 : Int) (q : Nat) (c0 : Int) (w : Wd) : Prop := BS bn hd A0 q c0 w ∧ (w.2.1 319 (8 * bn + q)).toInt = c0
theorem bse_frame {bn q : Nat} {hd A0 c0 : Int} {w w9 : Wd} (h : BSe bn hd A0 q c0 w) (ea : ∀ a, a = 312 ∨ a = 313 ∨ a = 314 ∨ a = 318 ∨ a = 319 ∨ a = 320 → w9.2.1 a = w.2.1 a) (ec : ∀ k : Nat, (k : Int) < c0 → w9.2.1 325 k = w.2.1 325 k) (e6 : (w.1 300 6).toInt ≤ (w9.1 300 6).toInt) : BSe bn hd A0 q c0 w9 := ⟨bs_frame h.1 ea ec e6, by rw [ea 319 (by decide)]; exact h.2⟩
def EC (bn : Nat) (hd A0 : Int) (q : Nat) (f0 wt : Int) (n : Nat) (g : Nat → Int) (cd u r a t wi : Int) (w : Wd) : Prop :=
  (Ti (w.1 300 33) (n : Int) ∧ Ti (w.1 300 31) cd ∧ Ti (w.1 300 34) r ∧ Ti (w.1 300 32) wi ∧ Ti (w.2.1 315 bn) u ∧ Ti (w.1 300 6) a ∧ Ti (w.1 300 8) t)
  ∧ PL (w.2.1 327) (w.2.1 328) n
  ∧ (wi = (ct pN (w.2.1 327) n : Int) + (ct pK (w.2.1 327) n : Int) ∧ wi ≤ 7)
  ∧ (r ≤ 30 ∧ (ct pJ (w.2.1 327) n : Int) + (1 - wt) ≤ r) ∧ (0 ≤ u ∧ u ≤ 90) ∧ (560 * (bn : Int) ≤ f0 ∧ f0 ≤ cd) ∧ (wt = 1 → 1 ≤ n)
  ∧ ((wt = 1 → 4 * (cd - 560 * (bn : Int) + (ct pJ (w.2.1 327) n : Int) + (ct pN (w.2.1 327) n : Int)) ≤ 7 * u + a + 1) ∧ (wt = 1 → t = 3 → 4 * (cd - 560 * (bn : Int) + (ct pJ (w.2.1 327) n : Int) + (ct pN (w.2.1 327) n : Int)) ≤ 7 * u + a) ∧ (wt = 0 → 4 * (cd - 560 * (bn : Int) + (ct pJ (w.2.1 327) n : Int) + (ct pN (w.2.1 327) n : Int)) + 3 ≤ 7 * u + a))
  ∧ (g f0.toNat = 0 ∧ (∀ k : Nat, f0 ≤ (k : Int) → (k : Int) < cd → SS (w.2.1 325 k) (g k) (g (k + 1))) ∧ g cd.toNat = (ct pJ (w.2.1 327) n : Int) + (1 - wt))
  ∧ BSe bn hd A0 q f0 w
def ES (bn : Nat) (hd A0 : Int) (q : Nat) (f0 wt : Int) (w : Wd) : Prop := ∃ (n : Nat) (g : Nat → Int) (cd u r a t wi : Int), EC bn hd A0 q f0 wt n g cd u r a t wi w
section ER
variable {T W H P S M sz : Int} {s : Int → Int} {bn : Nat} {w w9 : Wd} {hd A0 f0 wt cd u r a t wi : Int} {q n : Nat} {g : Nat → Int}
theorem ec_n (h : EC bn hd A0 q f0 wt n g cd u r a t wi w) (hw : wt ≤ 1) : n ≤ 38 ∧ ct pJ (w.2.1 327) n ≤ 30 := by
  obtain ⟨-, h2, h3, h4, -⟩ := h
  have := pl_cnt n h2
  omega
theorem uX11_emit {post : Wd → Prop} {x1 x2 : Int32} (hI : RI T W H P S M sz s bn w) (tc : Ti (w.1 300 31) cd) (hc : 560 * (bn : Int) ≤ cd ∧ cd < 560 * (bn : Int) + 560) (hp : ∀ w9 : Wd, RI T W H P S M sz s bn w9 → (∀ o, o ≠ 325 → o ≠ 326 → w9.2.1 o = w.2.1 o) → w9.2.1 325 = upd (w.2.1 325) cd.toNat x1 → (∀ f, f ≠ 31 → w9.1 300 f = w.1 300 f) → Ti (w9.1 300 31) (cd + 1) → post w9) : pX11_emit post x1 x2 w := by
  unfold pX11_emit
  have hb := hI.2.2.2.2.1.1
  have ec := i_cz tc
  have v1 : vp_in (w.1 300 31) 1120 := vp_of tc (by omega) (by omega)
  refine ⟨v1, ?_⟩
  intro w_1 e1
  have i1 := ri_code hI e1 (by omega)
  refine ⟨by rw [e1_A e1]; exact v1, ?_⟩
  intro w_2 e2
  have i2 := ri_A i1 e2 (by decide)
  intro w_3 e3
  have a2 : w_2.1 = w.1 := (e1_A e2).trans (e1_A e1)
  rw [a2] at e3
  obtain ⟨z, tz, fz⟩ := t_add tc lit_1
  replace fz := fz (by omega)
  have b3 : w_3.2.1 = w_2.2.1 := e2_I e3
  refine hp w_3 (ri_I i2 e3 (by omega)) (fun o h1 h2 => by rw [b3, e2, sA_ne h2, e1, sA_ne h1]) (by rw [b3, e2, sA_ne (by decide), e1, sA_eq, ec]) (fun f hf => by rw [e3, sI_ne (by omega), a2]) (by rw [e3, sI_at, ← fz]; exact tz)
theorem uX11_pushE {post : Wd → Prop} {x1 x2 : Int32} (hI : RI T W H P S M sz s bn w) (tn : Ti (w.1 300 33) (n : Int)) (hn : n < 90) (hp : ∀ w9 : Wd, RI T W H P S M sz s bn w9 → (∀ o, o ≠ 327 → o ≠ 328 → w9.2.1 o = w.2.1 o) → w9.2.1 327 = upd (w.2.1 327) n x1 → w9.2.1 328 = upd (w.2.1 328) n x2 → (∀ f, f ≠ 33 → w9.1 300 f = w.1 300 f) → Ti (w9.1 300 33) ((n + 1 : Nat) : Int) → post w9) : pX11_pushE post x1 x2 w := by
  unfold pX11_pushE
  have ec := i_cz tn
  have en : (w.1 300 33).toNatClampNeg = n := by omega
  have v1 : vp_in (w.1 300 33) 90 := vp_of tn (by omega) (by omega)
  refine ⟨v1, ?_⟩
  intro w_1 e1
  have i1 := ri_A hI e1 (by decide)
  refine ⟨by rw [e1_A e1]; exact v1, ?_⟩
  intro w_2 e2
  have i2 := ri_A i1 e2 (by decide)
  intro w_3 e3
  have a2 : w_2.1 = w.1 := (e1_A e2).trans (e1_A e1)
  rw [a2] at e3
  rw [e1_A e1, en] at e2
  rw [en] at e1
  obtain ⟨z, tz, fz⟩ := t_add tn lit_1
  replace fz := fz (by omega)
  have b3 : w_3.2.1 = w_2.2.1 := e2_I e3
  refine hp w_3 (ri_I i2 e3 (by omega)) (fun o h1 h2 => by rw [b3, e2, sA_ne h2, e1, sA_ne h1]) (by rw [b3, e2, sA_ne (by decide), e1, sA_eq]) (by rw [b3, e2, sA_eq, e1, sA_ne (by decide)]) (fun f hf => by rw [e3, sI_ne (by omega), a2]) (by rw [e3, sI_at, show ((n + 1 : Nat) : Int) = z by omega]; exact tz)
/-- an atom's or an operator's code behind the others -/
theorem g_app {code : Nat → Int32} {x : Int32} {v m : Int} (h0 : 0 ≤ f0) (h1 : f0 ≤ cd) (hg : g f0.toNat = 0 ∧ (∀ k : Nat, f0 ≤ (k : Int) → (k : Int) < cd → SS (code k) (g k) (g (k + 1))) ∧ g cd.toNat = v) (hs : SS x v m) : ∃ g2 : Nat → Int, g2 f0.toNat = 0 ∧ (∀ k : Nat, f0 ≤ (k : Int) → (k : Int) < cd + 1 → SS (upd code cd.toNat x k) (g2 k) (g2 (k + 1))) ∧ g2 (cd + 1).toNat = m := by
  obtain ⟨g1, g2, g3⟩ := hg
  refine ⟨fun k => if k = cd.toNat + 1 then m else g k, ?_, ?_, ?_⟩
  · show (if f0.toNat = cd.toNat + 1 then m else g f0.toNat) = 0
    rw [if_neg (by omega)]; exact g1
  · intro k k1 k2
    show SS (upd code cd.toNat x k) (if k = cd.toNat + 1 then m else g k) (if k + 1 = cd.toNat + 1 then m else g (k + 1))
    by_cases hk : k = cd.toNat
    · subst hk
      rw [pk_us, if_neg (by omega), if_pos rfl, g3]
      exact hs
    · rw [pk_un hk, if_neg (by omega), if_neg (by omega)]
      exact g2 k k1 (by omega)
  · show (if (cd + 1).toNat = cd.toNat + 1 then m else _) = m
    rw [if_pos (by omega)]
/-! unit: its end -/
set_option maxHeartbeats 4000000 in
theorem u_147 {post : Int32 → Wd → Prop} {x2 x3 x4 : Int32} {z4 : Int} (t4 : Ti x4 z4) (hI : RI T W H P S M sz s bn w) (hg : ¬ Bad w → EC bn hd A0 q f0 1 n g cd u r a t wi w ∧ ((¬ x2 = 0 ∧ t = 3 ∧ w.2.2.1 300 10 = 7237492 ∧ wi ≤ 6) ∨ (x2 = 0 ∧ u ≤ 89 ∧ r ≤ 29 ∧ ((¬ x3 = 0 ∧ wi ≤ 6 ∧ t = 5) ∨ (x3 = 0 ∧ ((¬ x4 = 0 ∧ 97 ≤ z4 ∧ z4 ≤ 122 ∧ t = 3) ∨ (x4 = 0 ∧ t = 4)))))))
    (hp : ∀ (rr : Int32) (w9 : Wd), RI T W H P S M sz s bn w9 → (¬ Bad w9 → ((rr = 1 ∧ ES bn hd A0 q f0 1 w9) ∨ (rr = 0 ∧ ES bn hd A0 q f0 0 w9)) ∧ ∃ a9 : Int, Ti (w9.1 300 6) a9 ∧ a + 1 ≤ a9) → post rr w9) : pX11_unit_147 post x2 x3 x4 w := by
  unfold pX11_unit_147
  refine ⟨fun c => b0n (hp 1 w hI (fun q => absurd c q)), fun c => b1n ?_⟩
  obtain ⟨hE, hU⟩ := hg (fun q => q c)
  have hn := ec_n hE (by omega)
  obtain ⟨⟨k33, k31, k34, k32, k315, k6, k8⟩, h2, h3, h4, h5, h6, h7, h8, h9, h10⟩ := hE
  have hb := ri_b hI
  have hbv := ri_bv hI
  have hbl := hI.2.2.2.2.1.1
  obtain ⟨a1, e1, t1, ta1, te1, tt1, y1, y2, y3, y4, y5⟩ := hI.2.2.2.2.2.2
  have ea := t_un k6 ta1
  have et := t_un k8 tt1
  subst ea
  subst et
  have hae : a < e1 := y4 (by omega)
  -- units and unitsInRule go up by d, then goOn
  have main : ∀ (dv : Int32) (d : Int), Ti dv d → (d = 0 ∧ ¬ x2 = 0 ∨ d = 1 ∧ x2 = 0) → pX11_unit_175 post x2 x3 x4 (w.1 300 30) (w.2.1 315 (w.1 300 30).toNatClampNeg) dv w := by
    intro dv d td hd
    have hud : d = 0 ∨ (d = 1 ∧ u ≤ 89 ∧ r ≤ 29) := by
      rcases hd with hd | hd
      · exact Or.inl hd.1
      · rcases hU with hU | hU
        · exact absurd hd.2 hU.1
        · exact Or.inr ⟨hd.1, hU.2.1, hU.2.2.1⟩
    have d0 : ¬ x2 = 0 → d = 0 := fun z => by
      rcases hd with hd | hd
      · exact hd.1
      · exact absurd hd.2 z
    have d1 : x2 = 0 → d = 1 := fun z => by
      rcases hd with hd | hd
      · exact absurd z hd.2
      · exact hd.1
    unfold pX11_unit_175
    refine ⟨hbv, ?_⟩
    rw [hb]
    intro w_1 q1
    have i1 := ri_A hI q1 (by decide)
    have f1 : w_1.1 = w.1 := e1_A q1
    obtain ⟨zu, tu, fu⟩ := t_add k315 td
    replace fu := fu (by omega)
    have m191 : ∀ (dv2 : Int32), Ti dv2 d → pX11_unit_191 post x2 x3 x4 (w_1.1 300 34) dv2 w_1 := by
      intro dv2 td2
      unfold pX11_unit_191
      intro w_2 q2
      have i2 := ri_I i1 q2 (by omega)
      rw [f1] at q2
      obtain ⟨zr, tr, fr⟩ := t_add k34 td2
      replace fr := fr (by omega)
      have fin : ∀ nv : Int32, pX11_unit_208 post x2 x3 x4 nv w_2 := by
        intro nv
        unfold pX11_unit_208
        have te2 : Ti (w_2.1 300 7) e1 := by rw [q2, sI_ne (by omega), f1]; exact te1
        refine uX11_goOn i2 te2 (fun w_3 i3 g3 f3 => ?_)
        obtain ⟨a3, e3, t3, ta3, te3, tt3, x1', x2', x3', x4', x5'⟩ := g3
        have v : ∀ f : Nat, (f < 6 ∨ 9 < f) → f ≠ 34 → w_3.1 300 f = w.1 300 f := fun f h1 h2 => by rw [f3.2 f h1, q2, sI_ne (by omega), f1]
        have v34 : Ti (w_3.1 300 34) (r + d) := by rw [f3.2 34 (by decide), q2, sI_at, ← fr]; exact tr
        have ar : ∀ o : Nat, o ≠ 315 → w_3.2.1 o = w.2.1 o := fun o ho => by rw [f3.1, e2_I q2, q1, sA_ne ho]
        have a315 : Ti (w_3.2.1 315 bn) (u + d) := by rw [f3.1, e2_I q2, q1, sA_at, ← fu]; exact tu
        have nb3 : ¬ Bad w_3 := fun z => z (by rw [v 4 (by decide) (by decide)]; exact c)
        have e66 : (w.1 300 6).toInt ≤ (w_3.1 300 6).toInt := by
          rw [show (w.1 300 6).toInt = a from k6, show (w_3.1 300 6).toInt = a3 from ta3]; omega
        have push : ∀ (kd : Int32) (zk : Int), Ti kd zk → ((zk = 3 ∧ d = 0 ∧ t = 3 ∧ w.2.2.1 300 10 = 7237492) ∨ (zk = 7 ∧ d = 1)) → wi ≤ 6 → pX11_unit_233 post kd w_3 := by
          intro kd zk tk hk hwi
          unfold pX11_unit_233
          refine uX11_pushE i3 (by rw [v 33 (by decide) (by decide)]; exact k33) (by omega) (fun w_4 i4 o4 p4 s4 f4 n4 => ?_)
          intro w_5 q5
          obtain ⟨zw, tw, fw⟩ := t_add (show Ti (w_4.1 300 32) wi by rw [f4 32 (by decide), v 32 (by decide) (by decide)]; exact k32) lit_1
          replace fw := fw (by omega)
          have g5 : ∀ f : Nat, f ≠ 32 → w_5.1 300 f = w_4.1 300 f := fun f hf => by rw [q5, sI_ne (by omega)]
          have b5 : w_5.2.1 = w_4.2.1 := e2_I q5
          have W5 : w_5.2.1 327 = upd (w.2.1 327) n kd := by rw [b5, p4, ar 327 (by decide)]
          have S5 : w_5.2.1 328 = upd (w.2.1 328) n (126 : Int32) := by rw [b5, s4, ar 328 (by decide)]
          have tkk : kd.toInt = zk := tk
          have cj : ct pJ (w_5.2.1 327) (n + 1) = ct pJ (w.2.1 327) n := by
            rw [W5, ct_push, tkk]
            rcases hk with hk | hk
            · rw [(kN hk.1).1]; rfl
            · rw [(kK hk.1).1]; rfl
          have cn : (ct pN (w_5.2.1 327) (n + 1) : Int) = ct pN (w.2.1 327) n + (1 - d) := by
            rw [W5, ct_push, tkk]
            rcases hk with hk | hk
            · rw [(kN hk.1).2.1, hk.2.1]; simp
            · rw [(kK hk.1).2.1, hk.2]; simp
          have ck : (ct pK (w_5.2.1 327) (n + 1) : Int) = ct pK (w.2.1 327) n + d := by
            rw [W5, ct_push, tkk]
            rcases hk with hk | hk
            · rw [(kN hk.1).2.2, hk.2.1]; simp
            · rw [(kK hk.1).2.2, hk.2]; simp
          refine hp 1 w_5 (ri_I i4 q5 (by omega)) (fun _ => ⟨Or.inl ⟨rfl, n + 1, g, cd, u + d, r + d, a3, t3, wi + 1, ?_⟩, a3, by rw [g5 6 (by decide), f4 6 (by decide)]; exact ta3, by omega⟩)
          refine ⟨⟨by rw [g5 33 (by decide)]; exact n4, by rw [g5 31 (by decide), f4 31 (by decide), v 31 (by decide) (by decide)]; exact k31, by rw [g5 34 (by decide), f4 34 (by decide)]; exact v34, by rw [q5, sI_at, ← fw]; exact tw, by rw [b5, o4 315 (by decide) (by decide)]; exact a315, by rw [g5 6 (by decide), f4 6 (by decide)]; exact ta3, by rw [g5 8 (by decide), f4 8 (by decide)]; exact tt3⟩, ?_, ⟨by omega, by omega⟩, ⟨by omega, by rw [cj]; omega⟩, by omega, h6, fun _ => by omega, ⟨fun _ => ?_, fun _ ht3 => ?_, fun q => absurd q (by omega)⟩, ⟨h9.1, by rw [b5, o4 325 (by decide) (by decide), ar 325 (by decide)]; exact h9.2.1, by rw [cj]; exact h9.2.2⟩, ?_⟩
          · rw [W5, S5]
            refine pl_push h2 (by omega) ?_
            rw [tkk]
            rcases hk with hk | hk
            · exact Or.inr (Or.inl ⟨hk.1, by decide⟩)
            · exact Or.inr (Or.inr hk.1)
          · rw [cj, cn]
            rcases hk with hk | hk
            · have := h8.2.1 (by omega) hk.2.2.1
              have := (y5 hk.2.2.1).2.2 hk.2.2.2
              omega
            · have := h8.1 (by omega)
              omega
          · rw [cj, cn]
            rcases hk with hk | hk
            · have q1 := h8.2.1 (by omega) hk.2.2.1
              have q2 := y5 hk.2.2.1
              have q3 := q2.2.2 hk.2.2.2
              have q4 := (x5' ht3).1
              have q5' : a3 ≠ e1 := fun z => q2.2.1 (by rw [← z]; exact q4)
              omega
            · have := h8.1 (by omega)
              omega
          · refine bse_frame h10 (fun o ho => by rw [b5, o4 o (by omega) (by omega), ar o (by omega)]) (fun k hk => by rw [b5, o4 325 (by decide) (by decide), ar 325 (by decide)]) ?_
            rw [g5 6 (by decide), f4 6 (by decide)]
            exact e66
        have atom : ∀ (xc nv : Int32) (zc : Int), Ti xc zc → 97 ≤ zc → zc ≤ 122 → d = 1 → pX11_emit (fun w_5 => post (0 : Int32) w_5) xc nv w_3 := by
          intro xc nv zc tc hc1 hc2 hd1
          have ph := h8.1 (by omega)
          have asz : a ≤ 1600 := by have := hI.2.2.1; omega
          refine uX11_emit i3 (by rw [v 31 (by decide) (by decide)]; exact k31) (by omega) (fun w_5 i5 o5 c5 f5 n5 => ?_)
          have J5 : ct pJ (w_5.2.1 327) n = ct pJ (w.2.1 327) n := by rw [o5 327 (by decide) (by decide), ar 327 (by decide)]
          have N5 : ct pN (w_5.2.1 327) n = ct pN (w.2.1 327) n := by rw [o5 327 (by decide) (by decide), ar 327 (by decide)]
          obtain ⟨g2, gg1, gg2, gg3⟩ := g_app (x := xc) (m := (ct pJ (w.2.1 327) n : Int) + 1) (by omega) h6.2 h9 (by
            refine ⟨by omega, Or.inr (Or.inl ⟨?_, ?_, by omega, by omega⟩)⟩
            · rw [show xc.toInt = zc from tc]; exact hc1
            · rw [show xc.toInt = zc from tc]; exact hc2)
          refine hp 0 w_5 i5 (fun _ => ⟨Or.inr ⟨rfl, n, g2, cd + 1, u + d, r + d, a3, t3, wi, ?_⟩, a3, by rw [f5 6 (by decide)]; exact ta3, by omega⟩)
          refine ⟨⟨by rw [f5 33 (by decide), v 33 (by decide) (by decide)]; exact k33, n5, by rw [f5 34 (by decide)]; exact v34, by rw [f5 32 (by decide), v 32 (by decide) (by decide)]; exact k32, by rw [o5 315 (by decide) (by decide)]; exact a315, by rw [f5 6 (by decide)]; exact ta3, by rw [f5 8 (by decide)]; exact tt3⟩, by rw [o5 327 (by decide) (by decide), o5 328 (by decide) (by decide), ar 327 (by decide), ar 328 (by decide)]; exact h2, by rw [o5 327 (by decide) (by decide), ar 327 (by decide)]; exact h3, ⟨by omega, by rw [J5]; omega⟩, by omega, ⟨h6.1, by omega⟩, fun z => absurd z (by omega), ⟨fun z => absurd z (by omega), fun z => absurd z (by omega), fun _ => by rw [J5, N5]; omega⟩, ⟨gg1, by rw [c5, ar 325 (by decide)]; exact gg2, by rw [J5, gg3]; omega⟩, ?_⟩
          refine bse_frame h10 (fun o ho => by rw [o5 o (by omega) (by omega), ar o (by omega)]) (fun k hk => by rw [c5, ar 325 (by decide), pk_un (by omega)]) ?_
          rw [f5 6 (by decide)]
          exact e66
        refine ⟨fun x2n => ?_, fun x2z => ⟨fun x3z => ⟨fun x4n => ?_, fun x4z => ?_⟩, fun x3n => ?_⟩⟩
        · unfold pX11_unit_222
          rcases hU with hU | hU
          · exact ⟨fun z => absurd z x2n, fun _ => push _ _ lit_3 (Or.inl ⟨rfl, d0 x2n, hU.2.1, hU.2.2.1⟩) hU.2.2.2⟩
          · exact absurd hU.1 x2n
        · rcases hU with hU | hU
          · exact absurd x2z hU.1
          · rcases hU.2.2.2 with hV | hV
            · exact absurd x3z hV.1
            · rcases hV.2 with hV | hV
              · exact atom x4 nv z4 t4 hV.2.1 hV.2.2.1 (d1 x2z)
              · exact absurd hV.1 x4n
        · exact atom _ nv _ lit_110 (by omega) (by omega) (d1 x2z)
        · unfold pX11_unit_222
          rcases hU with hU | hU
          · exact absurd x2z hU.1
          · rcases hU.2.2.2 with hV | hV
            · exact ⟨fun _ => push _ _ lit_7 (Or.inr ⟨rfl, d1 x2z⟩) hV.2.1, fun z => absurd x2z z⟩
            · exact absurd hV.1 x3n
      exact ⟨fun _ => fin _, fun _ => fin _⟩
    rcases hd with hd | hd
    · exact ⟨fun z => absurd z hd.2, fun _ => m191 _ (by rw [hd.1]; exact lit_0)⟩
    · exact ⟨fun _ => m191 _ (by rw [hd.1]; exact lit_1), fun z => absurd hd.2 z⟩
  exact ⟨hbv, fun z => main _ _ lit_1 (Or.inr ⟨rfl, z⟩), fun z => main _ _ lit_0 (Or.inl ⟨rfl, z⟩)⟩
end ER
