/-! ===== reading: tokens ===== -/
/-- the sign at a place (0 behind the end) -/
def sg (w : Wd) (i : Int) : Int := if (w.1 300 3).toInt ≤ i then 0 else ((w.2.1 302 i.toNat) &&& (255 : Int32)).toInt
def Ls (s : Int → Int) (i : Int) : Prop := 97 ≤ s i ∧ s i ≤ 122
def StG (J : Wd → Prop) : Prop := (∀ (w : Wd) (f : Nat) (v : Int32), 6 ≤ f → f ≤ 9 → J w → J (sI w 300 f v)) ∧ (∀ (w : Wd) (v : Int64), J w → J (sJ w 300 10 v))
def IG (T W H P S M sz : Int) (s : Int → Int) (J : Wd → Prop) (w : Wd) : Prop := IM T W H P S M w ∧ (w.1 300 3).toInt = sz ∧ (0 ≤ sz ∧ sz ≤ 1600) ∧ (∀ i : Int, 0 ≤ i → sg w i = s i) ∧ J w ∧ StG J
/-- what goOn leaves: the token from a to e, of sort t -/
def GP (sz : Int) (s : Int → Int) (E : Int) (w : Wd) : Prop := ∃ a e t : Int, Ti (w.1 300 6) a ∧ Ti (w.1 300 7) e ∧ Ti (w.1 300 8) t ∧ E ≤ a ∧ a ≤ e ∧ e ≤ sz ∧ (t ≠ 0 → a < e) ∧ (t = 3 → Ls s a ∧ ¬ Ls s e ∧ (w.2.2.1 300 10 = 7237492 → a + 3 ≤ e))
section GO
variable {T W H P S M sz E : Int} {s : Int → Int} {J : Wd → Prop} {w w9 : Wd}
theorem sg_I {f : Nat} {v : Int32} (h : f ≠ 3) : sg (sI w 300 f v) = sg w := by
  funext i
  unfold sg
  rw [sI_ne (by omega)]
  rfl
theorem ig_I {f : Nat} {v : Int32} (h : IG T W H P S M sz s J w) (e : w9 = sI w 300 f v) (h1 : 6 ≤ f) (h2 : f ≤ 9) : IG T W H P S M sz s J w9 :=
  ⟨ims_n h.1 e (by omega), by rw [e, sI_ne (by omega)]; exact h.2.1, h.2.2.1, by rw [e, sg_I (by omega)]; exact h.2.2.2.1, by rw [e]; exact h.2.2.2.2.2.1 w f v h1 h2 h.2.2.2.2.1, h.2.2.2.2.2⟩
theorem ig_J {v : Int64} (h : IG T W H P S M sz s J w) (e : w9 = sJ w 300 10 v) : IG T W H P S M sz s J w9 :=
  ⟨ims_J h.1 e, by rw [e1_J e]; exact h.2.1, h.2.2.1, by rw [e]; exact h.2.2.2.1, by rw [e]; exact h.2.2.2.2.2.2 w v h.2.2.2.2.1, h.2.2.2.2.2⟩
theorem ig_hi (h : IG T W H P S M sz s J w) {i : Int} (h0 : 0 ≤ i) (h1 : sz ≤ i) : s i = 0 := by
  rw [← h.2.2.2.1 i h0]
  unfold sg
  rw [h.2.1, if_pos h1]
/-- the sign at a place -/
theorem gX11_sign {post : Int32 → Wd → Prop} {x1 : Int32} {z : Int} (t : Ti x1 z) (hI : IG T W H P S M sz s J w) (h0 : 0 ≤ z) (hp : ∀ (r : Int32) (zr : Int), Ti r zr → zr = s z → 0 ≤ zr → zr ≤ 255 → post r w) : pX11_sign post x1 w := by
  unfold pX11_sign
  have hs := hI.2.2.1
  have e3 : (w.1 300 3).toInt = sz := hI.2.1
  have e4 := hI.2.2.2.1 z h0
  unfold sg at e4
  rw [e3] at e4
  refine ⟨fun c => ?_, fun c => ?_⟩
  · replace c := c_le (show Ti (w.1 300 3) sz from e3) t c
    rw [if_pos c] at e4
    exact hp _ _ lit_0 e4 (by omega) (by omega)
  · replace c := c_nle (show Ti (w.1 300 3) sz from e3) t c
    rw [if_neg (by omega)] at e4
    refine ⟨vp_of t (by omega) (by omega), ?_⟩
    obtain ⟨zr, tr, f1, f2⟩ := t_and (x := w.2.1 302 x1.toNatClampNeg) lit_255 (by omega)
    rw [show z.toNat = x1.toNatClampNeg from (i_cz t).symm, show ((w.2.1 302 x1.toNatClampNeg) &&& (255 : Int32)).toInt = zr from tr] at e4
    exact hp _ _ tr e4 f1 f2
/-- letters one by one -/
def NB (d : Int) (v : Int64) : Prop := (d = 0 → v = 0) ∧ (d = 1 → v.toBitVec.toNat < 256) ∧ (d = 2 → v.toBitVec.toNat < 65536)
theorem nb_64 {r : Int32} {z : Int} (t : Ti r z) (h1 : 0 ≤ z) (h2 : z ≤ 255) : r.toInt64.toBitVec.toNat < 256 := by
  have t : r.toInt = z := t
  have q := BitVec.toInt_eq_toNat_cond r.toInt64.toBitVec
  rw [Int64.toInt_toBitVec, Int32.toInt_toInt64, t] at q
  have hl := r.toInt64.toBitVec.isLt
  split at q <;> omega
theorem nb_shl (a : Int64) (h : a.toBitVec.toNat < 256) : (a <<< ((8 : Int32).toInt64 &&& 63)).toBitVec.toNat < 65536 := by
  have e8 : ((8 : Int32).toInt64 &&& 63) = (8 : Int64) := by decide
  rw [e8, Int64.toBitVec_shiftLeft, show ((8 : Int64).toBitVec.smod 64) = 8#64 from by decide, BitVec.shiftLeft_eq', BitVec.toNat_shiftLeft, show (8#64).toNat = 8 from by decide, Nat.shiftLeft_eq]
  omega
theorem nb_or {a b : Int64} {n : Nat} (h1 : a.toBitVec.toNat < 2 ^ n) (h2 : b.toBitVec.toNat < 2 ^ n) : (a ||| b).toBitVec.toNat < 2 ^ n := by
  rw [Int64.toBitVec_or, BitVec.toNat_or]
  exact Nat.or_lt_two_pow h1 h2
theorem nb_step {d : Int} {v : Int64} {r : Int32} {z : Int} (h : NB d v) (hd : 0 ≤ d) (t : Ti r z) (h1 : 0 ≤ z) (h2 : z ≤ 255) : NB (d + 1) ((v <<< ((8 : Int32).toInt64 &&& 63)) ||| (r).toInt64) := by
  have q := nb_64 t h1 h2
  refine ⟨fun e => absurd e (by omega), fun e => ?_, fun e => ?_⟩
  · have hv : v = 0 := h.1 (by omega)
    subst hv
    have z0 : (0 : Int64) <<< ((8 : Int32).toInt64 &&& 63) = 0 := by decide
    rw [z0]
    exact nb_or (n := 8) (by decide) q
  · have hv := nb_shl v (h.2.1 (by omega))
    exact nb_or (n := 16) hv (by omega)
theorem nb_not {d : Int} (h0 : 0 ≤ d) (h : NB d 7237492) : 3 ≤ d := by
  apply Decidable.byContradiction
  intro hc
  rcases (show d = 0 ∨ d = 1 ∨ d = 2 by omega) with e | e | e
  · exact absurd (h.1 e) (by decide)
  · exact absurd (h.2.1 e) (by decide)
  · exact absurd (h.2.2 e) (by decide)
set_option maxHeartbeats 4000000 in
theorem g_goOn_156 {post : Wd → Prop} {a e : Int} (ha : E ≤ a) (h0 : 0 ≤ a) (hae : a < e) (he : e ≤ sz) (hL : Ls s a) (hN : ¬ Ls s e) (hp : ∀ w9 : Wd, IG T W H P S M sz s J w9 → GP sz s E w9 → post w9) : ∀ (n : Nat) (x2 : Int32) (k : Int) (w : Wd), Ti x2 k → IG T W H P S M sz s J w → Ti (w.1 300 6) a → Ti (w.1 300 7) e → (a ≤ k ∧ k ≤ e) → NB (k - a) (w.2.2.1 300 10) → e + 1 - k < (n : Int) → pX11_goOn_156 post n x2 w := by
  intro n
  induction n with
  | zero => intro x2 k w tk hI ta te h1 h2 hm; exact absurd hm (by omega)
  | succ n ih =>
    intro x2 k w tk hI ta te h1 h2 hm
    unfold pX11_goOn_156
    have hs := hI.2.2.1
    have fin : (k = e ∨ a + 8 ≤ k) → pX11_goOn_199 post w := by
      intro hk
      unfold pX11_goOn_199
      obtain ⟨zd, td, fd⟩ := t_sub te ta
      replace fd := fd (by omega)
      have bad : ∀ w_7, w_7 = sI w 300 8 (1 : Int32) → post w_7 := fun w_7 e7 => hp _ (ig_I hI e7 (by decide) (by decide)) ⟨a, e, 1, by rw [e7, sI_ne (by omega)]; exact ta, by rw [e7, sI_ne (by omega)]; exact te, by rw [e7, sI_at]; exact lit_1, ha, by omega, he, fun _ => hae, fun q => absurd q (by omega)⟩
      refine ⟨fun c => ?_, fun c => bad⟩
      replace c := c_le td lit_8 c
      refine sX11_isKept (hI := hI.1) (hp := fun r zr tr => ?_)
      refine ⟨fun c2 => ?_, fun c2 => ?_⟩
      · intro w_5 e5
        exact hp _ (ig_I hI e5 (by decide) (by decide)) ⟨a, e, 2, by rw [e5, sI_ne (by omega)]; exact ta, by rw [e5, sI_ne (by omega)]; exact te, by rw [e5, sI_at]; exact lit_2, ha, by omega, he, fun _ => hae, fun q => absurd q (by omega)⟩
      · intro w_6 e6
        refine hp _ (ig_I hI e6 (by decide) (by decide)) ⟨a, e, 3, by rw [e6, sI_ne (by omega)]; exact ta, by rw [e6, sI_ne (by omega)]; exact te, by rw [e6, sI_at]; exact lit_3, ha, by omega, he, fun _ => hae, fun _ => ⟨hL, hN, fun q => ?_⟩⟩
        rw [e6] at q
        have q : w.2.2.1 300 10 = 7237492 := q
        rw [q] at h2
        have := nb_not (by omega) h2
        omega
    refine ⟨fun c => ?_, fun c => ?_⟩
    · replace c := c_le te tk c
      exact fin (by omega)
    · replace c := c_nle te tk c
      obtain ⟨z8, t8, f8⟩ := t_add ta lit_8
      replace f8 := f8 (by omega)
      refine ⟨fun c2 => ?_, fun c2 => ?_⟩
      · replace c2 := c_le t8 tk c2
        exact fin (by omega)
      · replace c2 := c_nle t8 tk c2
        refine gX11_sign tk hI (by omega) (fun r zr tr q1 q2 q3 => ?_)
        intro w_5 e5
        have i5 := ig_J hI e5
        obtain ⟨z9, t9, f9⟩ := t_add tk lit_1
        replace f9 := f9 (by omega)
        intro x2_6 e6
        refine ih x2_6 z9 w_5 (by rw [e6]; exact t9) i5 (by rw [e1_J e5]; exact ta) (by rw [e1_J e5]; exact te) (by omega) ?_ (by omega)
        have en : w_5.2.2.1 300 10 = ((w.2.2.1 300 10) <<< ((8 : Int32).toInt64 &&& 63)) ||| (r).toInt64 := by
          rw [e5]; rfl
        rw [en, show z9 - a = k - a + 1 by omega]
        exact nb_step h2 (by omega) tr q2 q3
set_option maxHeartbeats 4000000 in
theorem g_goOn_119 {post : Wd → Prop} {a : Int} (ha : E ≤ a) (h0 : 0 ≤ a) (hL : Ls s a) (hp : ∀ w9 : Wd, IG T W H P S M sz s J w9 → GP sz s E w9 → post w9) : ∀ (n : Nat) (e : Int) (w : Wd), IG T W H P S M sz s J w → Ti (w.1 300 6) a → Ti (w.1 300 7) e → (a < e ∧ e ≤ sz) → sz + 1 - e < (n : Int) → pX11_goOn_119 post n w := by
  intro n
  induction n with
  | zero => intro e w hI ta te h1 hm; exact absurd hm (by omega)
  | succ n ih =>
    intro e w hI ta te h1 hm
    unfold pX11_goOn_119
    have hs := hI.2.2.1
    refine gX11_sign te hI (by omega) (fun r zr tr q1 q2 q3 => ?_)
    refine sX11_isLetter (hI := hI.1) (tx0 := tr) (hp := fun r3 z3 t3 p3 => ?_)
    refine ⟨fun c => ?_, fun c => ?_⟩
    · replace c := c_eq t3 lit_0 c
      intro w_6 e6 x2_7 e7
      have i6 := ig_J hI e6
      have ta6 : Ti (w_6.1 300 6) a := by rw [e1_J e6]; exact ta
      exact ⟨70000, g_goOn_156 (a := a) (e := e) ha h0 h1.1 h1.2 hL (fun q => by unfold Ls at q; omega) hp 70000 x2_7 a w_6 (by rw [e7]; exact ta6) i6 ta6 (by rw [e1_J e6]; exact te) (by omega) ⟨fun _ => by rw [e6]; rfl, fun q => absurd q (by omega), fun q => absurd q (by omega)⟩ (by omega)⟩
    · replace c := c_neq t3 lit_0 c
      intro w_8 e8
      have i8 := ig_I hI e8 (by decide) (by decide)
      obtain ⟨z9, t9, f9⟩ := t_add te lit_1
      replace f9 := f9 (by omega)
      have hlt : e < sz := by
        apply Decidable.byContradiction
        intro hc
        have := ig_hi hI (i := e) (by omega) (by omega)
        omega
      exact ih z9 w_8 i8 (by rw [e8, sI_ne (by omega)]; exact ta) (by rw [e8, sI_at]; exact t9) (by omega) (by omega)
set_option maxHeartbeats 4000000 in
theorem g_goOn_259 {post : Wd → Prop} {a : Int} (ha : E ≤ a) (h0 : 0 ≤ a) (hD : 48 ≤ s a ∧ s a ≤ 57) (hp : ∀ w9 : Wd, IG T W H P S M sz s J w9 → GP sz s E w9 → post w9) : ∀ (n : Nat) (e : Int) (w : Wd), IG T W H P S M sz s J w → Ti (w.1 300 6) a → Ti (w.1 300 7) e → (a ≤ e ∧ e ≤ sz) → sz + 1 - e < (n : Int) → pX11_goOn_259 post n w := by
  intro n
  induction n with
  | zero => intro e w hI ta te h1 hm; exact absurd hm (by omega)
  | succ n ih =>
    intro e w hI ta te h1 hm
    unfold pX11_goOn_259
    have hs := hI.2.2.1
    obtain ⟨zd, td, fd⟩ := t_sub te ta
    replace fd := fd (by omega)
    refine gX11_sign te hI (by omega) (fun r zr tr q1 q2 q3 => ?_)
    refine sX11_isDigit (hI := hI.1) (tx0 := tr) (hp := fun r3 z3 t3 p3 => ?_)
    refine ⟨fun c => ?_, fun c => ?_⟩
    · replace c := c_eq t3 lit_0 c
      have hne : a < e := by
        apply Decidable.byContradiction
        intro hc
        have : e = a := by omega
        subst this
        omega
      have fin : ∀ (v : Int32) (zv : Int), Ti v zv → zv ≠ 3 → ∀ w_7, w_7 = sI w 300 8 v → post w_7 := fun v zv tv hv w_7 e7 => hp _ (ig_I hI e7 (by decide) (by decide)) ⟨a, e, zv, by rw [e7, sI_ne (by omega)]; exact ta, by rw [e7, sI_ne (by omega)]; exact te, by rw [e7, sI_at]; exact tv, ha, by omega, h1.2, fun _ => hne, fun q => absurd q hv⟩
      refine ⟨fun c2 => fin _ _ lit_1 (by omega), fun c2 => ?_⟩
      refine gX11_sign te hI (by omega) (fun r8 z8 t8 y1 y2 y3 => ?_)
      refine sX11_isLetter (hI := hI.1) (tx0 := t8) (hp := fun r10 z10 t10 p10 => ?_)
      exact ⟨fun c3 => fin _ _ lit_4 (by omega), fun c3 => fin _ _ lit_1 (by omega)⟩
    · replace c := c_neq t3 lit_0 c
      have hlt : e < sz := by
        apply Decidable.byContradiction
        intro hc
        have := ig_hi hI (i := e) (by omega) (by omega)
        omega
      obtain ⟨z9, t9, f9⟩ := t_add te lit_1
      replace f9 := f9 (by omega)
      have go : ∀ w1 : Wd, IG T W H P S M sz s J w1 → Ti (w1.1 300 6) a → Ti (w1.1 300 7) e → pX11_goOn_309 (pX11_goOn_259 post n) post w1 := by
        intro w1 i1 ta1 te1
        unfold pX11_goOn_309
        intro w_1 e1
        obtain ⟨z8, t8, f8⟩ := t_add te1 lit_1
        replace f8 := f8 (by omega)
        exact ih z8 w_1 (ig_I i1 e1 (by decide) (by decide)) (by rw [e1, sI_ne (by omega)]; exact ta1) (by rw [e1, sI_at]; exact t8) (by omega) (by omega)
      refine ⟨fun c2 => go w hI ta te, fun c2 => ?_⟩
      refine gX11_sign te hI (by omega) (fun r16 z16 t16 y1 y2 y3 => ?_)
      intro w_18 e18
      exact go w_18 (ig_I hI e18 (by decide) (by decide)) (by rw [e18, sI_ne (by omega)]; exact ta) (by rw [e18, sI_ne (by omega)]; exact te)
set_option maxHeartbeats 4000000 in
theorem g_goOn_58 {post : Wd → Prop} {a : Int} (ha : E ≤ a) (h0 : 0 ≤ a) (hasz : a ≤ sz) (hp : ∀ w9 : Wd, IG T W H P S M sz s J w9 → GP sz s E w9 → post w9) (hI : IG T W H P S M sz s J w) (ta : Ti (w.1 300 6) a) : pX11_goOn_58 post w := by
  unfold pX11_goOn_58
  have hs := hI.2.2.1
  refine gX11_sign ta hI h0 (fun r zr tr q1 q2 q3 => ?_)
  intro w_3 e3
  have i3 := ig_I hI e3 (by decide) (by decide)
  obtain ⟨z9, t9, f9⟩ := t_add ta lit_1
  replace f9 := f9 (by omega)
  have ta3 : Ti (w_3.1 300 6) a := by rw [e3, sI_ne (by omega)]; exact ta
  have te3 : Ti (w_3.1 300 7) z9 := by rw [e3, sI_at]; exact t9
  have ts3 : Ti (w_3.1 300 3) sz := i3.2.1
  refine ⟨fun c => ?_, fun c => ?_⟩
  · replace c := c_lt ta3 ts3 c
    refine sX11_isLetter (hI := i3.1) (tx0 := tr) (hp := fun r5 z5 t5 p5 => ?_)
    refine ⟨fun c2 => ?_, fun c2 => ?_⟩
    · replace c2 := c_eq t5 lit_0 c2
      refine sX11_isDigit (hI := i3.1) (tx0 := tr) (hp := fun r8 z8 t8 p8 => ?_)
      refine ⟨fun c3 => ?_, fun c3 => ?_⟩
      · refine sX11_isSign (hI := i3.1) (tx0 := tr) (hp := fun r11 z11 t11 => ?_)
        have fin : ∀ (v : Int32) (zv : Int), Ti v zv → zv ≠ 3 → ∀ w_7, w_7 = sI w_3 300 8 v → post w_7 := fun v zv tv hv w_7 e7 => hp _ (ig_I i3 e7 (by decide) (by decide)) ⟨a, z9, zv, by rw [e7, sI_ne (by omega)]; exact ta3, by rw [e7, sI_ne (by omega)]; exact te3, by rw [e7, sI_at]; exact tv, ha, by omega, by omega, fun _ => by omega, fun q => absurd q hv⟩
        exact ⟨fun c4 => fin _ _ lit_1 (by omega), fun c4 => fin _ _ lit_5 (by omega)⟩
      · replace c3 := c_neq t8 lit_0 c3
        intro w_16 e16 w_17 e17
        have i16 := ig_I i3 e16 (by decide) (by decide)
        have i17 := ig_I i16 e17 (by decide) (by decide)
        have ta16 : Ti (w_16.1 300 6) a := by rw [e16, sI_ne (by omega)]; exact ta3
        exact ⟨70000, g_goOn_259 ha h0 (by omega) hp 70000 a w_17 i17 (by rw [e17, sI_ne (by omega)]; exact ta16) (by rw [e17, sI_at]; exact ta16) (by omega) (by omega)⟩
    · replace c2 := c_neq t5 lit_0 c2
      exact ⟨70000, g_goOn_119 ha h0 (by unfold Ls; omega) hp 70000 z9 w_3 i3 ta3 te3 (by omega) (by omega)⟩
  · replace c := c_nlt ta3 ts3 c
    intro w_18 e18 w_19 e19 w_20 e20
    have i18 := ig_I i3 e18 (by decide) (by decide)
    have i19 := ig_I i18 e19 (by decide) (by decide)
    have i20 := ig_I i19 e20 (by decide) (by decide)
    have s18 : Ti (w_18.1 300 3) sz := i18.2.1
    have s19 : Ti (w_19.1 300 3) sz := i19.2.1
    exact hp _ i20 ⟨sz, sz, 0, by rw [e20, sI_ne (by omega), e19, sI_at]; exact s18, by rw [e20, sI_at]; exact s19, by rw [e20, sI_ne (by omega), e19, sI_ne (by omega), e18, sI_at]; exact lit_0, by omega, by omega, by omega, fun q => absurd rfl q, fun q => absurd q (by omega)⟩
theorem g_goOn_8 {post : Wd → Prop} (hE : 0 ≤ E) (hp : ∀ w9 : Wd, IG T W H P S M sz s J w9 → GP sz s E w9 → post w9) : ∀ (n : Nat) (a : Int) (w : Wd), IG T W H P S M sz s J w → Ti (w.1 300 6) a → (E ≤ a ∧ a ≤ sz) → sz + 1 - a < (n : Int) → pX11_goOn_8 post n w := by
  intro n
  induction n with
  | zero => intro a w hI ta h1 hm; exact absurd hm (by omega)
  | succ n ih =>
    intro a w hI ta h1 hm
    unfold pX11_goOn_8
    have hs := hI.2.2.1
    have ts : Ti (w.1 300 3) sz := hI.2.1
    have go : pX11_goOn_58 post w := g_goOn_58 h1.1 (by omega) h1.2 hp hI ta
    refine ⟨fun c => go, fun c => ?_⟩
    replace c := c_nle ts ta c
    have nx : pX11_goOn_45 (pX11_goOn_8 post n) post w := by
      unfold pX11_goOn_45
      intro w_1 e1
      obtain ⟨z9, t9, f9⟩ := t_add ta lit_1
      replace f9 := f9 (by omega)
      exact ih z9 w_1 (ig_I hI e1 (by decide) (by decide)) (by rw [e1, sI_at]; exact t9) (by omega) (by omega)
    refine gX11_sign ta hI (by omega) (fun r zr tr q1 q2 q3 => ?_)
    refine ⟨fun c2 => nx, fun c2 => ?_⟩
    refine gX11_sign ta hI (by omega) (fun r5 z5 t5 y1 y2 y3 => ?_)
    exact ⟨fun c3 => go, fun c3 => nx⟩
theorem gX11_goOn {post : Wd → Prop} (hI : IG T W H P S M sz s J w) (te : Ti (w.1 300 7) E) (hE : 0 ≤ E ∧ E ≤ sz) (hp : ∀ w9 : Wd, IG T W H P S M sz s J w9 → GP sz s E w9 → post w9) : pX11_goOn post w := by
  unfold pX11_goOn
  intro w_1 e1
  exact ⟨70000, g_goOn_8 hE.1 hp 70000 E w_1 (ig_I hI e1 (by decide) (by decide)) (by rw [e1, sI_at]; exact te) (by omega) (by have := hI.2.2.1; omega)⟩
end GO
