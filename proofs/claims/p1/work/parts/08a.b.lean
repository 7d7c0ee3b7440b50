/-! ===== computed versions: over the ints alone ===== -/
abbrev Vd : Type := (Nat → Nat → Int32) × (Nat → Nat → Int32) × (Nat → Bool)
abbrev prj (w : Wd) : Vd := (w.1, w.2.1, w.2.2.2.2)
def vI (w : Vd) (o f : Nat) (v : Int32) : Vd := (fun a b => if a = o ∧ b = f then v else w.1 a b, w.2)
def vA (w : Vd) (o i : Nat) (v : Int32) : Vd := (w.1, fun a b => if a = o ∧ b = i then v else w.2.1 a b, w.2.2)
def vR (w : Vd) (k : Nat) (v : Bool) : Vd := (w.1, w.2.1, fun a => if a = k then v else w.2.2 a)
def vC (w : Vd) (o : Nat) (h : Nat → Int32) : Vd := (w.1, fun a b => if a = o then h b else w.2.1 a b, w.2.2)
/-- forces a number -/
def fz (e : Int32) (k : Int32 → Bool) : Bool := match e.toBitVec.toNat with
  | 0 => k 0
  | n + 1 => k (Int32.ofNat (n + 1))
def fw (v : Vd) (k : Vd → Bool) : Bool := k v
def vb (i : Int32) (n : Nat) : Bool := !(decide (i < 0)) && !(Nat.ble n i.toNatClampNeg)
theorem fz_eq (e : Int32) (k : Int32 → Bool) : fz e k = k e := by
  have key : Int32.ofNat e.toBitVec.toNat = e := by
    apply Int32.toBitVec_inj.mp
    simp
  unfold fz
  split
  · next h => rw [← key, h]; rfl
  · next n h => rw [← key, h]
theorem vb_in {i : Int32} {n : Nat} (h : vb i n = true) : vp_in i n := by
  unfold vb at h
  simp only [Bool.and_eq_true, Bool.not_eq_true', decide_eq_false_iff_not] at h
  intro z
  rcases z with z | z
  · exact h.1 z
  · have := h.2
    rw [Nat.ble_eq_true_of_le z] at this
    cases this
theorem fa_i {e : Int32} {k : Int32 → Bool} {P : Int32 → Prop} (h : fz e k = true) (kk : ∀ x, x = e → k x = true → P x) : ∀ x, x = e → P x := by
  intro x hx
  subst hx
  exact kk _ rfl (by rw [fz_eq] at h; exact h)
theorem fa_w {e : Wd} {v : Vd} {k : Vd → Bool} {P : Wd → Prop} (hv : v = prj e) (h : fw v k = true) (kk : ∀ x, x = e → k (prj x) = true → P x) : ∀ x, x = e → P x := by
  intro x hx
  subst hx
  subst hv
  exact kk _ rfl h
theorem br_i {C P Q : Prop} [Decidable C] {a b : Bool} (h : (if C then a else b) = true) (h1 : C → a = true → P) (h2 : ¬ C → b = true → Q) : (C → P) ∧ (¬ C → Q) :=
  ⟨fun c => h1 c (by rw [if_pos c] at h; exact h), fun c => h2 c (by rw [if_neg c] at h; exact h)⟩
theorem br_n {C P Q : Prop} [Decidable C] {a b : Bool} (h : (if C then a else b) = true) (h1 : ¬ C → b = true → P) (h2 : C → a = true → Q) : (¬ C → P) ∧ (C → Q) :=
  ⟨fun c => h1 c (by rw [if_neg c] at h; exact h), fun c => h2 c (by rw [if_pos c] at h; exact h)⟩
theorem sw_o {C P Q : Prop} [Decidable C] {a b : Bool} (h : (if C then a else b) = true) (h1 : C → a = true → P) (h2 : (¬ C → b = true) → Q) : (C → P) ∧ Q :=
  ⟨fun c => h1 c (by rw [if_pos c] at h; exact h), h2 (fun c => by rw [if_neg c] at h; exact h)⟩
theorem gd_v {i : Int32} {n : Nat} {a : Bool} {P : Prop} (h : (vb i n && a) = true) (k : a = true → P) : vp_in i n ∧ P := by
  rw [Bool.and_eq_true] at h
  exact ⟨vb_in h.1, k h.2⟩
theorem gd_e {E P : Prop} [Decidable E] {a : Bool} (h : (if E then a else false) = true) (k : a = true → P) : E ∧ P := by
  by_cases c : E
  · rw [if_pos c] at h; exact ⟨c, k h⟩
  · rw [if_neg c] at h; cases h
theorem gd_n {E P : Prop} [Decidable E] {a : Bool} (h : (if E then false else a) = true) (k : a = true → P) : ¬ E ∧ P := by
  by_cases c : E
  · rw [if_pos c] at h; cases h
  · rw [if_neg c] at h; exact ⟨c, k h⟩
def vFM : Vd := prj wFM
def vFX : Vd := prj (wFX (fun _ => 0))
def zX11_end (post : Int32 → Vd → Bool) (x1 : Int32) (w : Vd) : Bool := (if x1 < 0 then post (-1 : Int32) w else (if x1 ≤ (w.1 300 2) then fw (vI w 300 2 x1) (fun w_3 => post x1 w_3) else post (-1 : Int32) w))
theorem tX11_end  {post : Int32 → Wd → Prop} {pb : Int32 → Vd → Bool} (hp : ∀ (r : Int32) (w : Wd), pb r (prj w) = true → post r w) {x1 : Int32} {w : Wd} (h : zX11_end  pb  x1 (prj w) = true) : pX11_end  post  x1 w := by
  unfold pX11_end
  unfold zX11_end at h
  refine br_i h (fun c h => ?_) (fun c h => ?_)
  · exact hp _ _ h
  · refine br_i h (fun c h => ?_) (fun c h => ?_)
    · refine fa_w rfl h (fun w_3 ew_3 h => ?_)
      exact hp _ _ h
    · exact hp _ _ h
def zX11_fault (post : Int32 → Vd → Bool) (x1 : Int32) (w : Vd) : Bool := (if x1 = 0 then post (w.1 300 4) w else (if x1 = (1 : Int32) then post (w.1 300 5) w else post (-1 : Int32) w))
theorem tX11_fault  {post : Int32 → Wd → Prop} {pb : Int32 → Vd → Bool} (hp : ∀ (r : Int32) (w : Wd), pb r (prj w) = true → post r w) {x1 : Int32} {w : Wd} (h : zX11_fault  pb  x1 (prj w) = true) : pX11_fault  post  x1 w := by
  unfold pX11_fault
  unfold zX11_fault at h
  refine br_n h (fun c h => ?_) (fun c h => ?_)
  · refine br_n h (fun c h => ?_) (fun c h => ?_)
    · exact hp _ _ h
    · exact hp _ _ h
  · exact hp _ _ h
def zX11_deep_4 (post : Int32 → Vd → Bool) : Nat → Int32 → Int32 → Vd → Bool
  | 0, _, _, _ => false
  | n + 1, x2, x3, w => (if x3 ≤ 0 then post x2 w else fz (x2 + (1 : Int32)) (fun x2_2 => (vb (((4 : Int32) * x3) + (1 : Int32)) 221 && fz ((w.2.1 341 (((4 : Int32) * x3) + (1 : Int32)).toNatClampNeg)) (fun x3_3 => zX11_deep_4 post n x2_2 x3_3 w))))
theorem tX11_deep_4  {post : Int32 → Wd → Prop} {pb : Int32 → Vd → Bool} (hp : ∀ (r : Int32) (w : Wd), pb r (prj w) = true → post r w) : ∀ (n : Nat) (x2 : Int32) (x3 : Int32) (w : Wd), zX11_deep_4  pb  n x2 x3 (prj w) = true → pX11_deep_4  post  n x2 x3 w := by
  intro n
  induction n with
  | zero => intro x2 x3 w h; exact absurd (show false = true from h) (by decide)
  | succ n ih =>
    intro x2 x3 w h
    unfold pX11_deep_4
    unfold zX11_deep_4 at h
    refine br_i h (fun c h => ?_) (fun c h => ?_)
    · exact hp _ _ h
    · refine fa_i h (fun x2_2 ex2_2 h => ?_)
      refine gd_v h (fun h => ?_)
      refine fa_i h (fun x3_3 ex3_3 h => ?_)
      exact ih _ _ _ h
def zX11_deep (post : Int32 → Vd → Bool) (x1 : Int32) (w : Vd) : Bool := zX11_deep_4 post 70000 (0 : Int32) x1 w
theorem tX11_deep  {post : Int32 → Wd → Prop} {pb : Int32 → Vd → Bool} (hp : ∀ (r : Int32) (w : Wd), pb r (prj w) = true → post r w) {x1 : Int32} {w : Wd} (h : zX11_deep  pb  x1 (prj w) = true) : pX11_deep  post  x1 w := by
  unfold pX11_deep
  unfold zX11_deep at h
  refine ⟨70000, ?_⟩
  exact tX11_deep_4 hp _ _ _ _ h
def zX11_isIn (post : Int32 → Vd → Bool) (x0 : Int32) (x1 : Int32) (x2 : Int32) (w : Vd) : Bool := (if x0 < x1 then post (0 : Int32) w else (if x2 < x0 then post (0 : Int32) w else post (1 : Int32) w))
theorem tX11_isIn  {post : Int32 → Wd → Prop} {pb : Int32 → Vd → Bool} (hp : ∀ (r : Int32) (w : Wd), pb r (prj w) = true → post r w) {x0 : Int32} {x1 : Int32} {x2 : Int32} {w : Wd} (h : zX11_isIn  pb  x0 x1 x2 (prj w) = true) : pX11_isIn  post  x0 x1 x2 w := by
  unfold pX11_isIn
  unfold zX11_isIn at h
  refine br_i h (fun c h => ?_) (fun c h => ?_)
  · exact hp _ _ h
  · refine br_i h (fun c h => ?_) (fun c h => ?_)
    · exact hp _ _ h
    · exact hp _ _ h
def zX11_isSeal (post : Int32 → Vd → Bool) (x1 : Int32) (w : Vd) : Bool := zX11_isIn (fun r_1 w_2 => (if r_1 = vp_nar .boolean r_1 then post r_1 w_2 else false)) x1 (0 : Int32) ((w.2.1 341 (216 : Int32).toNatClampNeg) - (1 : Int32)) w
theorem tX11_isSeal  {post : Int32 → Wd → Prop} {pb : Int32 → Vd → Bool} (hp : ∀ (r : Int32) (w : Wd), pb r (prj w) = true → post r w) {x1 : Int32} {w : Wd} (h : zX11_isSeal  pb  x1 (prj w) = true) : pX11_isSeal  post  x1 w := by
  unfold pX11_isSeal
  unfold zX11_isSeal at h
  refine tX11_isIn (fun r_1 w_2 h => ?_)  h
  refine gd_e h (fun h => ?_)
  exact hp _ _ h
def zX11_seal (post : Int32 → Vd → Bool) (x1 : Int32) (x2 : Int32) (w : Vd) : Bool := zX11_isSeal (fun r_1 w_2 => (if r_1 = 0 then post (-1 : Int32) w_2 else zX11_isIn (fun r_4 w_5 => (if r_4 = 0 then post (-1 : Int32) w_5 else (if x2 = (4 : Int32) then zX11_deep (fun r_8 w_9 => post r_8 w_9) x1 w_5 else (vb (((4 : Int32) * x1) + x2) 221 && post (w_5.2.1 341 (((4 : Int32) * x1) + x2).toNatClampNeg) w_5)))) x2 (0 : Int32) (4 : Int32) w_2)) x1 w
theorem tX11_seal  {post : Int32 → Wd → Prop} {pb : Int32 → Vd → Bool} (hp : ∀ (r : Int32) (w : Wd), pb r (prj w) = true → post r w) {x1 : Int32} {x2 : Int32} {w : Wd} (h : zX11_seal  pb  x1 x2 (prj w) = true) : pX11_seal  post  x1 x2 w := by
  unfold pX11_seal
  unfold zX11_seal at h
  refine tX11_isSeal (fun r_1 w_2 h => ?_)  h
  refine br_i h (fun c h => ?_) (fun c h => ?_)
  · exact hp _ _ h
  · refine tX11_isIn (fun r_4 w_5 h => ?_)  h
    refine br_n h (fun c h => ?_) (fun c h => ?_)
    · refine br_n h (fun c h => ?_) (fun c h => ?_)
      · refine gd_v h (fun h => ?_)
        exact hp _ _ h
      · refine tX11_deep (fun r_8 w_9 h => ?_)  h
        exact hp _ _ h
    · exact hp _ _ h
def zX11_shown (post : Int32 → Vd → Bool) (x1 : Int32) (x2 : Int32) (w : Vd) : Bool := zX11_isIn (fun r_1 w_2 => (if r_1 = 0 then post (-1 : Int32) w_2 else zX11_isIn (fun r_4 w_5 => (if r_4 = 0 then post (-1 : Int32) w_5 else (vb (((96 : Int32) + ((3 : Int32) * x1)) + x2) 221 && post (w_5.2.1 341 (((96 : Int32) + ((3 : Int32) * x1)) + x2).toNatClampNeg) w_5))) x2 (0 : Int32) (2 : Int32) w_2)) x1 (0 : Int32) ((w.2.1 341 (217 : Int32).toNatClampNeg) - (1 : Int32)) w
theorem tX11_shown  {post : Int32 → Wd → Prop} {pb : Int32 → Vd → Bool} (hp : ∀ (r : Int32) (w : Wd), pb r (prj w) = true → post r w) {x1 : Int32} {x2 : Int32} {w : Wd} (h : zX11_shown  pb  x1 x2 (prj w) = true) : pX11_shown  post  x1 x2 w := by
  unfold pX11_shown
  unfold zX11_shown at h
  refine tX11_isIn (fun r_1 w_2 h => ?_)  h
  refine br_i h (fun c h => ?_) (fun c h => ?_)
  · exact hp _ _ h
  · refine tX11_isIn (fun r_4 w_5 h => ?_)  h
    refine br_i h (fun c h => ?_) (fun c h => ?_)
    · exact hp _ _ h
    · refine gd_v h (fun h => ?_)
      exact hp _ _ h
def zX11_width (post : Int32 → Vd → Bool)  (w : Vd) : Bool := (vb (w.1 300 29) 2 && post (w.2.1 312 (w.1 300 29).toNatClampNeg) w)
theorem tX11_width  {post : Int32 → Wd → Prop} {pb : Int32 → Vd → Bool} (hp : ∀ (r : Int32) (w : Wd), pb r (prj w) = true → post r w) {w : Wd} (h : zX11_width  pb   (prj w) = true) : pX11_width  post   w := by
  unfold pX11_width
  unfold zX11_width at h
  refine gd_v h (fun h => ?_)
  exact hp _ _ h
def zX11_isRow (post : Int32 → Vd → Bool) (x1 : Int32) (w : Vd) : Bool := (if x1 < 0 then post (0 : Int32) w else zX11_width (fun r_2 w_3 => (if ((1 : Int32) <<< (r_2 &&& 31)) ≤ x1 then post (0 : Int32) w_3 else post (1 : Int32) w_3)) w)
theorem tX11_isRow  {post : Int32 → Wd → Prop} {pb : Int32 → Vd → Bool} (hp : ∀ (r : Int32) (w : Wd), pb r (prj w) = true → post r w) {x1 : Int32} {w : Wd} (h : zX11_isRow  pb  x1 (prj w) = true) : pX11_isRow  post  x1 w := by
  unfold pX11_isRow
  unfold zX11_isRow at h
  refine br_i h (fun c h => ?_) (fun c h => ?_)
  · exact hp _ _ h
  · refine tX11_width (fun r_2 w_3 h => ?_)  h
    refine br_i h (fun c h => ?_) (fun c h => ?_)
    · exact hp _ _ h
    · exact hp _ _ h
def zX11_prints_90 (k30 : Int32 → Int32 → Int32 → Int32 → Int32 → Int32 → Vd → Bool) (post : Int32 → Vd → Bool) (x1 : Int32) (x2 : Int32) (x3 : Int32) (x4 : Int32) (x5 : Int32) (x6 : Int32) (w : Vd) : Bool := fz (x6 + (1 : Int32)) (fun x6_1 => k30 x1 x2 x3 x4 x5 x6_1 w)
theorem tX11_prints_90 {k30 : Int32 → Int32 → Int32 → Int32 → Int32 → Int32 → Wd → Prop} {k30b : Int32 → Int32 → Int32 → Int32 → Int32 → Int32 → Vd → Bool} {post : Int32 → Wd → Prop} {pb : Int32 → Vd → Bool} (hk30 : ∀ (y0 : Int32) (y1 : Int32) (y2 : Int32) (y3 : Int32) (y4 : Int32) (y5 : Int32) (w : Wd), k30b y0 y1 y2 y3 y4 y5 (prj w) = true → k30 y0 y1 y2 y3 y4 y5 w) (hp : ∀ (r : Int32) (w : Wd), pb r (prj w) = true → post r w) {x1 : Int32} {x2 : Int32} {x3 : Int32} {x4 : Int32} {x5 : Int32} {x6 : Int32} {w : Wd} (h : zX11_prints_90 k30b pb  x1 x2 x3 x4 x5 x6 (prj w) = true) : pX11_prints_90 k30 post  x1 x2 x3 x4 x5 x6 w := by
  unfold pX11_prints_90
  unfold zX11_prints_90 at h
  refine fa_i h (fun x6_1 ex6_1 h => ?_)
  exact hk30 _ _ _ _ _ _ _ h
def zX11_prints_30 (post : Int32 → Vd → Bool) : Nat → Int32 → Int32 → Int32 → Int32 → Int32 → Int32 → Vd → Bool
  | 0, _, _, _, _, _, _, _ => false
  | n + 1, x1, x2, x3, x4, x5, x6, w => (if (w.2.1 341 (217 : Int32).toNatClampNeg) ≤ x6 then (if x2 = 0 then post x3 w else (if x2 = (1 : Int32) then post x4 w else post x5 w)) else (vb ((96 : Int32) + ((3 : Int32) * x6)) 221 && (if (w.2.1 341 ((96 : Int32) + ((3 : Int32) * x6)).toNatClampNeg) = x1 then fz (x3 + (1 : Int32)) (fun x3_5 => (vb (((96 : Int32) + ((3 : Int32) * x6)) + (2 : Int32)) 221 && fz ((w.2.1 341 (((96 : Int32) + ((3 : Int32) * x6)) + (2 : Int32)).toNatClampNeg)) (fun x5_6 => (if 0 ≤ x4 then zX11_prints_90 (zX11_prints_30 post n) post x1 x2 x3_5 x4 x5_6 x6 w else zX11_prints_90 (zX11_prints_30 post n) post x1 x2 x3_5 x5_6 x5_6 x6 w)))) else zX11_prints_90 (zX11_prints_30 post n) post x1 x2 x3 x4 x5 x6 w)))
theorem tX11_prints_30  {post : Int32 → Wd → Prop} {pb : Int32 → Vd → Bool} (hp : ∀ (r : Int32) (w : Wd), pb r (prj w) = true → post r w) : ∀ (n : Nat) (x1 : Int32) (x2 : Int32) (x3 : Int32) (x4 : Int32) (x5 : Int32) (x6 : Int32) (w : Wd), zX11_prints_30  pb  n x1 x2 x3 x4 x5 x6 (prj w) = true → pX11_prints_30  post  n x1 x2 x3 x4 x5 x6 w := by
  intro n
  induction n with
  | zero => intro x1 x2 x3 x4 x5 x6 w h; exact absurd (show false = true from h) (by decide)
  | succ n ih =>
    intro x1 x2 x3 x4 x5 x6 w h
    unfold pX11_prints_30
    unfold zX11_prints_30 at h
    refine br_i h (fun c h => ?_) (fun c h => ?_)
    · refine br_n h (fun c h => ?_) (fun c h => ?_)
      · refine br_n h (fun c h => ?_) (fun c h => ?_)
        · exact hp _ _ h
        · exact hp _ _ h
      · exact hp _ _ h
    · refine gd_v h (fun h => ?_)
      refine br_i h (fun c h => ?_) (fun c h => ?_)
      · refine fa_i h (fun x3_5 ex3_5 h => ?_)
        refine gd_v h (fun h => ?_)
        refine fa_i h (fun x5_6 ex5_6 h => ?_)
        refine br_i h (fun c h => ?_) (fun c h => ?_)
        · exact tX11_prints_90 ih hp  h
        · exact tX11_prints_90 ih hp  h
      · exact tX11_prints_90 ih hp  h
def zX11_prints (post : Int32 → Vd → Bool) (x1 : Int32) (x2 : Int32) (w : Vd) : Bool := zX11_isRow (fun r_1 w_2 => (if r_1 = 0 then post (-1 : Int32) w_2 else zX11_isIn (fun r_4 w_5 => (if r_4 = 0 then post (-1 : Int32) w_5 else zX11_prints_30 post 70000 x1 x2 (0 : Int32) (-1 : Int32) (-1 : Int32) (0 : Int32) w_5)) x2 (0 : Int32) (2 : Int32) w_2)) x1 w
theorem tX11_prints  {post : Int32 → Wd → Prop} {pb : Int32 → Vd → Bool} (hp : ∀ (r : Int32) (w : Wd), pb r (prj w) = true → post r w) {x1 : Int32} {x2 : Int32} {w : Wd} (h : zX11_prints  pb  x1 x2 (prj w) = true) : pX11_prints  post  x1 x2 w := by
  unfold pX11_prints
  unfold zX11_prints at h
  refine tX11_isRow (fun r_1 w_2 h => ?_)  h
  refine br_i h (fun c h => ?_) (fun c h => ?_)
  · exact hp _ _ h
  · refine tX11_isIn (fun r_4 w_5 h => ?_)  h
    refine br_n h (fun c h => ?_) (fun c h => ?_)
    · refine ⟨70000, ?_⟩
      exact tX11_prints_30 hp _ _ _ _ _ _ _ _ h
    · exact hp _ _ h
def zX11_turnedRow_34 (k4 : Int32 → Int32 → Int32 → Vd → Bool) (post : Int32 → Vd → Bool) (x1 : Int32) (x2 : Int32) (x3 : Int32) (w : Vd) : Bool := fz (x3 + (1 : Int32)) (fun x3_1 => k4 x1 x2 x3_1 w)
theorem tX11_turnedRow_34 {k4 : Int32 → Int32 → Int32 → Wd → Prop} {k4b : Int32 → Int32 → Int32 → Vd → Bool} {post : Int32 → Wd → Prop} {pb : Int32 → Vd → Bool} (hk4 : ∀ (y0 : Int32) (y1 : Int32) (y2 : Int32) (w : Wd), k4b y0 y1 y2 (prj w) = true → k4 y0 y1 y2 w) (hp : ∀ (r : Int32) (w : Wd), pb r (prj w) = true → post r w) {x1 : Int32} {x2 : Int32} {x3 : Int32} {w : Wd} (h : zX11_turnedRow_34 k4b pb  x1 x2 x3 (prj w) = true) : pX11_turnedRow_34 k4 post  x1 x2 x3 w := by
  unfold pX11_turnedRow_34
  unfold zX11_turnedRow_34 at h
  refine fa_i h (fun x3_1 ex3_1 h => ?_)
  exact hk4 _ _ _ _ h
def zX11_turnedRow_4 (post : Int32 → Vd → Bool) : Nat → Int32 → Int32 → Int32 → Vd → Bool
  | 0, _, _, _, _ => false
  | n + 1, x1, x2, x3, w => zX11_width (fun r_1 w_2 => (if r_1 ≤ x3 then post x2 w_2 else (if ((x1 >>> (x3 &&& 31)) &&& (1 : Int32)) = (1 : Int32) then zX11_width (fun r_5 w_6 => fz ((x2 ||| ((1 : Int32) <<< (((r_5 - (1 : Int32)) - x3) &&& 31)))) (fun x2_7 => zX11_turnedRow_34 (zX11_turnedRow_4 post n) post x1 x2_7 x3 w_6)) w_2 else zX11_turnedRow_34 (zX11_turnedRow_4 post n) post x1 x2 x3 w_2))) w
theorem tX11_turnedRow_4  {post : Int32 → Wd → Prop} {pb : Int32 → Vd → Bool} (hp : ∀ (r : Int32) (w : Wd), pb r (prj w) = true → post r w) : ∀ (n : Nat) (x1 : Int32) (x2 : Int32) (x3 : Int32) (w : Wd), zX11_turnedRow_4  pb  n x1 x2 x3 (prj w) = true → pX11_turnedRow_4  post  n x1 x2 x3 w := by
  intro n
  induction n with
  | zero => intro x1 x2 x3 w h; exact absurd (show false = true from h) (by decide)
  | succ n ih =>
    intro x1 x2 x3 w h
    unfold pX11_turnedRow_4
    unfold zX11_turnedRow_4 at h
    refine tX11_width (fun r_1 w_2 h => ?_)  h
    refine br_i h (fun c h => ?_) (fun c h => ?_)
    · exact hp _ _ h
    · refine br_n h (fun c h => ?_) (fun c h => ?_)
      · exact tX11_turnedRow_34 ih hp  h
      · refine tX11_width (fun r_5 w_6 h => ?_)  h
        refine fa_i h (fun x2_7 ex2_7 h => ?_)
        exact tX11_turnedRow_34 ih hp  h
def zX11_turnedRow (post : Int32 → Vd → Bool) (x1 : Int32) (w : Vd) : Bool := zX11_turnedRow_4 post 70000 x1 (0 : Int32) (0 : Int32) w
theorem tX11_turnedRow  {post : Int32 → Wd → Prop} {pb : Int32 → Vd → Bool} (hp : ∀ (r : Int32) (w : Wd), pb r (prj w) = true → post r w) {x1 : Int32} {w : Wd} (h : zX11_turnedRow  pb  x1 (prj w) = true) : pX11_turnedRow  post  x1 w := by
  unfold pX11_turnedRow
  unfold zX11_turnedRow at h
  refine ⟨70000, ?_⟩
  exact tX11_turnedRow_4 hp _ _ _ _ _ h
def zX11_turned (post : Int32 → Vd → Bool) (x1 : Int32) (w : Vd) : Bool := zX11_isRow (fun r_1 w_2 => (if r_1 = 0 then post (-1 : Int32) w_2 else zX11_turnedRow (fun r_4 w_5 => post r_4 w_5) x1 w_2)) x1 w
theorem tX11_turned  {post : Int32 → Wd → Prop} {pb : Int32 → Vd → Bool} (hp : ∀ (r : Int32) (w : Wd), pb r (prj w) = true → post r w) {x1 : Int32} {w : Wd} (h : zX11_turned  pb  x1 (prj w) = true) : pX11_turned  post  x1 w := by
  unfold pX11_turned
  unfold zX11_turned at h
  refine tX11_isRow (fun r_1 w_2 h => ?_)  h
  refine br_i h (fun c h => ?_) (fun c h => ?_)
  · exact hp _ _ h
  · refine tX11_turnedRow (fun r_4 w_5 h => ?_)  h
    exact hp _ _ h
def zX11_isHand (post : Int32 → Vd → Bool) (x1 : Int32) (w : Vd) : Bool := (vb (w.1 300 29) 2 && zX11_isIn (fun r_1 w_2 => (if r_1 = vp_nar .boolean r_1 then post r_1 w_2 else false)) x1 (0 : Int32) ((w.2.1 314 (w.1 300 29).toNatClampNeg) - (1 : Int32)) w)
theorem tX11_isHand  {post : Int32 → Wd → Prop} {pb : Int32 → Vd → Bool} (hp : ∀ (r : Int32) (w : Wd), pb r (prj w) = true → post r w) {x1 : Int32} {w : Wd} (h : zX11_isHand  pb  x1 (prj w) = true) : pX11_isHand  post  x1 w := by
  unfold pX11_isHand
  unfold zX11_isHand at h
  refine gd_v h (fun h => ?_)
  refine tX11_isIn (fun r_1 w_2 h => ?_)  h
  refine gd_e h (fun h => ?_)
  exact hp _ _ h
def zX11_isHeat (post : Int32 → Vd → Bool) (x0 : Int32) (w : Vd) : Bool := zX11_isIn (fun r_1 w_2 => (if r_1 = vp_nar .boolean r_1 then post r_1 w_2 else false)) x0 (0 : Int32) (9 : Int32) w
theorem tX11_isHeat  {post : Int32 → Wd → Prop} {pb : Int32 → Vd → Bool} (hp : ∀ (r : Int32) (w : Wd), pb r (prj w) = true → post r w) {x0 : Int32} {w : Wd} (h : zX11_isHeat  pb  x0 (prj w) = true) : pX11_isHeat  post  x0 w := by
  unfold pX11_isHeat
  unfold zX11_isHeat at h
  refine tX11_isIn (fun r_1 w_2 h => ?_)  h
  refine gd_e h (fun h => ?_)
  exact hp _ _ h
def zX11_would (post : Int32 → Vd → Bool) (x1 : Int32) (x2 : Int32) (x3 : Int32) (x4 : Int32) (w : Vd) : Bool := zX11_isRow (fun r_1 w_2 => (if r_1 = 0 then post (-1 : Int32) w_2 else zX11_isHand (fun r_4 w_5 => (if r_4 = 0 then post (-1 : Int32) w_5 else zX11_isHeat (fun r_7 w_8 => (if r_7 = 0 then post (-1 : Int32) w_8 else zX11_isIn (fun r_10 w_11 => (if r_10 = 0 then post (-1 : Int32) w_11 else false)) x4 (0 : Int32) (99 : Int32) w_8)) x3 w_5)) x2 w_2)) x1 w
theorem tX11_would  {post : Int32 → Wd → Prop} {pb : Int32 → Vd → Bool} (hp : ∀ (r : Int32) (w : Wd), pb r (prj w) = true → post r w) {x1 : Int32} {x2 : Int32} {x3 : Int32} {x4 : Int32} {w : Wd} (h : zX11_would  pb  x1 x2 x3 x4 (prj w) = true) : pX11_would  post  x1 x2 x3 x4 w := by
  unfold pX11_would
  unfold zX11_would at h
  refine tX11_isRow (fun r_1 w_2 h => ?_)  h
  refine br_i h (fun c h => ?_) (fun c h => ?_)
  · exact hp _ _ h
  · refine tX11_isHand (fun r_4 w_5 h => ?_)  h
    refine br_i h (fun c h => ?_) (fun c h => ?_)
    · exact hp _ _ h
    · refine tX11_isHeat (fun r_7 w_8 h => ?_)  h
      refine br_i h (fun c h => ?_) (fun c h => ?_)
      · exact hp _ _ h
      · refine tX11_isIn (fun r_10 w_11 h => ?_)  h
        refine br_i h (fun c h => ?_) (fun c h => ?_)
        · exact hp _ _ h
        · exact absurd (show false = true from h) (by decide)
def zX11_keepAct_52 (post : Vd → Bool) : Nat → Int32 → Vd → Bool
  | 0, _, _ => false
  | n + 1, x1, w => (if (221 : Int32) ≤ x1 then fw (vI w 300 42 ((w.1 300 42) + (1 : Int32))) (fun w_2 => fw (vI w_2 300 43 (0 : Int32)) (fun w_3 => post w_3)) else (vb x1 221 && (vb (((221 : Int32) * (w.1 300 42)) + x1) 9061 && fw (vA w 342 (((221 : Int32) * (w.1 300 42)) + x1).toNatClampNeg (w.2.1 341 x1.toNatClampNeg)) (fun w_4 => fz (x1 + (1 : Int32)) (fun x1_5 => zX11_keepAct_52 post n x1_5 w_4)))))
theorem tX11_keepAct_52  {post : Wd → Prop} {pb : Vd → Bool} (hp : ∀ (w : Wd), pb (prj w) = true → post w) : ∀ (n : Nat) (x1 : Int32) (w : Wd), zX11_keepAct_52  pb  n x1 (prj w) = true → pX11_keepAct_52  post  n x1 w := by
  intro n
  induction n with
  | zero => intro x1 w h; exact absurd (show false = true from h) (by decide)
  | succ n ih =>
    intro x1 w h
    unfold pX11_keepAct_52
    unfold zX11_keepAct_52 at h
    refine br_i h (fun c h => ?_) (fun c h => ?_)
    · refine fa_w rfl h (fun w_2 ew_2 h => ?_)
      refine fa_w rfl h (fun w_3 ew_3 h => ?_)
      exact hp _ h
    · refine gd_v h (fun h => ?_)
      refine gd_v h (fun h => ?_)
      refine fa_w rfl h (fun w_4 ew_4 h => ?_)
      refine fa_i h (fun x1_5 ex1_5 h => ?_)
      exact ih _ _ h
def zX11_keepAct_50 (post : Vd → Bool)  (w : Vd) : Bool := zX11_keepAct_52 post 70000 (0 : Int32) w
theorem tX11_keepAct_50  {post : Wd → Prop} {pb : Vd → Bool} (hp : ∀ (w : Wd), pb (prj w) = true → post w) {w : Wd} (h : zX11_keepAct_50  pb   (prj w) = true) : pX11_keepAct_50  post   w := by
  unfold pX11_keepAct_50
  unfold zX11_keepAct_50 at h
  refine ⟨70000, ?_⟩
  exact tX11_keepAct_52 hp _ _ _ h
def zX11_keepAct_11 (post : Vd → Bool) : Nat → Int32 → Vd → Bool
  | 0, _, _ => false
  | n + 1, x1, w => (if (8840 : Int32) ≤ x1 then fw (vI w 300 42 ((w.1 300 42) - (1 : Int32))) (fun w_2 => zX11_keepAct_50 post w_2) else (vb (x1 + (221 : Int32)) 9061 && (vb x1 9061 && fw (vA w 342 x1.toNatClampNeg (w.2.1 342 (x1 + (221 : Int32)).toNatClampNeg)) (fun w_3 => fz (x1 + (1 : Int32)) (fun x1_4 => zX11_keepAct_11 post n x1_4 w_3)))))
theorem tX11_keepAct_11  {post : Wd → Prop} {pb : Vd → Bool} (hp : ∀ (w : Wd), pb (prj w) = true → post w) : ∀ (n : Nat) (x1 : Int32) (w : Wd), zX11_keepAct_11  pb  n x1 (prj w) = true → pX11_keepAct_11  post  n x1 w := by
  intro n
  induction n with
  | zero => intro x1 w h; exact absurd (show false = true from h) (by decide)
  | succ n ih =>
    intro x1 w h
    unfold pX11_keepAct_11
    unfold zX11_keepAct_11 at h
    refine br_i h (fun c h => ?_) (fun c h => ?_)
    · refine fa_w rfl h (fun w_2 ew_2 h => ?_)
      exact tX11_keepAct_50 hp  h
    · refine gd_v h (fun h => ?_)
      refine gd_v h (fun h => ?_)
      refine fa_w rfl h (fun w_3 ew_3 h => ?_)
      refine fa_i h (fun x1_4 ex1_4 h => ?_)
      exact ih _ _ h
def zX11_keepAct (post : Vd → Bool)  (w : Vd) : Bool := (if (w.1 300 42) = (40 : Int32) then zX11_keepAct_11 post 70000 (0 : Int32) w else zX11_keepAct_50 post w)
theorem tX11_keepAct  {post : Wd → Prop} {pb : Vd → Bool} (hp : ∀ (w : Wd), pb (prj w) = true → post w) {w : Wd} (h : zX11_keepAct  pb   (prj w) = true) : pX11_keepAct  post   w := by
  unfold pX11_keepAct
  unfold zX11_keepAct at h
  refine br_n h (fun c h => ?_) (fun c h => ?_)
  · exact tX11_keepAct_50 hp  h
  · refine ⟨70000, ?_⟩
    exact tX11_keepAct_11 hp _ _ _ h
def zX11_rowOf (post : Int32 → Vd → Bool) (x1 : Int32) (w : Vd) : Bool := (vb ((4 : Int32) * x1) 221 && post (w.2.1 341 ((4 : Int32) * x1).toNatClampNeg) w)
theorem tX11_rowOf  {post : Int32 → Wd → Prop} {pb : Int32 → Vd → Bool} (hp : ∀ (r : Int32) (w : Wd), pb r (prj w) = true → post r w) {x1 : Int32} {w : Wd} (h : zX11_rowOf  pb  x1 (prj w) = true) : pX11_rowOf  post  x1 w := by
  unfold pX11_rowOf
  unfold zX11_rowOf at h
  refine gd_v h (fun h => ?_)
  exact hp _ _ h
def zX11_cast (post : Int32 → Vd → Bool) (x1 : Int32) (x2 : Int32) (x3 : Int32) (w : Vd) : Bool := zX11_isSeal (fun r_1 w_2 => (if r_1 = 0 then post (-1 : Int32) w_2 else zX11_isHand (fun r_4 w_5 => (if r_4 = 0 then post (-1 : Int32) w_5 else zX11_isHeat (fun r_7 w_8 => (if r_7 = 0 then post (-1 : Int32) w_8 else (if (w_8.2.1 341 (216 : Int32).toNatClampNeg) = (24 : Int32) then post (-1 : Int32) w_8 else (if ((1 : Int32) + x3) ≤ (w_8.2.1 341 (218 : Int32).toNatClampNeg) then zX11_keepAct (fun w_12 => fz ((w_12.2.1 341 (216 : Int32).toNatClampNeg)) (fun x4_13 => fw (vA w_12 341 (220 : Int32).toNatClampNeg ((((137 : Int32) * (w_12.2.1 341 (220 : Int32).toNatClampNeg)) + (71 : Int32)) - (((137 : Int32) * (w_12.2.1 341 (220 : Int32).toNatClampNeg)) + (71 : Int32)) / (1000 : Int32) * (1000 : Int32))) (fun w_14 => zX11_rowOf (fun r_15 w_16 => false) x1 w_14))) w_8 else post (-1 : Int32) w_8)))) x3 w_5)) x2 w_2)) x1 w
theorem tX11_cast  {post : Int32 → Wd → Prop} {pb : Int32 → Vd → Bool} (hp : ∀ (r : Int32) (w : Wd), pb r (prj w) = true → post r w) {x1 : Int32} {x2 : Int32} {x3 : Int32} {w : Wd} (h : zX11_cast  pb  x1 x2 x3 (prj w) = true) : pX11_cast  post  x1 x2 x3 w := by
  unfold pX11_cast
  unfold zX11_cast at h
  refine tX11_isSeal (fun r_1 w_2 h => ?_)  h
  refine br_i h (fun c h => ?_) (fun c h => ?_)
  · exact hp _ _ h
  · refine tX11_isHand (fun r_4 w_5 h => ?_)  h
    refine br_i h (fun c h => ?_) (fun c h => ?_)
    · exact hp _ _ h
    · refine tX11_isHeat (fun r_7 w_8 h => ?_)  h
      refine br_i h (fun c h => ?_) (fun c h => ?_)
      · exact hp _ _ h
      · refine br_i h (fun c h => ?_) (fun c h => ?_)
        · exact hp _ _ h
        · refine br_i h (fun c h => ?_) (fun c h => ?_)
          · refine tX11_keepAct (fun w_12 h => ?_)  h
            refine fa_i h (fun x4_13 ex4_13 h => ?_)
            refine fa_w rfl h (fun w_14 ew_14 h => ?_)
            refine tX11_rowOf (fun r_15 w_16 h => ?_)  h
            exact absurd (show false = true from h) (by decide)
          · exact hp _ _ h
def zX11_crack (post : Int32 → Vd → Bool) (x1 : Int32) (x2 : Int32) (w : Vd) : Bool := zX11_isSeal (fun r_1 w_2 => (if r_1 = 0 then post (0 : Int32) w_2 else zX11_width (fun r_4 w_5 => zX11_isIn (fun r_6 w_7 => (if r_6 = 0 then post (0 : Int32) w_7 else zX11_rowOf (fun r_9 w_10 => (if ((r_9 >>> (x2 &&& 31)) &&& (1 : Int32)) = 0 then post (0 : Int32) w_10 else zX11_keepAct (fun w_12 => (vb ((4 : Int32) * x1) 221 && (vb ((4 : Int32) * x1) 221 && fw (vA w_12 341 ((4 : Int32) * x1).toNatClampNeg ((w_12.2.1 341 ((4 : Int32) * x1).toNatClampNeg) - ((1 : Int32) <<< (x2 &&& 31)))) (fun w_13 => post (1 : Int32) w_13)))) w_10)) x1 w_7)) x2 (0 : Int32) (r_4 - (1 : Int32)) w_5) w_2)) x1 w
theorem tX11_crack  {post : Int32 → Wd → Prop} {pb : Int32 → Vd → Bool} (hp : ∀ (r : Int32) (w : Wd), pb r (prj w) = true → post r w) {x1 : Int32} {x2 : Int32} {w : Wd} (h : zX11_crack  pb  x1 x2 (prj w) = true) : pX11_crack  post  x1 x2 w := by
  unfold pX11_crack
  unfold zX11_crack at h
  refine tX11_isSeal (fun r_1 w_2 h => ?_)  h
  refine br_i h (fun c h => ?_) (fun c h => ?_)
  · exact hp _ _ h
  · refine tX11_width (fun r_4 w_5 h => ?_)  h
    refine tX11_isIn (fun r_6 w_7 h => ?_)  h
    refine br_i h (fun c h => ?_) (fun c h => ?_)
    · exact hp _ _ h
    · refine tX11_rowOf (fun r_9 w_10 h => ?_)  h
      refine br_n h (fun c h => ?_) (fun c h => ?_)
      · refine tX11_keepAct (fun w_12 h => ?_)  h
        refine gd_v h (fun h => ?_)
        refine gd_v h (fun h => ?_)
        refine fa_w rfl h (fun w_13 ew_13 h => ?_)
        exact hp _ _ h
      · exact hp _ _ h
def zX11_undo (post : Int32 → Vd → Bool)  (w : Vd) : Bool := (if (w.1 300 42) = 0 then post (0 : Int32) w else fw (vI w 300 42 ((w.1 300 42) - (1 : Int32))) (fun w_2 => fw (vI w_2 300 43 ((w_2.1 300 43) + (1 : Int32))) (fun w_3 => false)))
theorem tX11_undo  {post : Int32 → Wd → Prop} {pb : Int32 → Vd → Bool} (hp : ∀ (r : Int32) (w : Wd), pb r (prj w) = true → post r w) {w : Wd} (h : zX11_undo  pb   (prj w) = true) : pX11_undo  post   w := by
  unfold pX11_undo
  unfold zX11_undo at h
  refine br_n h (fun c h => ?_) (fun c h => ?_)
  · refine fa_w rfl h (fun w_2 ew_2 h => ?_)
    refine fa_w rfl h (fun w_3 ew_3 h => ?_)
    exact absurd (show false = true from h) (by decide)
  · exact hp _ _ h
def zX11_redo (post : Int32 → Vd → Bool)  (w : Vd) : Bool := (if (w.1 300 43) = 0 then post (0 : Int32) w else false)
theorem tX11_redo  {post : Int32 → Wd → Prop} {pb : Int32 → Vd → Bool} (hp : ∀ (r : Int32) (w : Wd), pb r (prj w) = true → post r w) {w : Wd} (h : zX11_redo  pb   (prj w) = true) : pX11_redo  post   w := by
  unfold pX11_redo
  unfold zX11_redo at h
  refine br_n h (fun c h => ?_) (fun c h => ?_)
  · exact absurd (show false = true from h) (by decide)
  · exact hp _ _ h
def zX11_whose_31 (post : Int32 → Vd → Bool) : Nat → Int32 → Int32 → Int32 → Int32 → Int32 → Vd → Bool
  | 0, _, _, _, _, _, _ => false
  | n + 1, x1, x2, x3, x4, x5, w => (vb (w.1 300 29) 2 && (if (w.2.1 314 (w.1 300 29).toNatClampNeg) ≤ x5 then post x4 w else zX11_rowOf (fun r_2 w_3 => false) x1 w))
theorem tX11_whose_31  {post : Int32 → Wd → Prop} {pb : Int32 → Vd → Bool} (hp : ∀ (r : Int32) (w : Wd), pb r (prj w) = true → post r w) : ∀ (n : Nat) (x1 : Int32) (x2 : Int32) (x3 : Int32) (x4 : Int32) (x5 : Int32) (w : Wd), zX11_whose_31  pb  n x1 x2 x3 x4 x5 (prj w) = true → pX11_whose_31  post  n x1 x2 x3 x4 x5 w := by
  intro n
  induction n with
  | zero => intro x1 x2 x3 x4 x5 w h; exact absurd (show false = true from h) (by decide)
  | succ n ih =>
    intro x1 x2 x3 x4 x5 w h
    unfold pX11_whose_31
    unfold zX11_whose_31 at h
    refine gd_v h (fun h => ?_)
    refine br_i h (fun c h => ?_) (fun c h => ?_)
    · exact hp _ _ h
    · refine tX11_rowOf (fun r_2 w_3 h => ?_)  h
      exact absurd (show false = true from h) (by decide)
def zX11_whose (post : Int32 → Vd → Bool) (x1 : Int32) (x2 : Int32) (x3 : Int32) (w : Vd) : Bool := zX11_isSeal (fun r_1 w_2 => (if r_1 = 0 then post (-1 : Int32) w_2 else zX11_isHeat (fun r_4 w_5 => (if r_4 = 0 then post (-1 : Int32) w_5 else zX11_isRow (fun r_7 w_8 => (if r_7 = 0 then post (-1 : Int32) w_8 else zX11_whose_31 post 70000 x1 x2 x3 (0 : Int32) (0 : Int32) w_8)) x3 w_5)) x2 w_2)) x1 w
theorem tX11_whose  {post : Int32 → Wd → Prop} {pb : Int32 → Vd → Bool} (hp : ∀ (r : Int32) (w : Wd), pb r (prj w) = true → post r w) {x1 : Int32} {x2 : Int32} {x3 : Int32} {w : Wd} (h : zX11_whose  pb  x1 x2 x3 (prj w) = true) : pX11_whose  post  x1 x2 x3 w := by
  unfold pX11_whose
  unfold zX11_whose at h
  refine tX11_isSeal (fun r_1 w_2 h => ?_)  h
  refine br_i h (fun c h => ?_) (fun c h => ?_)
  · exact hp _ _ h
  · refine tX11_isHeat (fun r_4 w_5 h => ?_)  h
    refine br_i h (fun c h => ?_) (fun c h => ?_)
    · exact hp _ _ h
    · refine tX11_isRow (fun r_7 w_8 h => ?_)  h
      refine br_n h (fun c h => ?_) (fun c h => ?_)
      · refine ⟨70000, ?_⟩
        exact tX11_whose_31 hp _ _ _ _ _ _ _ h
      · exact hp _ _ h
def zX11_bitsOf_4 (post : Int32 → Vd → Bool) : Nat → Int32 → Int32 → Vd → Bool
  | 0, _, _, _ => false
  | n + 1, x1, x2, w => (if x2 = 0 then post x1 w else fz (x1 + (1 : Int32)) (fun x1_2 => fz ((x2 &&& (x2 - (1 : Int32)))) (fun x2_3 => zX11_bitsOf_4 post n x1_2 x2_3 w)))
theorem tX11_bitsOf_4  {post : Int32 → Wd → Prop} {pb : Int32 → Vd → Bool} (hp : ∀ (r : Int32) (w : Wd), pb r (prj w) = true → post r w) : ∀ (n : Nat) (x1 : Int32) (x2 : Int32) (w : Wd), zX11_bitsOf_4  pb  n x1 x2 (prj w) = true → pX11_bitsOf_4  post  n x1 x2 w := by
  intro n
  induction n with
  | zero => intro x1 x2 w h; exact absurd (show false = true from h) (by decide)
  | succ n ih =>
    intro x1 x2 w h
    unfold pX11_bitsOf_4
    unfold zX11_bitsOf_4 at h
    refine br_i h (fun c h => ?_) (fun c h => ?_)
    · exact hp _ _ h
    · refine fa_i h (fun x1_2 ex1_2 h => ?_)
      refine fa_i h (fun x2_3 ex2_3 h => ?_)
      exact ih _ _ _ h
def zX11_bitsOf (post : Int32 → Vd → Bool) (x0 : Int32) (w : Vd) : Bool := zX11_bitsOf_4 post 70000 (0 : Int32) x0 w
theorem tX11_bitsOf  {post : Int32 → Wd → Prop} {pb : Int32 → Vd → Bool} (hp : ∀ (r : Int32) (w : Wd), pb r (prj w) = true → post r w) {x0 : Int32} {w : Wd} (h : zX11_bitsOf  pb  x0 (prj w) = true) : pX11_bitsOf  post  x0 w := by
  unfold pX11_bitsOf
  unfold zX11_bitsOf at h
  refine ⟨70000, ?_⟩
  exact tX11_bitsOf_4 hp _ _ _ _ h
def zX11_made_76 (k25 : Int32 → Int32 → Int32 → Int32 → Vd → Bool) (post : Int32 → Vd → Bool) (x1 : Int32) (x2 : Int32) (x3 : Int32) (x4 : Int32) (w : Vd) : Bool := fz (x4 + (1 : Int32)) (fun x4_1 => k25 x1 x2 x3 x4_1 w)
theorem tX11_made_76 {k25 : Int32 → Int32 → Int32 → Int32 → Wd → Prop} {k25b : Int32 → Int32 → Int32 → Int32 → Vd → Bool} {post : Int32 → Wd → Prop} {pb : Int32 → Vd → Bool} (hk25 : ∀ (y0 : Int32) (y1 : Int32) (y2 : Int32) (y3 : Int32) (w : Wd), k25b y0 y1 y2 y3 (prj w) = true → k25 y0 y1 y2 y3 w) (hp : ∀ (r : Int32) (w : Wd), pb r (prj w) = true → post r w) {x1 : Int32} {x2 : Int32} {x3 : Int32} {x4 : Int32} {w : Wd} (h : zX11_made_76 k25b pb  x1 x2 x3 x4 (prj w) = true) : pX11_made_76 k25 post  x1 x2 x3 x4 w := by
  unfold pX11_made_76
  unfold zX11_made_76 at h
  refine fa_i h (fun x4_1 ex4_1 h => ?_)
  exact hk25 _ _ _ _ _ h
def zX11_made_25 (post : Int32 → Vd → Bool) : Nat → Int32 → Int32 → Int32 → Int32 → Vd → Bool
  | 0, _, _, _, _, _ => false
  | n + 1, x1, x2, x3, x4, w => (if (w.2.1 341 (216 : Int32).toNatClampNeg) ≤ x4 then post x3 w else zX11_rowOf (fun r_2 w_3 => zX11_turnedRow (fun r_4 w_5 => (if (x1 &&& r_4) = x1 then zX11_bitsOf (fun r_7 w_8 => (if x2 < r_7 then zX11_made_76 (zX11_made_25 post n) post x1 x2 x3 x4 w_8 else fz ((x3 ||| ((1 : Int32) <<< (x4 &&& 31)))) (fun x3_10 => zX11_made_76 (zX11_made_25 post n) post x1 x2 x3_10 x4 w_8))) (r_4 - x1) w_5 else zX11_made_76 (zX11_made_25 post n) post x1 x2 x3 x4 w_5)) r_2 w_3) x4 w)
theorem tX11_made_25  {post : Int32 → Wd → Prop} {pb : Int32 → Vd → Bool} (hp : ∀ (r : Int32) (w : Wd), pb r (prj w) = true → post r w) : ∀ (n : Nat) (x1 : Int32) (x2 : Int32) (x3 : Int32) (x4 : Int32) (w : Wd), zX11_made_25  pb  n x1 x2 x3 x4 (prj w) = true → pX11_made_25  post  n x1 x2 x3 x4 w := by
  intro n
  induction n with
  | zero => intro x1 x2 x3 x4 w h; exact absurd (show false = true from h) (by decide)
  | succ n ih =>
    intro x1 x2 x3 x4 w h
    unfold pX11_made_25
    unfold zX11_made_25 at h
    refine br_i h (fun c h => ?_) (fun c h => ?_)
    · exact hp _ _ h
    · refine tX11_rowOf (fun r_2 w_3 h => ?_)  h
      refine tX11_turnedRow (fun r_4 w_5 h => ?_)  h
      refine br_n h (fun c h => ?_) (fun c h => ?_)
      · exact tX11_made_76 ih hp  h
      · refine tX11_bitsOf (fun r_7 w_8 h => ?_)  h
        refine br_i h (fun c h => ?_) (fun c h => ?_)
        · exact tX11_made_76 ih hp  h
        · refine fa_i h (fun x3_10 ex3_10 h => ?_)
          exact tX11_made_76 ih hp  h
def zX11_made (post : Int32 → Vd → Bool) (x1 : Int32) (x2 : Int32) (w : Vd) : Bool := zX11_isRow (fun r_1 w_2 => (if r_1 = 0 then post (-1 : Int32) w_2 else zX11_isIn (fun r_4 w_5 => (if r_4 = 0 then post (-1 : Int32) w_5 else zX11_made_25 post 70000 x1 x2 (0 : Int32) (0 : Int32) w_5)) x2 (0 : Int32) (12 : Int32) w_2)) x1 w
theorem tX11_made  {post : Int32 → Wd → Prop} {pb : Int32 → Vd → Bool} (hp : ∀ (r : Int32) (w : Wd), pb r (prj w) = true → post r w) {x1 : Int32} {x2 : Int32} {w : Wd} (h : zX11_made  pb  x1 x2 (prj w) = true) : pX11_made  post  x1 x2 w := by
  unfold pX11_made
  unfold zX11_made at h
  refine tX11_isRow (fun r_1 w_2 h => ?_)  h
  refine br_i h (fun c h => ?_) (fun c h => ?_)
  · exact hp _ _ h
  · refine tX11_isIn (fun r_4 w_5 h => ?_)  h
    refine br_n h (fun c h => ?_) (fun c h => ?_)
    · refine ⟨70000, ?_⟩
      exact tX11_made_25 hp _ _ _ _ _ _ h
    · exact hp _ _ h
def zX11_apart (post : Int32 → Vd → Bool) (x1 : Int32) (x2 : Int32) (x3 : Int32) (w : Vd) : Bool := zX11_isSeal (fun r_1 w_2 => (if r_1 = 0 then post (-1 : Int32) w_2 else zX11_isSeal (fun r_4 w_5 => (if r_4 = 0 then post (-1 : Int32) w_5 else zX11_rowOf (fun r_7 w_8 => (if x3 = 0 then zX11_rowOf (fun r_10 w_11 => zX11_bitsOf (fun r_12 w_13 => post r_12 w_13) (r_7 ^^^ r_10) w_11) x2 w_8 else zX11_rowOf (fun r_14 w_15 => zX11_turnedRow (fun r_16 w_17 => zX11_bitsOf (fun r_18 w_19 => post r_18 w_19) (r_7 ^^^ r_16) w_17) r_14 w_15) x2 w_8)) x1 w_5)) x2 w_2)) x1 w
theorem tX11_apart  {post : Int32 → Wd → Prop} {pb : Int32 → Vd → Bool} (hp : ∀ (r : Int32) (w : Wd), pb r (prj w) = true → post r w) {x1 : Int32} {x2 : Int32} {x3 : Int32} {w : Wd} (h : zX11_apart  pb  x1 x2 x3 (prj w) = true) : pX11_apart  post  x1 x2 x3 w := by
  unfold pX11_apart
  unfold zX11_apart at h
  refine tX11_isSeal (fun r_1 w_2 h => ?_)  h
  refine br_i h (fun c h => ?_) (fun c h => ?_)
  · exact hp _ _ h
  · refine tX11_isSeal (fun r_4 w_5 h => ?_)  h
    refine br_i h (fun c h => ?_) (fun c h => ?_)
    · exact hp _ _ h
    · refine tX11_rowOf (fun r_7 w_8 h => ?_)  h
      refine br_i h (fun c h => ?_) (fun c h => ?_)
      · refine tX11_rowOf (fun r_10 w_11 h => ?_)  h
        refine tX11_bitsOf (fun r_12 w_13 h => ?_)  h
        exact hp _ _ h
      · refine tX11_rowOf (fun r_14 w_15 h => ?_)  h
        refine tX11_turnedRow (fun r_16 w_17 h => ?_)  h
        refine tX11_bitsOf (fun r_18 w_19 h => ?_)  h
        exact hp _ _ h
def zX11_heats_32 (post : Int32 → Vd → Bool) : Nat → Int32 → Int32 → Int32 → Int32 → Int32 → Vd → Bool
  | 0, _, _, _, _, _, _ => false
  | n + 1, x1, x2, x3, x4, x5, w => (if (9 : Int32) < x5 then post x4 w else zX11_rowOf (fun r_2 w_3 => false) x1 w)
theorem tX11_heats_32  {post : Int32 → Wd → Prop} {pb : Int32 → Vd → Bool} (hp : ∀ (r : Int32) (w : Wd), pb r (prj w) = true → post r w) : ∀ (n : Nat) (x1 : Int32) (x2 : Int32) (x3 : Int32) (x4 : Int32) (x5 : Int32) (w : Wd), zX11_heats_32  pb  n x1 x2 x3 x4 x5 (prj w) = true → pX11_heats_32  post  n x1 x2 x3 x4 x5 w := by
  intro n
  induction n with
  | zero => intro x1 x2 x3 x4 x5 w h; exact absurd (show false = true from h) (by decide)
  | succ n ih =>
    intro x1 x2 x3 x4 x5 w h
    unfold pX11_heats_32
    unfold zX11_heats_32 at h
    refine br_i h (fun c h => ?_) (fun c h => ?_)
    · exact hp _ _ h
    · refine tX11_rowOf (fun r_2 w_3 h => ?_)  h
      exact absurd (show false = true from h) (by decide)
def zX11_heats (post : Int32 → Vd → Bool) (x1 : Int32) (x2 : Int32) (x3 : Int32) (w : Vd) : Bool := zX11_isSeal (fun r_1 w_2 => (if r_1 = 0 then post (-1 : Int32) w_2 else zX11_isHand (fun r_4 w_5 => (if r_4 = 0 then post (-1 : Int32) w_5 else zX11_isRow (fun r_7 w_8 => (if r_7 = 0 then post (-1 : Int32) w_8 else zX11_heats_32 post 70000 x1 x2 x3 (0 : Int32) (0 : Int32) w_8)) x3 w_5)) x2 w_2)) x1 w
theorem tX11_heats  {post : Int32 → Wd → Prop} {pb : Int32 → Vd → Bool} (hp : ∀ (r : Int32) (w : Wd), pb r (prj w) = true → post r w) {x1 : Int32} {x2 : Int32} {x3 : Int32} {w : Wd} (h : zX11_heats  pb  x1 x2 x3 (prj w) = true) : pX11_heats  post  x1 x2 x3 w := by
  unfold pX11_heats
  unfold zX11_heats at h
  refine tX11_isSeal (fun r_1 w_2 h => ?_)  h
  refine br_i h (fun c h => ?_) (fun c h => ?_)
  · exact hp _ _ h
  · refine tX11_isHand (fun r_4 w_5 h => ?_)  h
    refine br_i h (fun c h => ?_) (fun c h => ?_)
    · exact hp _ _ h
    · refine tX11_isRow (fun r_7 w_8 h => ?_)  h
      refine br_n h (fun c h => ?_) (fun c h => ?_)
      · refine ⟨70000, ?_⟩
        exact tX11_heats_32 hp _ _ _ _ _ _ _ h
      · exact hp _ _ h
def zX11_canCast (post : Int32 → Vd → Bool) (x1 : Int32) (x2 : Int32) (x3 : Int32) (w : Vd) : Bool := zX11_isSeal (fun r_1 w_2 => (if r_1 = 0 then post (0 : Int32) w_2 else zX11_isHand (fun r_4 w_5 => (if r_4 = 0 then post (0 : Int32) w_5 else zX11_isHeat (fun r_7 w_8 => (if r_7 = 0 then post (0 : Int32) w_8 else post (1 : Int32) w_8)) x3 w_5)) x2 w_2)) x1 w
theorem tX11_canCast  {post : Int32 → Wd → Prop} {pb : Int32 → Vd → Bool} (hp : ∀ (r : Int32) (w : Wd), pb r (prj w) = true → post r w) {x1 : Int32} {x2 : Int32} {x3 : Int32} {w : Wd} (h : zX11_canCast  pb  x1 x2 x3 (prj w) = true) : pX11_canCast  post  x1 x2 x3 w := by
  unfold pX11_canCast
  unfold zX11_canCast at h
  refine tX11_isSeal (fun r_1 w_2 h => ?_)  h
  refine br_i h (fun c h => ?_) (fun c h => ?_)
  · exact hp _ _ h
  · refine tX11_isHand (fun r_4 w_5 h => ?_)  h
    refine br_i h (fun c h => ?_) (fun c h => ?_)
    · exact hp _ _ h
    · refine tX11_isHeat (fun r_7 w_8 h => ?_)  h
      refine br_i h (fun c h => ?_) (fun c h => ?_)
      · exact hp _ _ h
      · exact hp _ _ h
def zX11_luck (post : Int32 → Vd → Bool) (x1 : Int32) (x2 : Int32) (x3 : Int32) (x4 : Int32) (w : Vd) : Bool := zX11_canCast (fun r_1 w_2 => (if r_1 = 0 then post (-1 : Int32) w_2 else zX11_isRow (fun r_4 w_5 => (if r_4 = 0 then post (-1 : Int32) w_5 else false)) x4 w_2)) x1 x2 x3 w
theorem tX11_luck  {post : Int32 → Wd → Prop} {pb : Int32 → Vd → Bool} (hp : ∀ (r : Int32) (w : Wd), pb r (prj w) = true → post r w) {x1 : Int32} {x2 : Int32} {x3 : Int32} {x4 : Int32} {w : Wd} (h : zX11_luck  pb  x1 x2 x3 x4 (prj w) = true) : pX11_luck  post  x1 x2 x3 x4 w := by
  unfold pX11_luck
  unfold zX11_luck at h
  refine tX11_canCast (fun r_1 w_2 h => ?_)  h
  refine br_i h (fun c h => ?_) (fun c h => ?_)
  · exact hp _ _ h
  · refine tX11_isRow (fun r_4 w_5 h => ?_)  h
    refine br_i h (fun c h => ?_) (fun c h => ?_)
    · exact hp _ _ h
    · exact absurd (show false = true from h) (by decide)
def zX11_likely_162 (k67 : Int32 → Int32 → Int32 → Int32 → Vd → Bool) (post : Int32 → Vd → Bool) (x4 : Int32) (x5 : Int32) (x6 : Int32) (x7 : Int32) (w : Vd) : Bool := fz (x7 + (1 : Int32)) (fun x7_1 => k67 x4 x5 x6 x7_1 w)
theorem tX11_likely_162 {k67 : Int32 → Int32 → Int32 → Int32 → Wd → Prop} {k67b : Int32 → Int32 → Int32 → Int32 → Vd → Bool} {post : Int32 → Wd → Prop} {pb : Int32 → Vd → Bool} (hk67 : ∀ (y0 : Int32) (y1 : Int32) (y2 : Int32) (y3 : Int32) (w : Wd), k67b y0 y1 y2 y3 (prj w) = true → k67 y0 y1 y2 y3 w) (hp : ∀ (r : Int32) (w : Wd), pb r (prj w) = true → post r w) {x4 : Int32} {x5 : Int32} {x6 : Int32} {x7 : Int32} {w : Wd} (h : zX11_likely_162 k67b pb  x4 x5 x6 x7 (prj w) = true) : pX11_likely_162 k67 post  x4 x5 x6 x7 w := by
  unfold pX11_likely_162
  unfold zX11_likely_162 at h
  refine fa_i h (fun x7_1 ex7_1 h => ?_)
  exact hk67 _ _ _ _ _ h
def zX11_likely_149 (k67 : Int32 → Int32 → Int32 → Int32 → Vd → Bool) (post : Int32 → Vd → Bool) (x4 : Int32) (x7 : Int32) (x8 : Int32) (w : Vd) : Bool := (vb x7 100 && fz ((w.2.1 345 x7.toNatClampNeg)) (fun x5_1 => zX11_likely_162 k67 post x4 x5_1 x8 x7 w))
theorem tX11_likely_149 {k67 : Int32 → Int32 → Int32 → Int32 → Wd → Prop} {k67b : Int32 → Int32 → Int32 → Int32 → Vd → Bool} {post : Int32 → Wd → Prop} {pb : Int32 → Vd → Bool} (hk67 : ∀ (y0 : Int32) (y1 : Int32) (y2 : Int32) (y3 : Int32) (w : Wd), k67b y0 y1 y2 y3 (prj w) = true → k67 y0 y1 y2 y3 w) (hp : ∀ (r : Int32) (w : Wd), pb r (prj w) = true → post r w) {x4 : Int32} {x7 : Int32} {x8 : Int32} {w : Wd} (h : zX11_likely_149 k67b pb  x4 x7 x8 (prj w) = true) : pX11_likely_149 k67 post  x4 x7 x8 w := by
  unfold pX11_likely_149
  unfold zX11_likely_149 at h
  refine gd_v h (fun h => ?_)
  refine fa_i h (fun x5_1 ex5_1 h => ?_)
  exact tX11_likely_162 hk67 hp  h
def zX11_likely_111 (k80 : Int32 → Int32 → Int32 → Int32 → Int32 → Int32 → Vd → Bool) (post : Int32 → Vd → Bool) (x4 : Int32) (x5 : Int32) (x6 : Int32) (x7 : Int32) (x9 : Int32) (t0 : Int32) (t1 : Int32) (w : Vd) : Bool := fz ((t0 + t1)) (fun x8_1 => fz (x9 + (1 : Int32)) (fun x9_2 => k80 x4 x5 x6 x7 x8_1 x9_2 w))
theorem tX11_likely_111 {k80 : Int32 → Int32 → Int32 → Int32 → Int32 → Int32 → Wd → Prop} {k80b : Int32 → Int32 → Int32 → Int32 → Int32 → Int32 → Vd → Bool} {post : Int32 → Wd → Prop} {pb : Int32 → Vd → Bool} (hk80 : ∀ (y0 : Int32) (y1 : Int32) (y2 : Int32) (y3 : Int32) (y4 : Int32) (y5 : Int32) (w : Wd), k80b y0 y1 y2 y3 y4 y5 (prj w) = true → k80 y0 y1 y2 y3 y4 y5 w) (hp : ∀ (r : Int32) (w : Wd), pb r (prj w) = true → post r w) {x4 : Int32} {x5 : Int32} {x6 : Int32} {x7 : Int32} {x9 : Int32} {t0 : Int32} {t1 : Int32} {w : Wd} (h : zX11_likely_111 k80b pb  x4 x5 x6 x7 x9 t0 t1 (prj w) = true) : pX11_likely_111 k80 post  x4 x5 x6 x7 x9 t0 t1 w := by
  unfold pX11_likely_111
  unfold zX11_likely_111 at h
  refine fa_i h (fun x8_1 ex8_1 h => ?_)
  refine fa_i h (fun x9_2 ex9_2 h => ?_)
  exact hk80 _ _ _ _ _ _ _ h
def zX11_likely_80 (k67 : Int32 → Int32 → Int32 → Int32 → Vd → Bool) (post : Int32 → Vd → Bool) : Nat → Int32 → Int32 → Int32 → Int32 → Int32 → Int32 → Vd → Bool
  | 0, _, _, _, _, _, _, _ => false
  | n + 1, x4, x5, x6, x7, x8, x9, w => (if (100 : Int32) ≤ x9 then (if x8 < x6 then zX11_likely_162 k67 post x4 x5 x6 x7 w else (if x8 = x6 then (vb x7 100 && (if (w.2.1 345 x7.toNatClampNeg) < x5 then zX11_likely_149 k67 post x4 x7 x8 w else zX11_likely_162 k67 post x4 x5 x6 x7 w)) else zX11_likely_149 k67 post x4 x7 x8 w)) else (vb x9 100 && (vb x7 100 && (if (w.2.1 345 x9.toNatClampNeg) = (w.2.1 345 x7.toNatClampNeg) then zX11_likely_111 (zX11_likely_80 k67 post n) post x4 x5 x6 x7 x9 x8 (1 : Int32) w else zX11_likely_111 (zX11_likely_80 k67 post n) post x4 x5 x6 x7 x9 x8 (0 : Int32) w))))
theorem tX11_likely_80 {k67 : Int32 → Int32 → Int32 → Int32 → Wd → Prop} {k67b : Int32 → Int32 → Int32 → Int32 → Vd → Bool} {post : Int32 → Wd → Prop} {pb : Int32 → Vd → Bool} (hk67 : ∀ (y0 : Int32) (y1 : Int32) (y2 : Int32) (y3 : Int32) (w : Wd), k67b y0 y1 y2 y3 (prj w) = true → k67 y0 y1 y2 y3 w) (hp : ∀ (r : Int32) (w : Wd), pb r (prj w) = true → post r w) : ∀ (n : Nat) (x4 : Int32) (x5 : Int32) (x6 : Int32) (x7 : Int32) (x8 : Int32) (x9 : Int32) (w : Wd), zX11_likely_80 k67b pb  n x4 x5 x6 x7 x8 x9 (prj w) = true → pX11_likely_80 k67 post  n x4 x5 x6 x7 x8 x9 w := by
  intro n
  induction n with
  | zero => intro x4 x5 x6 x7 x8 x9 w h; exact absurd (show false = true from h) (by decide)
  | succ n ih =>
    intro x4 x5 x6 x7 x8 x9 w h
    unfold pX11_likely_80
    unfold zX11_likely_80 at h
    refine br_i h (fun c h => ?_) (fun c h => ?_)
    · refine br_i h (fun c h => ?_) (fun c h => ?_)
      · exact tX11_likely_162 hk67 hp  h
      · refine br_n h (fun c h => ?_) (fun c h => ?_)
        · exact tX11_likely_149 hk67 hp  h
        · refine gd_v h (fun h => ?_)
          refine br_i h (fun c h => ?_) (fun c h => ?_)
          · exact tX11_likely_149 hk67 hp  h
          · exact tX11_likely_162 hk67 hp  h
    · refine gd_v h (fun h => ?_)
      refine gd_v h (fun h => ?_)
      refine br_n h (fun c h => ?_) (fun c h => ?_)
      · exact tX11_likely_111 ih hp  h
      · exact tX11_likely_111 ih hp  h
def zX11_likely_67 (post : Int32 → Vd → Bool) : Nat → Int32 → Int32 → Int32 → Int32 → Vd → Bool
  | 0, _, _, _, _, _ => false
  | n + 1, x4, x5, x6, x7, w => (if (100 : Int32) ≤ x7 then (if x4 = 0 then post x5 w else post x6 w) else zX11_likely_80 (zX11_likely_67 post n) post 70000 x4 x5 x6 x7 (0 : Int32) (0 : Int32) w)
theorem tX11_likely_67  {post : Int32 → Wd → Prop} {pb : Int32 → Vd → Bool} (hp : ∀ (r : Int32) (w : Wd), pb r (prj w) = true → post r w) : ∀ (n : Nat) (x4 : Int32) (x5 : Int32) (x6 : Int32) (x7 : Int32) (w : Wd), zX11_likely_67  pb  n x4 x5 x6 x7 (prj w) = true → pX11_likely_67  post  n x4 x5 x6 x7 w := by
  intro n
  induction n with
  | zero => intro x4 x5 x6 x7 w h; exact absurd (show false = true from h) (by decide)
  | succ n ih =>
    intro x4 x5 x6 x7 w h
    unfold pX11_likely_67
    unfold zX11_likely_67 at h
    refine br_i h (fun c h => ?_) (fun c h => ?_)
    · refine br_n h (fun c h => ?_) (fun c h => ?_)
      · exact hp _ _ h
      · exact hp _ _ h
    · refine ⟨70000, ?_⟩
      exact tX11_likely_80 ih hp _ _ _ _ _ _ _ _ h
def zX11_likely_25 (post : Int32 → Vd → Bool) : Nat → Int32 → Int32 → Int32 → Int32 → Int32 → Vd → Bool
  | 0, _, _, _, _, _, _ => false
  | n + 1, x1, x2, x3, x4, x5, w => (if (100 : Int32) ≤ x5 then zX11_likely_67 post 70000 x4 (-1 : Int32) (0 : Int32) (0 : Int32) w else zX11_rowOf (fun r_2 w_3 => false) x1 w)
theorem tX11_likely_25  {post : Int32 → Wd → Prop} {pb : Int32 → Vd → Bool} (hp : ∀ (r : Int32) (w : Wd), pb r (prj w) = true → post r w) : ∀ (n : Nat) (x1 : Int32) (x2 : Int32) (x3 : Int32) (x4 : Int32) (x5 : Int32) (w : Wd), zX11_likely_25  pb  n x1 x2 x3 x4 x5 (prj w) = true → pX11_likely_25  post  n x1 x2 x3 x4 x5 w := by
  intro n
  induction n with
  | zero => intro x1 x2 x3 x4 x5 w h; exact absurd (show false = true from h) (by decide)
  | succ n ih =>
    intro x1 x2 x3 x4 x5 w h
    unfold pX11_likely_25
    unfold zX11_likely_25 at h
    refine br_i h (fun c h => ?_) (fun c h => ?_)
    · refine ⟨70000, ?_⟩
      exact tX11_likely_67 hp _ _ _ _ _ _ h
    · refine tX11_rowOf (fun r_2 w_3 h => ?_)  h
      exact absurd (show false = true from h) (by decide)
def zX11_likely (post : Int32 → Vd → Bool) (x1 : Int32) (x2 : Int32) (x3 : Int32) (x4 : Int32) (w : Vd) : Bool := zX11_canCast (fun r_1 w_2 => (if r_1 = 0 then post (-1 : Int32) w_2 else zX11_isIn (fun r_4 w_5 => (if r_4 = 0 then post (-1 : Int32) w_5 else zX11_likely_25 post 70000 x1 x2 x3 x4 (0 : Int32) w_5)) x4 (0 : Int32) (1 : Int32) w_2)) x1 x2 x3 w
theorem tX11_likely  {post : Int32 → Wd → Prop} {pb : Int32 → Vd → Bool} (hp : ∀ (r : Int32) (w : Wd), pb r (prj w) = true → post r w) {x1 : Int32} {x2 : Int32} {x3 : Int32} {x4 : Int32} {w : Wd} (h : zX11_likely  pb  x1 x2 x3 x4 (prj w) = true) : pX11_likely  post  x1 x2 x3 x4 w := by
  unfold pX11_likely
  unfold zX11_likely at h
  refine tX11_canCast (fun r_1 w_2 h => ?_)  h
  refine br_i h (fun c h => ?_) (fun c h => ?_)
  · exact hp _ _ h
  · refine tX11_isIn (fun r_4 w_5 h => ?_)  h
    refine br_n h (fun c h => ?_) (fun c h => ?_)
    · refine ⟨70000, ?_⟩
      exact tX11_likely_25 hp _ _ _ _ _ _ _ h
    · exact hp _ _ h
def zX11_fades_22 (post : Int32 → Vd → Bool) : Nat → Int32 → Int32 → Int32 → Int32 → Vd → Bool
  | 0, _, _, _, _, _ => false
  | n + 1, x2, x3, x4, x5, w => (if (4096 : Int32) < x5 then post (-1 : Int32) w else (if x4 = 0 then post x5 w else false))
theorem tX11_fades_22  {post : Int32 → Wd → Prop} {pb : Int32 → Vd → Bool} (hp : ∀ (r : Int32) (w : Wd), pb r (prj w) = true → post r w) : ∀ (n : Nat) (x2 : Int32) (x3 : Int32) (x4 : Int32) (x5 : Int32) (w : Wd), zX11_fades_22  pb  n x2 x3 x4 x5 (prj w) = true → pX11_fades_22  post  n x2 x3 x4 x5 w := by
  intro n
  induction n with
  | zero => intro x2 x3 x4 x5 w h; exact absurd (show false = true from h) (by decide)
  | succ n ih =>
    intro x2 x3 x4 x5 w h
    unfold pX11_fades_22
    unfold zX11_fades_22 at h
    refine br_i h (fun c h => ?_) (fun c h => ?_)
    · exact hp _ _ h
    · refine br_n h (fun c h => ?_) (fun c h => ?_)
      · exact absurd (show false = true from h) (by decide)
      · exact hp _ _ h
def zX11_fades (post : Int32 → Vd → Bool) (x1 : Int32) (x2 : Int32) (x3 : Int32) (w : Vd) : Bool := zX11_canCast (fun r_1 w_2 => (if r_1 = 0 then post (-1 : Int32) w_2 else zX11_rowOf (fun r_4 w_5 => zX11_fades_22 post 70000 x2 x3 r_4 (0 : Int32) w_5) x1 w_2)) x1 x2 x3 w
theorem tX11_fades  {post : Int32 → Wd → Prop} {pb : Int32 → Vd → Bool} (hp : ∀ (r : Int32) (w : Wd), pb r (prj w) = true → post r w) {x1 : Int32} {x2 : Int32} {x3 : Int32} {w : Wd} (h : zX11_fades  pb  x1 x2 x3 (prj w) = true) : pX11_fades  post  x1 x2 x3 w := by
  unfold pX11_fades
  unfold zX11_fades at h
  refine tX11_canCast (fun r_1 w_2 h => ?_)  h
  refine br_n h (fun c h => ?_) (fun c h => ?_)
  · refine tX11_rowOf (fun r_4 w_5 h => ?_)  h
    refine ⟨70000, ?_⟩
    exact tX11_fades_22 hp _ _ _ _ _ _ h
  · exact hp _ _ h
def zX11_kinOf_5 (post : Int32 → Vd → Bool) : Nat → Int32 → Int32 → Vd → Bool
  | 0, _, _, _ => false
  | n + 1, x3, x4, w => (if x3 = x4 then post x3 w else (if x3 ≤ x4 then (vb (((4 : Int32) * x4) + (1 : Int32)) 221 && fz ((w.2.1 341 (((4 : Int32) * x4) + (1 : Int32)).toNatClampNeg)) (fun x4_3 => zX11_kinOf_5 post n x3 x4_3 w)) else (vb (((4 : Int32) * x3) + (1 : Int32)) 221 && fz ((w.2.1 341 (((4 : Int32) * x3) + (1 : Int32)).toNatClampNeg)) (fun x3_4 => zX11_kinOf_5 post n x3_4 x4 w))))
theorem tX11_kinOf_5  {post : Int32 → Wd → Prop} {pb : Int32 → Vd → Bool} (hp : ∀ (r : Int32) (w : Wd), pb r (prj w) = true → post r w) : ∀ (n : Nat) (x3 : Int32) (x4 : Int32) (w : Wd), zX11_kinOf_5  pb  n x3 x4 (prj w) = true → pX11_kinOf_5  post  n x3 x4 w := by
  intro n
  induction n with
  | zero => intro x3 x4 w h; exact absurd (show false = true from h) (by decide)
  | succ n ih =>
    intro x3 x4 w h
    unfold pX11_kinOf_5
    unfold zX11_kinOf_5 at h
    refine br_i h (fun c h => ?_) (fun c h => ?_)
    · exact hp _ _ h
    · refine br_i h (fun c h => ?_) (fun c h => ?_)
      · refine gd_v h (fun h => ?_)
        refine fa_i h (fun x4_3 ex4_3 h => ?_)
        exact ih _ _ _ h
      · refine gd_v h (fun h => ?_)
        refine fa_i h (fun x3_4 ex3_4 h => ?_)
        exact ih _ _ _ h
def zX11_kinOf (post : Int32 → Vd → Bool) (x1 : Int32) (x2 : Int32) (w : Vd) : Bool := zX11_kinOf_5 post 70000 x1 x2 w
theorem tX11_kinOf  {post : Int32 → Wd → Prop} {pb : Int32 → Vd → Bool} (hp : ∀ (r : Int32) (w : Wd), pb r (prj w) = true → post r w) {x1 : Int32} {x2 : Int32} {w : Wd} (h : zX11_kinOf  pb  x1 x2 (prj w) = true) : pX11_kinOf  post  x1 x2 w := by
  unfold pX11_kinOf
  unfold zX11_kinOf at h
  refine ⟨70000, ?_⟩
  exact tX11_kinOf_5 hp _ _ _ _ h
def zX11_kin (post : Int32 → Vd → Bool) (x1 : Int32) (x2 : Int32) (x3 : Int32) (w : Vd) : Bool := zX11_isSeal (fun r_1 w_2 => (if r_1 = 0 then post (-1 : Int32) w_2 else zX11_isSeal (fun r_4 w_5 => (if r_4 = 0 then post (-1 : Int32) w_5 else zX11_isIn (fun r_7 w_8 => (if r_7 = 0 then post (-1 : Int32) w_8 else zX11_kinOf (fun r_10 w_11 => (if x3 = 0 then post r_10 w_11 else zX11_deep (fun r_13 w_14 => zX11_deep (fun r_15 w_16 => zX11_deep (fun r_17 w_18 => post ((r_13 + r_15) - ((2 : Int32) * r_17)) w_18) r_10 w_16) x2 w_14) x1 w_11)) x1 x2 w_8)) x3 (0 : Int32) (1 : Int32) w_5)) x2 w_2)) x1 w
theorem tX11_kin  {post : Int32 → Wd → Prop} {pb : Int32 → Vd → Bool} (hp : ∀ (r : Int32) (w : Wd), pb r (prj w) = true → post r w) {x1 : Int32} {x2 : Int32} {x3 : Int32} {w : Wd} (h : zX11_kin  pb  x1 x2 x3 (prj w) = true) : pX11_kin  post  x1 x2 x3 w := by
  unfold pX11_kin
  unfold zX11_kin at h
  refine tX11_isSeal (fun r_1 w_2 h => ?_)  h
  refine br_i h (fun c h => ?_) (fun c h => ?_)
  · exact hp _ _ h
  · refine tX11_isSeal (fun r_4 w_5 h => ?_)  h
    refine br_i h (fun c h => ?_) (fun c h => ?_)
    · exact hp _ _ h
    · refine tX11_isIn (fun r_7 w_8 h => ?_)  h
      refine br_n h (fun c h => ?_) (fun c h => ?_)
      · refine tX11_kinOf (fun r_10 w_11 h => ?_)  h
        refine br_n h (fun c h => ?_) (fun c h => ?_)
        · refine tX11_deep (fun r_13 w_14 h => ?_)  h
          refine tX11_deep (fun r_15 w_16 h => ?_)  h
          refine tX11_deep (fun r_17 w_18 h => ?_)  h
          exact hp _ _ h
        · exact hp _ _ h
      · exact hp _ _ h
def zX11_thumb_42 (post : Int32 → Vd → Bool) : Nat → Int32 → Int32 → Vd → Bool
  | 0, _, _, _ => false
  | n + 1, x3, x4, w => (if x3 ≤ 0 then post (-1 : Int32) w else (vb (((4 : Int32) * x3) + (1 : Int32)) 221 && fz ((w.2.1 341 (((4 : Int32) * x3) + (1 : Int32)).toNatClampNeg)) (fun x5_2 => zX11_width (fun r_3 w_4 => fz (((r_3 - (1 : Int32)) - x4)) (fun x4_5 => zX11_rowOf (fun r_6 w_7 => (if ((r_6 >>> (x4_5 &&& 31)) &&& (1 : Int32)) = 0 then (vb (((4 : Int32) * x3) + (2 : Int32)) 221 && post (w_7.2.1 341 (((4 : Int32) * x3) + (2 : Int32)).toNatClampNeg) w_7) else zX11_thumb_42 post n x5_2 x4_5 w_7)) x5_2 w_4)) w)))
theorem tX11_thumb_42  {post : Int32 → Wd → Prop} {pb : Int32 → Vd → Bool} (hp : ∀ (r : Int32) (w : Wd), pb r (prj w) = true → post r w) : ∀ (n : Nat) (x3 : Int32) (x4 : Int32) (w : Wd), zX11_thumb_42  pb  n x3 x4 (prj w) = true → pX11_thumb_42  post  n x3 x4 w := by
  intro n
  induction n with
  | zero => intro x3 x4 w h; exact absurd (show false = true from h) (by decide)
  | succ n ih =>
    intro x3 x4 w h
    unfold pX11_thumb_42
    unfold zX11_thumb_42 at h
    refine br_i h (fun c h => ?_) (fun c h => ?_)
    · exact hp _ _ h
    · refine gd_v h (fun h => ?_)
      refine fa_i h (fun x5_2 ex5_2 h => ?_)
      refine tX11_width (fun r_3 w_4 h => ?_)  h
      refine fa_i h (fun x4_5 ex4_5 h => ?_)
      refine tX11_rowOf (fun r_6 w_7 h => ?_)  h
      refine br_n h (fun c h => ?_) (fun c h => ?_)
      · exact ih _ _ _ h
      · refine gd_v h (fun h => ?_)
        exact hp _ _ h
def zX11_thumb (post : Int32 → Vd → Bool) (x1 : Int32) (x2 : Int32) (w : Vd) : Bool := zX11_isSeal (fun r_1 w_2 => (if r_1 = 0 then post (-2 : Int32) w_2 else zX11_width (fun r_4 w_5 => zX11_isIn (fun r_6 w_7 => (if r_6 = 0 then post (-2 : Int32) w_7 else zX11_rowOf (fun r_9 w_10 => (if ((r_9 >>> (x2 &&& 31)) &&& (1 : Int32)) = 0 then post (-2 : Int32) w_10 else zX11_thumb_42 post 70000 x1 x2 w_10)) x1 w_7)) x2 (0 : Int32) (r_4 - (1 : Int32)) w_5) w_2)) x1 w
theorem tX11_thumb  {post : Int32 → Wd → Prop} {pb : Int32 → Vd → Bool} (hp : ∀ (r : Int32) (w : Wd), pb r (prj w) = true → post r w) {x1 : Int32} {x2 : Int32} {w : Wd} (h : zX11_thumb  pb  x1 x2 (prj w) = true) : pX11_thumb  post  x1 x2 w := by
  unfold pX11_thumb
  unfold zX11_thumb at h
  refine tX11_isSeal (fun r_1 w_2 h => ?_)  h
  refine br_i h (fun c h => ?_) (fun c h => ?_)
  · exact hp _ _ h
  · refine tX11_width (fun r_4 w_5 h => ?_)  h
    refine tX11_isIn (fun r_6 w_7 h => ?_)  h
    refine br_i h (fun c h => ?_) (fun c h => ?_)
    · exact hp _ _ h
    · refine tX11_rowOf (fun r_9 w_10 h => ?_)  h
      refine br_n h (fun c h => ?_) (fun c h => ?_)
      · refine ⟨70000, ?_⟩
        exact tX11_thumb_42 hp _ _ _ _ h
      · exact hp _ _ h
def zX11_layShares_169 (k142 : Int32 → Int32 → Int32 → Int32 → Vd → Bool) (post : Vd → Bool) (x2 : Int32) (x4 : Int32) (x5 : Int32) (x6 : Int32) (w : Vd) : Bool := fz (x6 + (1 : Int32)) (fun x6_1 => k142 x2 x4 x5 x6_1 w)
theorem tX11_layShares_169 {k142 : Int32 → Int32 → Int32 → Int32 → Wd → Prop} {k142b : Int32 → Int32 → Int32 → Int32 → Vd → Bool} {post : Wd → Prop} {pb : Vd → Bool} (hk142 : ∀ (y0 : Int32) (y1 : Int32) (y2 : Int32) (y3 : Int32) (w : Wd), k142b y0 y1 y2 y3 (prj w) = true → k142 y0 y1 y2 y3 w) (hp : ∀ (w : Wd), pb (prj w) = true → post w) {x2 : Int32} {x4 : Int32} {x5 : Int32} {x6 : Int32} {w : Wd} (h : zX11_layShares_169 k142b pb  x2 x4 x5 x6 (prj w) = true) : pX11_layShares_169 k142 post  x2 x4 x5 x6 w := by
  unfold pX11_layShares_169
  unfold zX11_layShares_169 at h
  refine fa_i h (fun x6_1 ex6_1 h => ?_)
  exact hk142 _ _ _ _ _ h
def zX11_layShares_142 (k131 : Int32 → Int32 → Vd → Bool) (post : Vd → Bool) : Nat → Int32 → Int32 → Int32 → Int32 → Vd → Bool
  | 0, _, _, _, _, _ => false
  | n + 1, x2, x4, x5, x6, w => (if x2 ≤ x6 then (vb x5 4 && (vb x5 4 && fw (vA w 346 x5.toNatClampNeg ((w.2.1 346 x5.toNatClampNeg) + (1 : Int32))) (fun w_2 => (vb x5 4 && fw (vA w_2 347 x5.toNatClampNeg (-1 : Int32)) (fun w_3 => fz (x4 + (-1 : Int32)) (fun x4_4 => k131 x2 x4_4 w_3)))))) else (vb x6 4 && (vb x5 4 && (if (w.2.1 347 x6.toNatClampNeg) ≤ (w.2.1 347 x5.toNatClampNeg) then zX11_layShares_169 (zX11_layShares_142 k131 post n) post x2 x4 x5 x6 w else zX11_layShares_169 (zX11_layShares_142 k131 post n) post x2 x4 x6 x6 w))))
theorem tX11_layShares_142 {k131 : Int32 → Int32 → Wd → Prop} {k131b : Int32 → Int32 → Vd → Bool} {post : Wd → Prop} {pb : Vd → Bool} (hk131 : ∀ (y0 : Int32) (y1 : Int32) (w : Wd), k131b y0 y1 (prj w) = true → k131 y0 y1 w) (hp : ∀ (w : Wd), pb (prj w) = true → post w) : ∀ (n : Nat) (x2 : Int32) (x4 : Int32) (x5 : Int32) (x6 : Int32) (w : Wd), zX11_layShares_142 k131b pb  n x2 x4 x5 x6 (prj w) = true → pX11_layShares_142 k131 post  n x2 x4 x5 x6 w := by
  intro n
  induction n with
  | zero => intro x2 x4 x5 x6 w h; exact absurd (show false = true from h) (by decide)
  | succ n ih =>
    intro x2 x4 x5 x6 w h
    unfold pX11_layShares_142
    unfold zX11_layShares_142 at h
    refine br_i h (fun c h => ?_) (fun c h => ?_)
    · refine gd_v h (fun h => ?_)
      refine gd_v h (fun h => ?_)
      refine fa_w rfl h (fun w_2 ew_2 h => ?_)
      refine gd_v h (fun h => ?_)
      refine fa_w rfl h (fun w_3 ew_3 h => ?_)
      refine fa_i h (fun x4_4 ex4_4 h => ?_)
      exact hk131 _ _ _ h
    · refine gd_v h (fun h => ?_)
      refine gd_v h (fun h => ?_)
      refine br_i h (fun c h => ?_) (fun c h => ?_)
      · exact tX11_layShares_169 ih hp  h
      · exact tX11_layShares_169 ih hp  h
def zX11_layShares_131 (post : Vd → Bool) : Nat → Int32 → Int32 → Vd → Bool
  | 0, _, _, _ => false
  | n + 1, x2, x4, w => (if x4 ≤ 0 then post w else zX11_layShares_142 (zX11_layShares_131 post n) post 70000 x2 x4 (0 : Int32) (1 : Int32) w)
theorem tX11_layShares_131  {post : Wd → Prop} {pb : Vd → Bool} (hp : ∀ (w : Wd), pb (prj w) = true → post w) : ∀ (n : Nat) (x2 : Int32) (x4 : Int32) (w : Wd), zX11_layShares_131  pb  n x2 x4 (prj w) = true → pX11_layShares_131  post  n x2 x4 w := by
  intro n
  induction n with
  | zero => intro x2 x4 w h; exact absurd (show false = true from h) (by decide)
  | succ n ih =>
    intro x2 x4 w h
    unfold pX11_layShares_131
    unfold zX11_layShares_131 at h
    refine br_i h (fun c h => ?_) (fun c h => ?_)
    · exact hp _ h
    · refine ⟨70000, ?_⟩
      exact tX11_layShares_142 ih hp _ _ _ _ _ _ h
def zX11_layShares_107 (k12 : Int32 → Int32 → Int32 → Int32 → Int32 → Vd → Bool) (post : Vd → Bool) (x1 : Int32) (x2 : Int32) (x3 : Int32) (x4 : Int32) (x5 : Int32) (t1 : Int32) (t2 : Int32) (w : Vd) : Bool := (vb t1 4 && fw (vA w 347 t1.toNatClampNeg t2) (fun w_1 => (vb x5 4 && fz ((x4 - (w_1.2.1 346 x5.toNatClampNeg))) (fun x4_2 => fz (x5 + (1 : Int32)) (fun x5_3 => k12 x1 x2 x3 x4_2 x5_3 w_1)))))
theorem tX11_layShares_107 {k12 : Int32 → Int32 → Int32 → Int32 → Int32 → Wd → Prop} {k12b : Int32 → Int32 → Int32 → Int32 → Int32 → Vd → Bool} {post : Wd → Prop} {pb : Vd → Bool} (hk12 : ∀ (y0 : Int32) (y1 : Int32) (y2 : Int32) (y3 : Int32) (y4 : Int32) (w : Wd), k12b y0 y1 y2 y3 y4 (prj w) = true → k12 y0 y1 y2 y3 y4 w) (hp : ∀ (w : Wd), pb (prj w) = true → post w) {x1 : Int32} {x2 : Int32} {x3 : Int32} {x4 : Int32} {x5 : Int32} {t1 : Int32} {t2 : Int32} {w : Wd} (h : zX11_layShares_107 k12b pb  x1 x2 x3 x4 x5 t1 t2 (prj w) = true) : pX11_layShares_107 k12 post  x1 x2 x3 x4 x5 t1 t2 w := by
  unfold pX11_layShares_107
  unfold zX11_layShares_107 at h
  refine gd_v h (fun h => ?_)
  refine fa_w rfl h (fun w_1 ew_1 h => ?_)
  refine gd_v h (fun h => ?_)
  refine fa_i h (fun x4_2 ex4_2 h => ?_)
  refine fa_i h (fun x5_3 ex5_3 h => ?_)
  exact hk12 _ _ _ _ _ _ h
def zX11_layShares_85 (k12 : Int32 → Int32 → Int32 → Int32 → Int32 → Vd → Bool) (post : Vd → Bool) (x1 : Int32) (x2 : Int32) (x3 : Int32) (x4 : Int32) (x5 : Int32) (x6 : Int32) (t1 : Int32) (t2 : Int32) (w : Vd) : Bool := (vb t1 4 && fw (vA w 346 t1.toNatClampNeg t2) (fun w_1 => (if x3 = 0 then zX11_layShares_107 k12 post x1 x2 x3 x4 x5 x5 (0 : Int32) w_1 else (if x3 = 0 then false else zX11_layShares_107 k12 post x1 x2 x3 x4 x5 x5 (((100 : Int32) * x6) - ((100 : Int32) * x6) / x3 * x3) w_1))))
theorem tX11_layShares_85 {k12 : Int32 → Int32 → Int32 → Int32 → Int32 → Wd → Prop} {k12b : Int32 → Int32 → Int32 → Int32 → Int32 → Vd → Bool} {post : Wd → Prop} {pb : Vd → Bool} (hk12 : ∀ (y0 : Int32) (y1 : Int32) (y2 : Int32) (y3 : Int32) (y4 : Int32) (w : Wd), k12b y0 y1 y2 y3 y4 (prj w) = true → k12 y0 y1 y2 y3 y4 w) (hp : ∀ (w : Wd), pb (prj w) = true → post w) {x1 : Int32} {x2 : Int32} {x3 : Int32} {x4 : Int32} {x5 : Int32} {x6 : Int32} {t1 : Int32} {t2 : Int32} {w : Wd} (h : zX11_layShares_85 k12b pb  x1 x2 x3 x4 x5 x6 t1 t2 (prj w) = true) : pX11_layShares_85 k12 post  x1 x2 x3 x4 x5 x6 t1 t2 w := by
  unfold pX11_layShares_85
  unfold zX11_layShares_85 at h
  refine gd_v h (fun h => ?_)
  refine fa_w rfl h (fun w_1 ew_1 h => ?_)
  refine br_n h (fun c h => ?_) (fun c h => ?_)
  · refine gd_n h (fun h => ?_)
    exact tX11_layShares_107 hk12 hp  h
  · exact tX11_layShares_107 hk12 hp  h
def zX11_layShares_58 (k24 : Int32 → Int32 → Int32 → Int32 → Int32 → Int32 → Int32 → Vd → Bool) (post : Vd → Bool) (x1 : Int32) (x2 : Int32) (x3 : Int32) (x4 : Int32) (x5 : Int32) (x6 : Int32) (x7 : Int32) (w : Vd) : Bool := fz (x7 + (1 : Int32)) (fun x7_1 => k24 x1 x2 x3 x4 x5 x6 x7_1 w)
theorem tX11_layShares_58 {k24 : Int32 → Int32 → Int32 → Int32 → Int32 → Int32 → Int32 → Wd → Prop} {k24b : Int32 → Int32 → Int32 → Int32 → Int32 → Int32 → Int32 → Vd → Bool} {post : Wd → Prop} {pb : Vd → Bool} (hk24 : ∀ (y0 : Int32) (y1 : Int32) (y2 : Int32) (y3 : Int32) (y4 : Int32) (y5 : Int32) (y6 : Int32) (w : Wd), k24b y0 y1 y2 y3 y4 y5 y6 (prj w) = true → k24 y0 y1 y2 y3 y4 y5 y6 w) (hp : ∀ (w : Wd), pb (prj w) = true → post w) {x1 : Int32} {x2 : Int32} {x3 : Int32} {x4 : Int32} {x5 : Int32} {x6 : Int32} {x7 : Int32} {w : Wd} (h : zX11_layShares_58 k24b pb  x1 x2 x3 x4 x5 x6 x7 (prj w) = true) : pX11_layShares_58 k24 post  x1 x2 x3 x4 x5 x6 x7 w := by
  unfold pX11_layShares_58
  unfold zX11_layShares_58 at h
  refine fa_i h (fun x7_1 ex7_1 h => ?_)
  exact hk24 _ _ _ _ _ _ _ _ h
def zX11_layShares_24 (k12 : Int32 → Int32 → Int32 → Int32 → Int32 → Vd → Bool) (post : Vd → Bool) : Nat → Int32 → Int32 → Int32 → Int32 → Int32 → Int32 → Int32 → Vd → Bool
  | 0, _, _, _, _, _, _, _, _ => false
  | n + 1, x1, x2, x3, x4, x5, x6, x7, w => zX11_width (fun r_1 w_2 => (if r_1 ≤ x7 then (if x3 = 0 then zX11_layShares_85 k12 post x1 x2 x3 x4 x5 x6 x5 (0 : Int32) w_2 else (if x3 = 0 then false else zX11_layShares_85 k12 post x1 x2 x3 x4 x5 x6 x5 (((100 : Int32) * x6) / x3) w_2)) else zX11_width (fun r_5 w_6 => (if r_5 = 0 then false else (if ((x7 * x2) / r_5) = x5 then fz ((x6 + ((x1 >>> (x7 &&& 31)) &&& (1 : Int32)))) (fun x6_8 => zX11_layShares_58 (zX11_layShares_24 k12 post n) post x1 x2 x3 x4 x5 x6_8 x7 w_6) else zX11_layShares_58 (zX11_layShares_24 k12 post n) post x1 x2 x3 x4 x5 x6 x7 w_6))) w_2)) w
theorem tX11_layShares_24 {k12 : Int32 → Int32 → Int32 → Int32 → Int32 → Wd → Prop} {k12b : Int32 → Int32 → Int32 → Int32 → Int32 → Vd → Bool} {post : Wd → Prop} {pb : Vd → Bool} (hk12 : ∀ (y0 : Int32) (y1 : Int32) (y2 : Int32) (y3 : Int32) (y4 : Int32) (w : Wd), k12b y0 y1 y2 y3 y4 (prj w) = true → k12 y0 y1 y2 y3 y4 w) (hp : ∀ (w : Wd), pb (prj w) = true → post w) : ∀ (n : Nat) (x1 : Int32) (x2 : Int32) (x3 : Int32) (x4 : Int32) (x5 : Int32) (x6 : Int32) (x7 : Int32) (w : Wd), zX11_layShares_24 k12b pb  n x1 x2 x3 x4 x5 x6 x7 (prj w) = true → pX11_layShares_24 k12 post  n x1 x2 x3 x4 x5 x6 x7 w := by
  intro n
  induction n with
  | zero => intro x1 x2 x3 x4 x5 x6 x7 w h; exact absurd (show false = true from h) (by decide)
  | succ n ih =>
    intro x1 x2 x3 x4 x5 x6 x7 w h
    unfold pX11_layShares_24
    unfold zX11_layShares_24 at h
    refine tX11_width (fun r_1 w_2 h => ?_)  h
    refine br_i h (fun c h => ?_) (fun c h => ?_)
    · refine br_n h (fun c h => ?_) (fun c h => ?_)
      · refine gd_n h (fun h => ?_)
        exact tX11_layShares_85 hk12 hp  h
      · exact tX11_layShares_85 hk12 hp  h
    · refine tX11_width (fun r_5 w_6 h => ?_)  h
      refine gd_n h (fun h => ?_)
      refine br_n h (fun c h => ?_) (fun c h => ?_)
      · exact tX11_layShares_58 ih hp  h
      · refine fa_i h (fun x6_8 ex6_8 h => ?_)
        exact tX11_layShares_58 ih hp  h
def zX11_layShares_12 (post : Vd → Bool) : Nat → Int32 → Int32 → Int32 → Int32 → Int32 → Vd → Bool
  | 0, _, _, _, _, _, _ => false
  | n + 1, x1, x2, x3, x4, x5, w => (if x2 ≤ x5 then (if x3 = 0 then post w else zX11_layShares_131 post 70000 x2 x4 w) else zX11_layShares_24 (zX11_layShares_12 post n) post 70000 x1 x2 x3 x4 x5 (0 : Int32) (0 : Int32) w)
theorem tX11_layShares_12  {post : Wd → Prop} {pb : Vd → Bool} (hp : ∀ (w : Wd), pb (prj w) = true → post w) : ∀ (n : Nat) (x1 : Int32) (x2 : Int32) (x3 : Int32) (x4 : Int32) (x5 : Int32) (w : Wd), zX11_layShares_12  pb  n x1 x2 x3 x4 x5 (prj w) = true → pX11_layShares_12  post  n x1 x2 x3 x4 x5 w := by
  intro n
  induction n with
  | zero => intro x1 x2 x3 x4 x5 w h; exact absurd (show false = true from h) (by decide)
  | succ n ih =>
    intro x1 x2 x3 x4 x5 w h
    unfold pX11_layShares_12
    unfold zX11_layShares_12 at h
    refine br_i h (fun c h => ?_) (fun c h => ?_)
    · refine br_n h (fun c h => ?_) (fun c h => ?_)
      · refine ⟨70000, ?_⟩
        exact tX11_layShares_131 hp _ _ _ _ h
      · exact hp _ h
    · refine ⟨70000, ?_⟩
      exact tX11_layShares_24 ih hp _ _ _ _ _ _ _ _ _ h
def zX11_layShares (post : Vd → Bool) (x1 : Int32) (x2 : Int32) (w : Vd) : Bool := zX11_bitsOf (fun r_1 w_2 => zX11_layShares_12 post 70000 x1 x2 r_1 (100 : Int32) (0 : Int32) w_2) x1 w
theorem tX11_layShares  {post : Wd → Prop} {pb : Vd → Bool} (hp : ∀ (w : Wd), pb (prj w) = true → post w) {x1 : Int32} {x2 : Int32} {w : Wd} (h : zX11_layShares  pb  x1 x2 (prj w) = true) : pX11_layShares  post  x1 x2 w := by
  unfold pX11_layShares
  unfold zX11_layShares at h
  refine tX11_bitsOf (fun r_1 w_2 h => ?_)  h
  refine ⟨70000, ?_⟩
  exact tX11_layShares_12 hp _ _ _ _ _ _ _ h
def zX11_share (post : Int32 → Vd → Bool) (x1 : Int32) (x2 : Int32) (x3 : Int32) (w : Vd) : Bool := zX11_isRow (fun r_1 w_2 => (if r_1 = 0 then post (-1 : Int32) w_2 else zX11_isIn (fun r_4 w_5 => (if r_4 = 0 then post (-1 : Int32) w_5 else zX11_isIn (fun r_7 w_8 => (if r_7 = 0 then post (-1 : Int32) w_8 else zX11_layShares (fun w_10 => (vb x3 4 && post (w_10.2.1 346 x3.toNatClampNeg) w_10)) x1 x2 w_8)) x3 (0 : Int32) (x2 - (1 : Int32)) w_5)) x2 (1 : Int32) (4 : Int32) w_2)) x1 w
theorem tX11_share  {post : Int32 → Wd → Prop} {pb : Int32 → Vd → Bool} (hp : ∀ (r : Int32) (w : Wd), pb r (prj w) = true → post r w) {x1 : Int32} {x2 : Int32} {x3 : Int32} {w : Wd} (h : zX11_share  pb  x1 x2 x3 (prj w) = true) : pX11_share  post  x1 x2 x3 w := by
  unfold pX11_share
  unfold zX11_share at h
  refine tX11_isRow (fun r_1 w_2 h => ?_)  h
  refine br_i h (fun c h => ?_) (fun c h => ?_)
  · exact hp _ _ h
  · refine tX11_isIn (fun r_4 w_5 h => ?_)  h
    refine br_i h (fun c h => ?_) (fun c h => ?_)
    · exact hp _ _ h
    · refine tX11_isIn (fun r_7 w_8 h => ?_)  h
      refine br_n h (fun c h => ?_) (fun c h => ?_)
      · refine tX11_layShares (fun w_10 h => ?_)  h
        refine gd_v h (fun h => ?_)
        exact hp _ _ h
      · exact hp _ _ h
def zX11_forge_101 (k40 : Int32 → Int32 → Int32 → Int32 → Int32 → Int32 → Int32 → Int32 → Vd → Bool) (post : Int32 → Vd → Bool) (x1 : Int32) (x2 : Int32) (x3 : Int32) (x4 : Int32) (x5 : Int32) (x6 : Int32) (x7 : Int32) (x8 : Int32) (w : Vd) : Bool := fz (x8 + (1 : Int32)) (fun x8_1 => k40 x1 x2 x3 x4 x5 x6 x7 x8_1 w)
theorem tX11_forge_101 {k40 : Int32 → Int32 → Int32 → Int32 → Int32 → Int32 → Int32 → Int32 → Wd → Prop} {k40b : Int32 → Int32 → Int32 → Int32 → Int32 → Int32 → Int32 → Int32 → Vd → Bool} {post : Int32 → Wd → Prop} {pb : Int32 → Vd → Bool} (hk40 : ∀ (y0 : Int32) (y1 : Int32) (y2 : Int32) (y3 : Int32) (y4 : Int32) (y5 : Int32) (y6 : Int32) (y7 : Int32) (w : Wd), k40b y0 y1 y2 y3 y4 y5 y6 y7 (prj w) = true → k40 y0 y1 y2 y3 y4 y5 y6 y7 w) (hp : ∀ (r : Int32) (w : Wd), pb r (prj w) = true → post r w) {x1 : Int32} {x2 : Int32} {x3 : Int32} {x4 : Int32} {x5 : Int32} {x6 : Int32} {x7 : Int32} {x8 : Int32} {w : Wd} (h : zX11_forge_101 k40b pb  x1 x2 x3 x4 x5 x6 x7 x8 (prj w) = true) : pX11_forge_101 k40 post  x1 x2 x3 x4 x5 x6 x7 x8 w := by
  unfold pX11_forge_101
  unfold zX11_forge_101 at h
  refine fa_i h (fun x8_1 ex8_1 h => ?_)
  exact hk40 _ _ _ _ _ _ _ _ _ h
def zX11_forge_76 (k40 : Int32 → Int32 → Int32 → Int32 → Int32 → Int32 → Int32 → Int32 → Vd → Bool) (post : Int32 → Vd → Bool) (x1 : Int32) (x2 : Int32) (x3 : Int32) (x4 : Int32) (x5 : Int32) (x6 : Int32) (x7 : Int32) (x8 : Int32) (x9 : Int32) (w : Vd) : Bool := false
theorem tX11_forge_76 {k40 : Int32 → Int32 → Int32 → Int32 → Int32 → Int32 → Int32 → Int32 → Wd → Prop} {k40b : Int32 → Int32 → Int32 → Int32 → Int32 → Int32 → Int32 → Int32 → Vd → Bool} {post : Int32 → Wd → Prop} {pb : Int32 → Vd → Bool} (hk40 : ∀ (y0 : Int32) (y1 : Int32) (y2 : Int32) (y3 : Int32) (y4 : Int32) (y5 : Int32) (y6 : Int32) (y7 : Int32) (w : Wd), k40b y0 y1 y2 y3 y4 y5 y6 y7 (prj w) = true → k40 y0 y1 y2 y3 y4 y5 y6 y7 w) (hp : ∀ (r : Int32) (w : Wd), pb r (prj w) = true → post r w) {x1 : Int32} {x2 : Int32} {x3 : Int32} {x4 : Int32} {x5 : Int32} {x6 : Int32} {x7 : Int32} {x8 : Int32} {x9 : Int32} {w : Wd} (h : zX11_forge_76 k40b pb  x1 x2 x3 x4 x5 x6 x7 x8 x9 (prj w) = true) : pX11_forge_76 k40 post  x1 x2 x3 x4 x5 x6 x7 x8 x9 w := by
  unfold pX11_forge_76
  unfold zX11_forge_76 at h
  exact absurd (show false = true from h) (by decide)
def zX11_forge_40 (post : Int32 → Vd → Bool) : Nat → Int32 → Int32 → Int32 → Int32 → Int32 → Int32 → Int32 → Int32 → Vd → Bool
  | 0, _, _, _, _, _, _, _, _, _ => false
  | n + 1, x1, x2, x3, x4, x5, x6, x7, x8, w => zX11_width (fun r_1 w_2 => (if ((1 : Int32) <<< (r_1 &&& 31)) ≤ x8 then (if 0 ≤ x6 then (if x5 = 0 then post x7 w_2 else post x6 w_2) else post (-1 : Int32) w_2) else zX11_rowOf (fun r_6 w_7 => zX11_bitsOf (fun r_8 w_9 => (if x6 < 0 then zX11_forge_76 (zX11_forge_40 post n) post x1 x2 x3 x4 x5 x6 x7 x8 r_8 w_9 else (if x7 ≤ r_8 then zX11_forge_101 (zX11_forge_40 post n) post x1 x2 x3 x4 x5 x6 x7 x8 w_9 else zX11_forge_76 (zX11_forge_40 post n) post x1 x2 x3 x4 x5 x6 x7 x8 r_8 w_9))) (x8 ^^^ r_6) w_7) x1 w_2)) w
theorem tX11_forge_40  {post : Int32 → Wd → Prop} {pb : Int32 → Vd → Bool} (hp : ∀ (r : Int32) (w : Wd), pb r (prj w) = true → post r w) : ∀ (n : Nat) (x1 : Int32) (x2 : Int32) (x3 : Int32) (x4 : Int32) (x5 : Int32) (x6 : Int32) (x7 : Int32) (x8 : Int32) (w : Wd), zX11_forge_40  pb  n x1 x2 x3 x4 x5 x6 x7 x8 (prj w) = true → pX11_forge_40  post  n x1 x2 x3 x4 x5 x6 x7 x8 w := by
  intro n
  induction n with
  | zero => intro x1 x2 x3 x4 x5 x6 x7 x8 w h; exact absurd (show false = true from h) (by decide)
  | succ n ih =>
    intro x1 x2 x3 x4 x5 x6 x7 x8 w h
    unfold pX11_forge_40
    unfold zX11_forge_40 at h
    refine tX11_width (fun r_1 w_2 h => ?_)  h
    refine br_i h (fun c h => ?_) (fun c h => ?_)
    · refine br_i h (fun c h => ?_) (fun c h => ?_)
      · refine br_n h (fun c h => ?_) (fun c h => ?_)
        · exact hp _ _ h
        · exact hp _ _ h
      · exact hp _ _ h
    · refine tX11_rowOf (fun r_6 w_7 h => ?_)  h
      refine tX11_bitsOf (fun r_8 w_9 h => ?_)  h
      refine br_i h (fun c h => ?_) (fun c h => ?_)
      · exact tX11_forge_76 ih hp  h
      · refine br_i h (fun c h => ?_) (fun c h => ?_)
        · exact tX11_forge_101 ih hp  h
        · exact tX11_forge_76 ih hp  h
def zX11_forge (post : Int32 → Vd → Bool) (x1 : Int32) (x2 : Int32) (x3 : Int32) (x4 : Int32) (x5 : Int32) (w : Vd) : Bool := zX11_canCast (fun r_1 w_2 => (if r_1 = 0 then post (-1 : Int32) w_2 else zX11_isRow (fun r_4 w_5 => (if r_4 = 0 then post (-1 : Int32) w_5 else zX11_isIn (fun r_7 w_8 => (if r_7 = 0 then post (-1 : Int32) w_8 else zX11_forge_40 post 70000 x1 x2 x3 x4 x5 (-1 : Int32) (0 : Int32) (0 : Int32) w_8)) x5 (0 : Int32) (1 : Int32) w_5)) x4 w_2)) x1 x2 x3 w
theorem tX11_forge  {post : Int32 → Wd → Prop} {pb : Int32 → Vd → Bool} (hp : ∀ (r : Int32) (w : Wd), pb r (prj w) = true → post r w) {x1 : Int32} {x2 : Int32} {x3 : Int32} {x4 : Int32} {x5 : Int32} {w : Wd} (h : zX11_forge  pb  x1 x2 x3 x4 x5 (prj w) = true) : pX11_forge  post  x1 x2 x3 x4 x5 w := by
  unfold pX11_forge
  unfold zX11_forge at h
  refine tX11_canCast (fun r_1 w_2 h => ?_)  h
  refine br_i h (fun c h => ?_) (fun c h => ?_)
  · exact hp _ _ h
  · refine tX11_isRow (fun r_4 w_5 h => ?_)  h
    refine br_i h (fun c h => ?_) (fun c h => ?_)
    · exact hp _ _ h
    · refine tX11_isIn (fun r_7 w_8 h => ?_)  h
      refine br_n h (fun c h => ?_) (fun c h => ?_)
      · refine ⟨70000, ?_⟩
        exact tX11_forge_40 hp _ _ _ _ _ _ _ _ _ _ h
      · exact hp _ _ h
def zX11_nearest_115 (k27 : Int32 → Int32 → Int32 → Int32 → Int32 → Vd → Bool) (post : Int32 → Vd → Bool) (x1 : Int32) (x2 : Int32) (x3 : Int32) (x4 : Int32) (x5 : Int32) (w : Vd) : Bool := fz (x5 + (1 : Int32)) (fun x5_1 => k27 x1 x2 x3 x4 x5_1 w)
theorem tX11_nearest_115 {k27 : Int32 → Int32 → Int32 → Int32 → Int32 → Wd → Prop} {k27b : Int32 → Int32 → Int32 → Int32 → Int32 → Vd → Bool} {post : Int32 → Wd → Prop} {pb : Int32 → Vd → Bool} (hk27 : ∀ (y0 : Int32) (y1 : Int32) (y2 : Int32) (y3 : Int32) (y4 : Int32) (w : Wd), k27b y0 y1 y2 y3 y4 (prj w) = true → k27 y0 y1 y2 y3 y4 w) (hp : ∀ (r : Int32) (w : Wd), pb r (prj w) = true → post r w) {x1 : Int32} {x2 : Int32} {x3 : Int32} {x4 : Int32} {x5 : Int32} {w : Wd} (h : zX11_nearest_115 k27b pb  x1 x2 x3 x4 x5 (prj w) = true) : pX11_nearest_115 k27 post  x1 x2 x3 x4 x5 w := by
  unfold pX11_nearest_115
  unfold zX11_nearest_115 at h
  refine fa_i h (fun x5_1 ex5_1 h => ?_)
  exact hk27 _ _ _ _ _ _ h
def zX11_nearest_108 (k27 : Int32 → Int32 → Int32 → Int32 → Int32 → Vd → Bool) (post : Int32 → Vd → Bool) (x1 : Int32) (x2 : Int32) (x5 : Int32) (x7 : Int32) (w : Vd) : Bool := zX11_nearest_115 k27 post x1 x2 x5 x7 x5 w
theorem tX11_nearest_108 {k27 : Int32 → Int32 → Int32 → Int32 → Int32 → Wd → Prop} {k27b : Int32 → Int32 → Int32 → Int32 → Int32 → Vd → Bool} {post : Int32 → Wd → Prop} {pb : Int32 → Vd → Bool} (hk27 : ∀ (y0 : Int32) (y1 : Int32) (y2 : Int32) (y3 : Int32) (y4 : Int32) (w : Wd), k27b y0 y1 y2 y3 y4 (prj w) = true → k27 y0 y1 y2 y3 y4 w) (hp : ∀ (r : Int32) (w : Wd), pb r (prj w) = true → post r w) {x1 : Int32} {x2 : Int32} {x5 : Int32} {x7 : Int32} {w : Wd} (h : zX11_nearest_108 k27b pb  x1 x2 x5 x7 (prj w) = true) : pX11_nearest_108 k27 post  x1 x2 x5 x7 w := by
  unfold pX11_nearest_108
  unfold zX11_nearest_108 at h
  exact tX11_nearest_115 hk27 hp  h
def zX11_nearest_88 (k27 : Int32 → Int32 → Int32 → Int32 → Int32 → Vd → Bool) (post : Int32 → Vd → Bool) (x1 : Int32) (x2 : Int32) (x3 : Int32) (x4 : Int32) (x5 : Int32) (t0 : Int32) (t1 : Int32) (w : Vd) : Bool := zX11_bitsOf (fun r_1 w_2 => (if x3 < 0 then zX11_nearest_108 k27 post x1 x2 x5 r_1 w_2 else (if r_1 < x4 then zX11_nearest_108 k27 post x1 x2 x5 r_1 w_2 else zX11_nearest_115 k27 post x1 x2 x3 x4 x5 w_2))) (t0 ^^^ t1) w
theorem tX11_nearest_88 {k27 : Int32 → Int32 → Int32 → Int32 → Int32 → Wd → Prop} {k27b : Int32 → Int32 → Int32 → Int32 → Int32 → Vd → Bool} {post : Int32 → Wd → Prop} {pb : Int32 → Vd → Bool} (hk27 : ∀ (y0 : Int32) (y1 : Int32) (y2 : Int32) (y3 : Int32) (y4 : Int32) (w : Wd), k27b y0 y1 y2 y3 y4 (prj w) = true → k27 y0 y1 y2 y3 y4 w) (hp : ∀ (r : Int32) (w : Wd), pb r (prj w) = true → post r w) {x1 : Int32} {x2 : Int32} {x3 : Int32} {x4 : Int32} {x5 : Int32} {t0 : Int32} {t1 : Int32} {w : Wd} (h : zX11_nearest_88 k27b pb  x1 x2 x3 x4 x5 t0 t1 (prj w) = true) : pX11_nearest_88 k27 post  x1 x2 x3 x4 x5 t0 t1 w := by
  unfold pX11_nearest_88
  unfold zX11_nearest_88 at h
  refine tX11_bitsOf (fun r_1 w_2 h => ?_)  h
  refine br_i h (fun c h => ?_) (fun c h => ?_)
  · exact tX11_nearest_108 hk27 hp  h
  · refine br_i h (fun c h => ?_) (fun c h => ?_)
    · exact tX11_nearest_108 hk27 hp  h
    · exact tX11_nearest_115 hk27 hp  h
def zX11_nearest_27 (post : Int32 → Vd → Bool) : Nat → Int32 → Int32 → Int32 → Int32 → Int32 → Vd → Bool
  | 0, _, _, _, _, _, _ => false
  | n + 1, x1, x2, x3, x4, x5, w => (if ((2 : Int32) * (w.2.1 341 (216 : Int32).toNatClampNeg)) ≤ x5 then (if x2 = 0 then post x4 w else (if x2 = (1 : Int32) then (if (w.2.1 341 (216 : Int32).toNatClampNeg) = 0 then false else post (x3 - x3 / (w.2.1 341 (216 : Int32).toNatClampNeg) * (w.2.1 341 (216 : Int32).toNatClampNeg)) w) else (if (w.2.1 341 (216 : Int32).toNatClampNeg) = 0 then false else post (x3 / (w.2.1 341 (216 : Int32).toNatClampNeg)) w))) else (if (w.2.1 341 (216 : Int32).toNatClampNeg) = 0 then false else fz ((x5 - x5 / (w.2.1 341 (216 : Int32).toNatClampNeg) * (w.2.1 341 (216 : Int32).toNatClampNeg))) (fun x6_4 => (if (w.2.1 341 (216 : Int32).toNatClampNeg) ≤ x5 then zX11_rowOf (fun r_6 w_7 => zX11_nearest_88 (zX11_nearest_27 post n) post x1 x2 x3 x4 x5 x1 r_6 w_7) x6_4 w else zX11_rowOf (fun r_8 w_9 => zX11_turnedRow (fun r_10 w_11 => zX11_nearest_88 (zX11_nearest_27 post n) post x1 x2 x3 x4 x5 x1 r_10 w_11) r_8 w_9) x6_4 w))))
theorem tX11_nearest_27  {post : Int32 → Wd → Prop} {pb : Int32 → Vd → Bool} (hp : ∀ (r : Int32) (w : Wd), pb r (prj w) = true → post r w) : ∀ (n : Nat) (x1 : Int32) (x2 : Int32) (x3 : Int32) (x4 : Int32) (x5 : Int32) (w : Wd), zX11_nearest_27  pb  n x1 x2 x3 x4 x5 (prj w) = true → pX11_nearest_27  post  n x1 x2 x3 x4 x5 w := by
  intro n
  induction n with
  | zero => intro x1 x2 x3 x4 x5 w h; exact absurd (show false = true from h) (by decide)
  | succ n ih =>
    intro x1 x2 x3 x4 x5 w h
    unfold pX11_nearest_27
    unfold zX11_nearest_27 at h
    refine br_i h (fun c h => ?_) (fun c h => ?_)
    · refine br_n h (fun c h => ?_) (fun c h => ?_)
      · refine br_n h (fun c h => ?_) (fun c h => ?_)
        · refine gd_n h (fun h => ?_)
          exact hp _ _ h
        · refine gd_n h (fun h => ?_)
          exact hp _ _ h
      · exact hp _ _ h
    · refine gd_n h (fun h => ?_)
      refine fa_i h (fun x6_4 ex6_4 h => ?_)
      refine br_i h (fun c h => ?_) (fun c h => ?_)
      · refine tX11_rowOf (fun r_6 w_7 h => ?_)  h
        exact tX11_nearest_88 ih hp  h
      · refine tX11_rowOf (fun r_8 w_9 h => ?_)  h
        refine tX11_turnedRow (fun r_10 w_11 h => ?_)  h
        exact tX11_nearest_88 ih hp  h
def zX11_nearest (post : Int32 → Vd → Bool) (x1 : Int32) (x2 : Int32) (w : Vd) : Bool := zX11_isRow (fun r_1 w_2 => (if r_1 = 0 then post (-1 : Int32) w_2 else zX11_isIn (fun r_4 w_5 => (if r_4 = 0 then post (-1 : Int32) w_5 else zX11_nearest_27 post 70000 x1 x2 (-1 : Int32) (0 : Int32) (0 : Int32) w_5)) x2 (0 : Int32) (2 : Int32) w_2)) x1 w
theorem tX11_nearest  {post : Int32 → Wd → Prop} {pb : Int32 → Vd → Bool} (hp : ∀ (r : Int32) (w : Wd), pb r (prj w) = true → post r w) {x1 : Int32} {x2 : Int32} {w : Wd} (h : zX11_nearest  pb  x1 x2 (prj w) = true) : pX11_nearest  post  x1 x2 w := by
  unfold pX11_nearest
  unfold zX11_nearest at h
  refine tX11_isRow (fun r_1 w_2 h => ?_)  h
  refine br_i h (fun c h => ?_) (fun c h => ?_)
  · exact hp _ _ h
  · refine tX11_isIn (fun r_4 w_5 h => ?_)  h
    refine br_n h (fun c h => ?_) (fun c h => ?_)
    · refine ⟨70000, ?_⟩
      exact tX11_nearest_27 hp _ _ _ _ _ _ _ h
    · exact hp _ _ h
def zX11_common_78 (post : Int32 → Vd → Bool) : Nat → Int32 → Int32 → Int32 → Vd → Bool
  | 0, _, _, _, _ => false
  | n + 1, x1, x2, x3, w => (if (w.2.1 341 (217 : Int32).toNatClampNeg) ≤ x3 then post x2 w else (if x1 = (2 : Int32) then (vb ((96 : Int32) + ((3 : Int32) * x3)) 221 && fz ((x2 &&& (w.2.1 341 ((96 : Int32) + ((3 : Int32) * x3)).toNatClampNeg))) (fun x2_3 => fz (x3 + (1 : Int32)) (fun x3_4 => zX11_common_78 post n x1 x2_3 x3_4 w))) else post x2 w))
theorem tX11_common_78  {post : Int32 → Wd → Prop} {pb : Int32 → Vd → Bool} (hp : ∀ (r : Int32) (w : Wd), pb r (prj w) = true → post r w) : ∀ (n : Nat) (x1 : Int32) (x2 : Int32) (x3 : Int32) (w : Wd), zX11_common_78  pb  n x1 x2 x3 (prj w) = true → pX11_common_78  post  n x1 x2 x3 w := by
  intro n
  induction n with
  | zero => intro x1 x2 x3 w h; exact absurd (show false = true from h) (by decide)
  | succ n ih =>
    intro x1 x2 x3 w h
    unfold pX11_common_78
    unfold zX11_common_78 at h
    refine br_i h (fun c h => ?_) (fun c h => ?_)
    · exact hp _ _ h
    · refine br_n h (fun c h => ?_) (fun c h => ?_)
      · exact hp _ _ h
      · refine gd_v h (fun h => ?_)
        refine fa_i h (fun x2_3 ex2_3 h => ?_)
        refine fa_i h (fun x3_4 ex3_4 h => ?_)
        exact ih _ _ _ _ h
def zX11_common_76 (post : Int32 → Vd → Bool) (x1 : Int32) (x2 : Int32) (w : Vd) : Bool := zX11_common_78 post 70000 x1 x2 (0 : Int32) w
theorem tX11_common_76  {post : Int32 → Wd → Prop} {pb : Int32 → Vd → Bool} (hp : ∀ (r : Int32) (w : Wd), pb r (prj w) = true → post r w) {x1 : Int32} {x2 : Int32} {w : Wd} (h : zX11_common_76  pb  x1 x2 (prj w) = true) : pX11_common_76  post  x1 x2 w := by
  unfold pX11_common_76
  unfold zX11_common_76 at h
  refine ⟨70000, ?_⟩
  exact tX11_common_78 hp _ _ _ _ _ h
def zX11_common_69 (k31 : Int32 → Int32 → Int32 → Vd → Bool) (post : Int32 → Vd → Bool) (x1 : Int32) (x3 : Int32) (t0 : Int32) (w : Vd) : Bool := fz (x3 + (1 : Int32)) (fun x3_1 => k31 x1 t0 x3_1 w)
theorem tX11_common_69 {k31 : Int32 → Int32 → Int32 → Wd → Prop} {k31b : Int32 → Int32 → Int32 → Vd → Bool} {post : Int32 → Wd → Prop} {pb : Int32 → Vd → Bool} (hk31 : ∀ (y0 : Int32) (y1 : Int32) (y2 : Int32) (w : Wd), k31b y0 y1 y2 (prj w) = true → k31 y0 y1 y2 w) (hp : ∀ (r : Int32) (w : Wd), pb r (prj w) = true → post r w) {x1 : Int32} {x3 : Int32} {t0 : Int32} {w : Wd} (h : zX11_common_69 k31b pb  x1 x3 t0 (prj w) = true) : pX11_common_69 k31 post  x1 x3 t0 w := by
  unfold pX11_common_69
  unfold zX11_common_69 at h
  refine fa_i h (fun x3_1 ex3_1 h => ?_)
  exact hk31 _ _ _ _ h
def zX11_common_31 (post : Int32 → Vd → Bool) : Nat → Int32 → Int32 → Int32 → Vd → Bool
  | 0, _, _, _, _ => false
  | n + 1, x1, x2, x3, w => (if (w.2.1 341 (216 : Int32).toNatClampNeg) ≤ x3 then zX11_common_76 post x1 x2 w else (if (2 : Int32) ≤ x1 then zX11_common_76 post x1 x2 w else (if x1 = 0 then zX11_rowOf (fun r_6 w_7 => zX11_common_69 (zX11_common_31 post n) post x1 x3 (x2 &&& r_6) w_7) x3 w else zX11_rowOf (fun r_4 w_5 => zX11_common_69 (zX11_common_31 post n) post x1 x3 (x2 ||| r_4) w_5) x3 w)))
theorem tX11_common_31  {post : Int32 → Wd → Prop} {pb : Int32 → Vd → Bool} (hp : ∀ (r : Int32) (w : Wd), pb r (prj w) = true → post r w) : ∀ (n : Nat) (x1 : Int32) (x2 : Int32) (x3 : Int32) (w : Wd), zX11_common_31  pb  n x1 x2 x3 (prj w) = true → pX11_common_31  post  n x1 x2 x3 w := by
  intro n
  induction n with
  | zero => intro x1 x2 x3 w h; exact absurd (show false = true from h) (by decide)
  | succ n ih =>
    intro x1 x2 x3 w h
    unfold pX11_common_31
    unfold zX11_common_31 at h
    refine br_i h (fun c h => ?_) (fun c h => ?_)
    · exact tX11_common_76 hp  h
    · refine br_i h (fun c h => ?_) (fun c h => ?_)
      · exact tX11_common_76 hp  h
      · refine br_n h (fun c h => ?_) (fun c h => ?_)
        · refine tX11_rowOf (fun r_4 w_5 h => ?_)  h
          exact tX11_common_69 ih hp  h
        · refine tX11_rowOf (fun r_6 w_7 h => ?_)  h
          exact tX11_common_69 ih hp  h
def zX11_common_28 (post : Int32 → Vd → Bool) (x1 : Int32) (t0 : Int32) (w : Vd) : Bool := zX11_common_31 post 70000 x1 t0 (0 : Int32) w
theorem tX11_common_28  {post : Int32 → Wd → Prop} {pb : Int32 → Vd → Bool} (hp : ∀ (r : Int32) (w : Wd), pb r (prj w) = true → post r w) {x1 : Int32} {t0 : Int32} {w : Wd} (h : zX11_common_28  pb  x1 t0 (prj w) = true) : pX11_common_28  post  x1 t0 w := by
  unfold pX11_common_28
  unfold zX11_common_28 at h
  refine ⟨70000, ?_⟩
  exact tX11_common_31 hp _ _ _ _ _ h
def zX11_common (post : Int32 → Vd → Bool) (x1 : Int32) (w : Vd) : Bool := zX11_isIn (fun r_1 w_2 => (if r_1 = 0 then post (-1 : Int32) w_2 else (if x1 = (1 : Int32) then zX11_common_28 post x1 (0 : Int32) w_2 else zX11_width (fun r_5 w_6 => zX11_common_28 post x1 (((1 : Int32) <<< (r_5 &&& 31)) - (1 : Int32)) w_6) w_2))) x1 (0 : Int32) (2 : Int32) w
theorem tX11_common  {post : Int32 → Wd → Prop} {pb : Int32 → Vd → Bool} (hp : ∀ (r : Int32) (w : Wd), pb r (prj w) = true → post r w) {x1 : Int32} {w : Wd} (h : zX11_common  pb  x1 (prj w) = true) : pX11_common  post  x1 w := by
  unfold pX11_common
  unfold zX11_common at h
  refine tX11_isIn (fun r_1 w_2 h => ?_)  h
  refine br_n h (fun c h => ?_) (fun c h => ?_)
  · refine br_n h (fun c h => ?_) (fun c h => ?_)
    · refine tX11_width (fun r_5 w_6 h => ?_)  h
      exact tX11_common_28 hp  h
    · exact tX11_common_28 hp  h
  · exact hp _ _ h
def zX11_alike_62 (k15 : Int32 → Int32 → Int32 → Int32 → Vd → Bool) (post : Int32 → Vd → Bool) (x1 : Int32) (x2 : Int32) (x3 : Int32) (x4 : Int32) (w : Vd) : Bool := fz (x4 + (1 : Int32)) (fun x4_1 => k15 x1 x2 x3 x4_1 w)
theorem tX11_alike_62 {k15 : Int32 → Int32 → Int32 → Int32 → Wd → Prop} {k15b : Int32 → Int32 → Int32 → Int32 → Vd → Bool} {post : Int32 → Wd → Prop} {pb : Int32 → Vd → Bool} (hk15 : ∀ (y0 : Int32) (y1 : Int32) (y2 : Int32) (y3 : Int32) (w : Wd), k15b y0 y1 y2 y3 (prj w) = true → k15 y0 y1 y2 y3 w) (hp : ∀ (r : Int32) (w : Wd), pb r (prj w) = true → post r w) {x1 : Int32} {x2 : Int32} {x3 : Int32} {x4 : Int32} {w : Wd} (h : zX11_alike_62 k15b pb  x1 x2 x3 x4 (prj w) = true) : pX11_alike_62 k15 post  x1 x2 x3 x4 w := by
  unfold pX11_alike_62
  unfold zX11_alike_62 at h
  refine fa_i h (fun x4_1 ex4_1 h => ?_)
  exact hk15 _ _ _ _ _ h
def zX11_alike_51 (k15 : Int32 → Int32 → Int32 → Int32 → Vd → Bool) (post : Int32 → Vd → Bool) (x1 : Int32) (x2 : Int32) (x3 : Int32) (x4 : Int32) (t0 : Int32) (w : Vd) : Bool := (if t0 = x1 then fz ((x3 ||| ((1 : Int32) <<< (x4 &&& 31)))) (fun x3_2 => zX11_alike_62 k15 post x1 x2 x3_2 x4 w) else zX11_alike_62 k15 post x1 x2 x3 x4 w)
theorem tX11_alike_51 {k15 : Int32 → Int32 → Int32 → Int32 → Wd → Prop} {k15b : Int32 → Int32 → Int32 → Int32 → Vd → Bool} {post : Int32 → Wd → Prop} {pb : Int32 → Vd → Bool} (hk15 : ∀ (y0 : Int32) (y1 : Int32) (y2 : Int32) (y3 : Int32) (w : Wd), k15b y0 y1 y2 y3 (prj w) = true → k15 y0 y1 y2 y3 w) (hp : ∀ (r : Int32) (w : Wd), pb r (prj w) = true → post r w) {x1 : Int32} {x2 : Int32} {x3 : Int32} {x4 : Int32} {t0 : Int32} {w : Wd} (h : zX11_alike_51 k15b pb  x1 x2 x3 x4 t0 (prj w) = true) : pX11_alike_51 k15 post  x1 x2 x3 x4 t0 w := by
  unfold pX11_alike_51
  unfold zX11_alike_51 at h
  refine br_n h (fun c h => ?_) (fun c h => ?_)
  · exact tX11_alike_62 hk15 hp  h
  · refine fa_i h (fun x3_2 ex3_2 h => ?_)
    exact tX11_alike_62 hk15 hp  h
def zX11_alike_15 (post : Int32 → Vd → Bool) : Nat → Int32 → Int32 → Int32 → Int32 → Vd → Bool
  | 0, _, _, _, _, _ => false
  | n + 1, x1, x2, x3, x4, w => (if (w.2.1 341 (216 : Int32).toNatClampNeg) ≤ x4 then post x3 w else (if x2 = 0 then zX11_rowOf (fun r_3 w_4 => zX11_alike_51 (zX11_alike_15 post n) post x1 x2 x3 x4 r_3 w_4) x4 w else zX11_rowOf (fun r_5 w_6 => zX11_turnedRow (fun r_7 w_8 => zX11_alike_51 (zX11_alike_15 post n) post x1 x2 x3 x4 r_7 w_8) r_5 w_6) x4 w))
theorem tX11_alike_15  {post : Int32 → Wd → Prop} {pb : Int32 → Vd → Bool} (hp : ∀ (r : Int32) (w : Wd), pb r (prj w) = true → post r w) : ∀ (n : Nat) (x1 : Int32) (x2 : Int32) (x3 : Int32) (x4 : Int32) (w : Wd), zX11_alike_15  pb  n x1 x2 x3 x4 (prj w) = true → pX11_alike_15  post  n x1 x2 x3 x4 w := by
  intro n
  induction n with
  | zero => intro x1 x2 x3 x4 w h; exact absurd (show false = true from h) (by decide)
  | succ n ih =>
    intro x1 x2 x3 x4 w h
    unfold pX11_alike_15
    unfold zX11_alike_15 at h
    refine br_i h (fun c h => ?_) (fun c h => ?_)
    · exact hp _ _ h
    · refine br_i h (fun c h => ?_) (fun c h => ?_)
      · refine tX11_rowOf (fun r_3 w_4 h => ?_)  h
        exact tX11_alike_51 ih hp  h
      · refine tX11_rowOf (fun r_5 w_6 h => ?_)  h
        refine tX11_turnedRow (fun r_7 w_8 h => ?_)  h
        exact tX11_alike_51 ih hp  h
def zX11_alike (post : Int32 → Vd → Bool) (x1 : Int32) (x2 : Int32) (w : Vd) : Bool := zX11_isRow (fun r_1 w_2 => (if r_1 = 0 then post (-1 : Int32) w_2 else zX11_alike_15 post 70000 x1 x2 (0 : Int32) (0 : Int32) w_2)) x1 w
theorem tX11_alike  {post : Int32 → Wd → Prop} {pb : Int32 → Vd → Bool} (hp : ∀ (r : Int32) (w : Wd), pb r (prj w) = true → post r w) {x1 : Int32} {x2 : Int32} {w : Wd} (h : zX11_alike  pb  x1 x2 (prj w) = true) : pX11_alike  post  x1 x2 w := by
  unfold pX11_alike
  unfold zX11_alike at h
  refine tX11_isRow (fun r_1 w_2 h => ?_)  h
  refine br_n h (fun c h => ?_) (fun c h => ?_)
  · refine ⟨70000, ?_⟩
    exact tX11_alike_15 hp _ _ _ _ _ _ h
  · exact hp _ _ h
def zX11_doTell_52 (k16 : Int32 → Int32 → Int32 → Vd → Bool) (post : Int32 → Vd → Bool) (x1 : Int32) (x2 : Int32) (x3 : Int32) (w : Vd) : Bool := fz (x3 + (1 : Int32)) (fun x3_1 => k16 x1 x2 x3_1 w)
theorem tX11_doTell_52 {k16 : Int32 → Int32 → Int32 → Wd → Prop} {k16b : Int32 → Int32 → Int32 → Vd → Bool} {post : Int32 → Wd → Prop} {pb : Int32 → Vd → Bool} (hk16 : ∀ (y0 : Int32) (y1 : Int32) (y2 : Int32) (w : Wd), k16b y0 y1 y2 (prj w) = true → k16 y0 y1 y2 w) (hp : ∀ (r : Int32) (w : Wd), pb r (prj w) = true → post r w) {x1 : Int32} {x2 : Int32} {x3 : Int32} {w : Wd} (h : zX11_doTell_52 k16b pb  x1 x2 x3 (prj w) = true) : pX11_doTell_52 k16 post  x1 x2 x3 w := by
  unfold pX11_doTell_52
  unfold zX11_doTell_52 at h
  refine fa_i h (fun x3_1 ex3_1 h => ?_)
  exact hk16 _ _ _ _ h
def zX11_doTell_16 (k2 : Int32 → Int32 → Vd → Bool) (post : Int32 → Vd → Bool) : Nat → Int32 → Int32 → Int32 → Vd → Bool
  | 0, _, _, _, _ => false
  | n + 1, x1, x2, x3, w => (if x2 ≤ x3 then fz (x2 + (1 : Int32)) (fun x2_2 => k2 x1 x2_2 w) else zX11_rowOf (fun r_3 w_4 => zX11_rowOf (fun r_5 w_6 => (if r_3 = r_5 then zX11_doTell_52 (zX11_doTell_16 k2 post n) post x1 x2 x3 w_6 else zX11_rowOf (fun r_8 w_9 => zX11_rowOf (fun r_10 w_11 => (if ((r_8 ^^^ r_10) &&& x1) = 0 then post (0 : Int32) w_11 else zX11_doTell_52 (zX11_doTell_16 k2 post n) post x1 x2 x3 w_11)) x3 w_9) x2 w_6)) x3 w_4) x2 w)
theorem tX11_doTell_16 {k2 : Int32 → Int32 → Wd → Prop} {k2b : Int32 → Int32 → Vd → Bool} {post : Int32 → Wd → Prop} {pb : Int32 → Vd → Bool} (hk2 : ∀ (y0 : Int32) (y1 : Int32) (w : Wd), k2b y0 y1 (prj w) = true → k2 y0 y1 w) (hp : ∀ (r : Int32) (w : Wd), pb r (prj w) = true → post r w) : ∀ (n : Nat) (x1 : Int32) (x2 : Int32) (x3 : Int32) (w : Wd), zX11_doTell_16 k2b pb  n x1 x2 x3 (prj w) = true → pX11_doTell_16 k2 post  n x1 x2 x3 w := by
  intro n
  induction n with
  | zero => intro x1 x2 x3 w h; exact absurd (show false = true from h) (by decide)
  | succ n ih =>
    intro x1 x2 x3 w h
    unfold pX11_doTell_16
    unfold zX11_doTell_16 at h
    refine br_i h (fun c h => ?_) (fun c h => ?_)
    · refine fa_i h (fun x2_2 ex2_2 h => ?_)
      exact hk2 _ _ _ h
    · refine tX11_rowOf (fun r_3 w_4 h => ?_)  h
      refine tX11_rowOf (fun r_5 w_6 h => ?_)  h
      refine br_i h (fun c h => ?_) (fun c h => ?_)
      · exact tX11_doTell_52 ih hp  h
      · refine tX11_rowOf (fun r_8 w_9 h => ?_)  h
        refine tX11_rowOf (fun r_10 w_11 h => ?_)  h
        refine br_n h (fun c h => ?_) (fun c h => ?_)
        · exact tX11_doTell_52 ih hp  h
        · exact hp _ _ h
def zX11_doTell_2 (post : Int32 → Vd → Bool) : Nat → Int32 → Int32 → Vd → Bool
  | 0, _, _, _ => false
  | n + 1, x1, x2, w => (if (w.2.1 341 (216 : Int32).toNatClampNeg) ≤ x2 then post (1 : Int32) w else zX11_doTell_16 (zX11_doTell_2 post n) post 70000 x1 x2 (0 : Int32) w)
theorem tX11_doTell_2  {post : Int32 → Wd → Prop} {pb : Int32 → Vd → Bool} (hp : ∀ (r : Int32) (w : Wd), pb r (prj w) = true → post r w) : ∀ (n : Nat) (x1 : Int32) (x2 : Int32) (w : Wd), zX11_doTell_2  pb  n x1 x2 (prj w) = true → pX11_doTell_2  post  n x1 x2 w := by
  intro n
  induction n with
  | zero => intro x1 x2 w h; exact absurd (show false = true from h) (by decide)
  | succ n ih =>
    intro x1 x2 w h
    unfold pX11_doTell_2
    unfold zX11_doTell_2 at h
    refine br_i h (fun c h => ?_) (fun c h => ?_)
    · exact hp _ _ h
    · refine ⟨70000, ?_⟩
      exact tX11_doTell_16 ih hp _ _ _ _ _ h
def zX11_doTell (post : Int32 → Vd → Bool) (x1 : Int32) (w : Vd) : Bool := zX11_doTell_2 post 70000 x1 (0 : Int32) w
theorem tX11_doTell  {post : Int32 → Wd → Prop} {pb : Int32 → Vd → Bool} (hp : ∀ (r : Int32) (w : Wd), pb r (prj w) = true → post r w) {x1 : Int32} {w : Wd} (h : zX11_doTell  pb  x1 (prj w) = true) : pX11_doTell  post  x1 w := by
  unfold pX11_doTell
  unfold zX11_doTell at h
  refine ⟨70000, ?_⟩
  exact tX11_doTell_2 hp _ _ _ _ h
def zX11_tell_91 (k52 : Int32 → Int32 → Vd → Bool) (post : Int32 → Vd → Bool) (x1 : Int32) (x2 : Int32) (w : Vd) : Bool := fz (x2 + (1 : Int32)) (fun x2_1 => k52 x1 x2_1 w)
theorem tX11_tell_91 {k52 : Int32 → Int32 → Wd → Prop} {k52b : Int32 → Int32 → Vd → Bool} {post : Int32 → Wd → Prop} {pb : Int32 → Vd → Bool} (hk52 : ∀ (y0 : Int32) (y1 : Int32) (w : Wd), k52b y0 y1 (prj w) = true → k52 y0 y1 w) (hp : ∀ (r : Int32) (w : Wd), pb r (prj w) = true → post r w) {x1 : Int32} {x2 : Int32} {w : Wd} (h : zX11_tell_91 k52b pb  x1 x2 (prj w) = true) : pX11_tell_91 k52 post  x1 x2 w := by
  unfold pX11_tell_91
  unfold zX11_tell_91 at h
  refine fa_i h (fun x2_1 ex2_1 h => ?_)
  exact hk52 _ _ _ h
def zX11_tell_52 (post : Int32 → Vd → Bool) : Nat → Int32 → Int32 → Vd → Bool
  | 0, _, _, _ => false
  | n + 1, x1, x2, w => zX11_width (fun r_1 w_2 => (if r_1 ≤ x2 then post (w_2.1 300 48) w_2 else (if ((x1 >>> (x2 &&& 31)) &&& (1 : Int32)) = 0 then zX11_tell_91 (zX11_tell_52 post n) post x1 x2 w_2 else (vb (w_2.1 300 48) 12 && fw (vA w_2 348 (w_2.1 300 48).toNatClampNeg x2) (fun w_5 => fw (vI w_5 300 48 ((w_5.1 300 48) + (1 : Int32))) (fun w_6 => zX11_tell_91 (zX11_tell_52 post n) post x1 x2 w_6)))))) w
theorem tX11_tell_52  {post : Int32 → Wd → Prop} {pb : Int32 → Vd → Bool} (hp : ∀ (r : Int32) (w : Wd), pb r (prj w) = true → post r w) : ∀ (n : Nat) (x1 : Int32) (x2 : Int32) (w : Wd), zX11_tell_52  pb  n x1 x2 (prj w) = true → pX11_tell_52  post  n x1 x2 w := by
  intro n
  induction n with
  | zero => intro x1 x2 w h; exact absurd (show false = true from h) (by decide)
  | succ n ih =>
    intro x1 x2 w h
    unfold pX11_tell_52
    unfold zX11_tell_52 at h
    refine tX11_width (fun r_1 w_2 h => ?_)  h
    refine br_i h (fun c h => ?_) (fun c h => ?_)
    · exact hp _ _ h
    · refine br_n h (fun c h => ?_) (fun c h => ?_)
      · refine gd_v h (fun h => ?_)
        refine fa_w rfl h (fun w_5 ew_5 h => ?_)
        refine fa_w rfl h (fun w_6 ew_6 h => ?_)
        exact tX11_tell_91 ih hp  h
      · exact tX11_tell_91 ih hp  h
def zX11_tell_39 (k4 : Int32 → Int32 → Vd → Bool) (post : Int32 → Vd → Bool) (x1 : Int32) (x2 : Int32) (w : Vd) : Bool := fz (x2 + (1 : Int32)) (fun x2_1 => k4 x1 x2_1 w)
theorem tX11_tell_39 {k4 : Int32 → Int32 → Wd → Prop} {k4b : Int32 → Int32 → Vd → Bool} {post : Int32 → Wd → Prop} {pb : Int32 → Vd → Bool} (hk4 : ∀ (y0 : Int32) (y1 : Int32) (w : Wd), k4b y0 y1 (prj w) = true → k4 y0 y1 w) (hp : ∀ (r : Int32) (w : Wd), pb r (prj w) = true → post r w) {x1 : Int32} {x2 : Int32} {w : Wd} (h : zX11_tell_39 k4b pb  x1 x2 (prj w) = true) : pX11_tell_39 k4 post  x1 x2 w := by
  unfold pX11_tell_39
  unfold zX11_tell_39 at h
  refine fa_i h (fun x2_1 ex2_1 h => ?_)
  exact hk4 _ _ _ h
def zX11_tell_29 (k4 : Int32 → Int32 → Vd → Bool) (post : Int32 → Vd → Bool) (x1 : Int32) (x2 : Int32) (w : Vd) : Bool := zX11_doTell (fun r_1 w_2 => (if r_1 = 0 then zX11_tell_39 k4 post x1 x2 w_2 else zX11_tell_39 k4 post x2 x2 w_2)) x2 w
theorem tX11_tell_29 {k4 : Int32 → Int32 → Wd → Prop} {k4b : Int32 → Int32 → Vd → Bool} {post : Int32 → Wd → Prop} {pb : Int32 → Vd → Bool} (hk4 : ∀ (y0 : Int32) (y1 : Int32) (w : Wd), k4b y0 y1 (prj w) = true → k4 y0 y1 w) (hp : ∀ (r : Int32) (w : Wd), pb r (prj w) = true → post r w) {x1 : Int32} {x2 : Int32} {w : Wd} (h : zX11_tell_29 k4b pb  x1 x2 (prj w) = true) : pX11_tell_29 k4 post  x1 x2 w := by
  unfold pX11_tell_29
  unfold zX11_tell_29 at h
  refine tX11_doTell (fun r_1 w_2 h => ?_)  h
  refine br_i h (fun c h => ?_) (fun c h => ?_)
  · exact tX11_tell_39 hk4 hp  h
  · exact tX11_tell_39 hk4 hp  h
def zX11_tell_4 (post : Int32 → Vd → Bool) : Nat → Int32 → Int32 → Vd → Bool
  | 0, _, _, _ => false
  | n + 1, x1, x2, w => zX11_width (fun r_1 w_2 => (if ((1 : Int32) <<< (r_1 &&& 31)) ≤ x2 then fw (vI w_2 300 48 (0 : Int32)) (fun w_4 => zX11_tell_52 post 70000 x1 (0 : Int32) w_4) else (if x1 < 0 then zX11_tell_29 (zX11_tell_4 post n) post x1 x2 w_2 else zX11_bitsOf (fun r_6 w_7 => zX11_bitsOf (fun r_8 w_9 => (if r_8 ≤ r_6 then zX11_tell_39 (zX11_tell_4 post n) post x1 x2 w_9 else zX11_tell_29 (zX11_tell_4 post n) post x1 x2 w_9)) x1 w_7) x2 w_2))) w
theorem tX11_tell_4  {post : Int32 → Wd → Prop} {pb : Int32 → Vd → Bool} (hp : ∀ (r : Int32) (w : Wd), pb r (prj w) = true → post r w) : ∀ (n : Nat) (x1 : Int32) (x2 : Int32) (w : Wd), zX11_tell_4  pb  n x1 x2 (prj w) = true → pX11_tell_4  post  n x1 x2 w := by
  intro n
  induction n with
  | zero => intro x1 x2 w h; exact absurd (show false = true from h) (by decide)
  | succ n ih =>
    intro x1 x2 w h
    unfold pX11_tell_4
    unfold zX11_tell_4 at h
    refine tX11_width (fun r_1 w_2 h => ?_)  h
    refine br_i h (fun c h => ?_) (fun c h => ?_)
    · refine fa_w rfl h (fun w_4 ew_4 h => ?_)
      refine ⟨70000, ?_⟩
      exact tX11_tell_52 hp _ _ _ _ h
    · refine br_i h (fun c h => ?_) (fun c h => ?_)
      · exact tX11_tell_29 ih hp  h
      · refine tX11_bitsOf (fun r_6 w_7 h => ?_)  h
        refine tX11_bitsOf (fun r_8 w_9 h => ?_)  h
        refine br_i h (fun c h => ?_) (fun c h => ?_)
        · exact tX11_tell_39 ih hp  h
        · exact tX11_tell_29 ih hp  h
def zX11_tell (post : Int32 → Vd → Bool)  (w : Vd) : Bool := zX11_tell_4 post 70000 (-1 : Int32) (0 : Int32) w
theorem tX11_tell  {post : Int32 → Wd → Prop} {pb : Int32 → Vd → Bool} (hp : ∀ (r : Int32) (w : Wd), pb r (prj w) = true → post r w) {w : Wd} (h : zX11_tell  pb   (prj w) = true) : pX11_tell  post   w := by
  unfold pX11_tell
  unfold zX11_tell at h
  refine ⟨70000, ?_⟩
  exact tX11_tell_4 hp _ _ _ _ h
def zX11_round_57 (post : Int32 → Vd → Bool) : Nat → Int32 → Int32 → Int32 → Int32 → Int32 → Vd → Bool
  | 0, _, _, _, _, _, _ => false
  | n + 1, x2, x3, x4, x5, x6, w => (vb x5 4096 && (if 0 ≤ (w.2.1 350 x5.toNatClampNeg) then (if x4 = 0 then post x6 w else (vb x5 4096 && post (x6 - (w.2.1 350 x5.toNatClampNeg)) w)) else (vb x5 4096 && fw (vA w 350 x5.toNatClampNeg x6) (fun w_3 => fz (x6 + (1 : Int32)) (fun x6_4 => false)))))
theorem tX11_round_57  {post : Int32 → Wd → Prop} {pb : Int32 → Vd → Bool} (hp : ∀ (r : Int32) (w : Wd), pb r (prj w) = true → post r w) : ∀ (n : Nat) (x2 : Int32) (x3 : Int32) (x4 : Int32) (x5 : Int32) (x6 : Int32) (w : Wd), zX11_round_57  pb  n x2 x3 x4 x5 x6 (prj w) = true → pX11_round_57  post  n x2 x3 x4 x5 x6 w := by
  intro n
  induction n with
  | zero => intro x2 x3 x4 x5 x6 w h; exact absurd (show false = true from h) (by decide)
  | succ n ih =>
    intro x2 x3 x4 x5 x6 w h
    unfold pX11_round_57
    unfold zX11_round_57 at h
    refine gd_v h (fun h => ?_)
    refine br_i h (fun c h => ?_) (fun c h => ?_)
    · refine br_n h (fun c h => ?_) (fun c h => ?_)
      · refine gd_v h (fun h => ?_)
        exact hp _ _ h
      · exact hp _ _ h
    · refine gd_v h (fun h => ?_)
      refine fa_w rfl h (fun w_3 ew_3 h => ?_)
      refine fa_i h (fun x6_4 ex6_4 h => ?_)
      exact absurd (show false = true from h) (by decide)
def zX11_round_25 (post : Int32 → Vd → Bool) : Nat → Int32 → Int32 → Int32 → Int32 → Int32 → Vd → Bool
  | 0, _, _, _, _, _, _ => false
  | n + 1, x1, x2, x3, x4, x5, w => (if (4096 : Int32) ≤ x5 then zX11_rowOf (fun r_2 w_3 => zX11_round_57 post 70000 x2 x3 x4 r_2 (0 : Int32) w_3) x1 w else (vb x5 4096 && fw (vA w 350 x5.toNatClampNeg (-1 : Int32)) (fun w_4 => fz (x5 + (1 : Int32)) (fun x5_5 => zX11_round_25 post n x1 x2 x3 x4 x5_5 w_4))))
theorem tX11_round_25  {post : Int32 → Wd → Prop} {pb : Int32 → Vd → Bool} (hp : ∀ (r : Int32) (w : Wd), pb r (prj w) = true → post r w) : ∀ (n : Nat) (x1 : Int32) (x2 : Int32) (x3 : Int32) (x4 : Int32) (x5 : Int32) (w : Wd), zX11_round_25  pb  n x1 x2 x3 x4 x5 (prj w) = true → pX11_round_25  post  n x1 x2 x3 x4 x5 w := by
  intro n
  induction n with
  | zero => intro x1 x2 x3 x4 x5 w h; exact absurd (show false = true from h) (by decide)
  | succ n ih =>
    intro x1 x2 x3 x4 x5 w h
    unfold pX11_round_25
    unfold zX11_round_25 at h
    refine br_i h (fun c h => ?_) (fun c h => ?_)
    · refine tX11_rowOf (fun r_2 w_3 h => ?_)  h
      refine ⟨70000, ?_⟩
      exact tX11_round_57 hp _ _ _ _ _ _ _ h
    · refine gd_v h (fun h => ?_)
      refine fa_w rfl h (fun w_4 ew_4 h => ?_)
      refine fa_i h (fun x5_5 ex5_5 h => ?_)
      exact ih _ _ _ _ _ _ h
def zX11_round (post : Int32 → Vd → Bool) (x1 : Int32) (x2 : Int32) (x3 : Int32) (x4 : Int32) (w : Vd) : Bool := zX11_canCast (fun r_1 w_2 => (if r_1 = 0 then post (-1 : Int32) w_2 else zX11_isIn (fun r_4 w_5 => (if r_4 = 0 then post (-1 : Int32) w_5 else zX11_round_25 post 70000 x1 x2 x3 x4 (0 : Int32) w_5)) x4 (0 : Int32) (1 : Int32) w_2)) x1 x2 x3 w
theorem tX11_round  {post : Int32 → Wd → Prop} {pb : Int32 → Vd → Bool} (hp : ∀ (r : Int32) (w : Wd), pb r (prj w) = true → post r w) {x1 : Int32} {x2 : Int32} {x3 : Int32} {x4 : Int32} {w : Wd} (h : zX11_round  pb  x1 x2 x3 x4 (prj w) = true) : pX11_round  post  x1 x2 x3 x4 w := by
  unfold pX11_round
  unfold zX11_round at h
  refine tX11_canCast (fun r_1 w_2 h => ?_)  h
  refine br_i h (fun c h => ?_) (fun c h => ?_)
  · exact hp _ _ h
  · refine tX11_isIn (fun r_4 w_5 h => ?_)  h
    refine br_n h (fun c h => ?_) (fun c h => ?_)
    · refine ⟨70000, ?_⟩
      exact tX11_round_25 hp _ _ _ _ _ _ _ h
    · exact hp _ _ h
def zX11_steady_35 (post : Int32 → Vd → Bool) : Nat → Int32 → Int32 → Int32 → Int32 → Int32 → Int32 → Vd → Bool
  | 0, _, _, _, _, _, _, _ => false
  | n + 1, x1, x2, x3, x4, x5, x6, w => zX11_width (fun r_1 w_2 => (if ((1 : Int32) <<< (r_1 &&& 31)) ≤ x6 then (if x3 = 0 then post x4 w_2 else post x5 w_2) else false)) w
theorem tX11_steady_35  {post : Int32 → Wd → Prop} {pb : Int32 → Vd → Bool} (hp : ∀ (r : Int32) (w : Wd), pb r (prj w) = true → post r w) : ∀ (n : Nat) (x1 : Int32) (x2 : Int32) (x3 : Int32) (x4 : Int32) (x5 : Int32) (x6 : Int32) (w : Wd), zX11_steady_35  pb  n x1 x2 x3 x4 x5 x6 (prj w) = true → pX11_steady_35  post  n x1 x2 x3 x4 x5 x6 w := by
  intro n
  induction n with
  | zero => intro x1 x2 x3 x4 x5 x6 w h; exact absurd (show false = true from h) (by decide)
  | succ n ih =>
    intro x1 x2 x3 x4 x5 x6 w h
    unfold pX11_steady_35
    unfold zX11_steady_35 at h
    refine tX11_width (fun r_1 w_2 h => ?_)  h
    refine br_i h (fun c h => ?_) (fun c h => ?_)
    · refine br_n h (fun c h => ?_) (fun c h => ?_)
      · exact hp _ _ h
      · exact hp _ _ h
    · exact absurd (show false = true from h) (by decide)
def zX11_steady (post : Int32 → Vd → Bool) (x1 : Int32) (x2 : Int32) (x3 : Int32) (w : Vd) : Bool := zX11_isHand (fun r_1 w_2 => (if r_1 = 0 then post (-1 : Int32) w_2 else zX11_isHeat (fun r_4 w_5 => (if r_4 = 0 then post (-1 : Int32) w_5 else zX11_isIn (fun r_7 w_8 => (if r_7 = 0 then post (-1 : Int32) w_8 else zX11_steady_35 post 70000 x1 x2 x3 (0 : Int32) (-1 : Int32) (0 : Int32) w_8)) x3 (0 : Int32) (1 : Int32) w_5)) x2 w_2)) x1 w
theorem tX11_steady  {post : Int32 → Wd → Prop} {pb : Int32 → Vd → Bool} (hp : ∀ (r : Int32) (w : Wd), pb r (prj w) = true → post r w) {x1 : Int32} {x2 : Int32} {x3 : Int32} {w : Wd} (h : zX11_steady  pb  x1 x2 x3 (prj w) = true) : pX11_steady  post  x1 x2 x3 w := by
  unfold pX11_steady
  unfold zX11_steady at h
  refine tX11_isHand (fun r_1 w_2 h => ?_)  h
  refine br_i h (fun c h => ?_) (fun c h => ?_)
  · exact hp _ _ h
  · refine tX11_isHeat (fun r_4 w_5 h => ?_)  h
    refine br_i h (fun c h => ?_) (fun c h => ?_)
    · exact hp _ _ h
    · refine tX11_isIn (fun r_7 w_8 h => ?_)  h
      refine br_n h (fun c h => ?_) (fun c h => ?_)
      · refine ⟨70000, ?_⟩
        exact tX11_steady_35 hp _ _ _ _ _ _ _ _ h
      · exact hp _ _ h
def zX11_against_31 (post : Int32 → Vd → Bool) : Nat → Int32 → Int32 → Int32 → Int32 → Int32 → Vd → Bool
  | 0, _, _, _, _, _, _ => false
  | n + 1, x1, x2, x3, x4, x5, w => zX11_width (fun r_1 w_2 => (if ((1 : Int32) <<< (r_1 &&& 31)) ≤ x5 then post x4 w_2 else false)) w
theorem tX11_against_31  {post : Int32 → Wd → Prop} {pb : Int32 → Vd → Bool} (hp : ∀ (r : Int32) (w : Wd), pb r (prj w) = true → post r w) : ∀ (n : Nat) (x1 : Int32) (x2 : Int32) (x3 : Int32) (x4 : Int32) (x5 : Int32) (w : Wd), zX11_against_31  pb  n x1 x2 x3 x4 x5 (prj w) = true → pX11_against_31  post  n x1 x2 x3 x4 x5 w := by
  intro n
  induction n with
  | zero => intro x1 x2 x3 x4 x5 w h; exact absurd (show false = true from h) (by decide)
  | succ n ih =>
    intro x1 x2 x3 x4 x5 w h
    unfold pX11_against_31
    unfold zX11_against_31 at h
    refine tX11_width (fun r_1 w_2 h => ?_)  h
    refine br_i h (fun c h => ?_) (fun c h => ?_)
    · exact hp _ _ h
    · exact absurd (show false = true from h) (by decide)
def zX11_against (post : Int32 → Vd → Bool) (x1 : Int32) (x2 : Int32) (x3 : Int32) (w : Vd) : Bool := zX11_isHand (fun r_1 w_2 => (if r_1 = 0 then post (-1 : Int32) w_2 else zX11_isHand (fun r_4 w_5 => (if r_4 = 0 then post (-1 : Int32) w_5 else zX11_isHeat (fun r_7 w_8 => (if r_7 = 0 then post (-1 : Int32) w_8 else zX11_against_31 post 70000 x1 x2 x3 (0 : Int32) (0 : Int32) w_8)) x3 w_5)) x2 w_2)) x1 w
theorem tX11_against  {post : Int32 → Wd → Prop} {pb : Int32 → Vd → Bool} (hp : ∀ (r : Int32) (w : Wd), pb r (prj w) = true → post r w) {x1 : Int32} {x2 : Int32} {x3 : Int32} {w : Wd} (h : zX11_against  pb  x1 x2 x3 (prj w) = true) : pX11_against  post  x1 x2 x3 w := by
  unfold pX11_against
  unfold zX11_against at h
  refine tX11_isHand (fun r_1 w_2 h => ?_)  h
  refine br_i h (fun c h => ?_) (fun c h => ?_)
  · exact hp _ _ h
  · refine tX11_isHand (fun r_4 w_5 h => ?_)  h
    refine br_i h (fun c h => ?_) (fun c h => ?_)
    · exact hp _ _ h
    · refine tX11_isHeat (fun r_7 w_8 h => ?_)  h
      refine br_n h (fun c h => ?_) (fun c h => ?_)
      · refine ⟨70000, ?_⟩
        exact tX11_against_31 hp _ _ _ _ _ _ _ h
      · exact hp _ _ h
def zX11_fact (post : Int32 → Vd → Bool) (x1 : Int32) (x2 : Int32) (x3 : Int32) (x4 : Int32) (w : Vd) : Bool := (if (w.1 300 58) = (40 : Int32) then post (-1 : Int32) w else (vb (w.1 300 58) 40 && fw (vA w 353 (w.1 300 58).toNatClampNeg x1) (fun w_2 => (vb (w_2.1 300 58) 40 && fw (vA w_2 354 (w_2.1 300 58).toNatClampNeg x2) (fun w_3 => (vb (w_3.1 300 58) 40 && fw (vA w_3 355 (w_3.1 300 58).toNatClampNeg x3) (fun w_4 => (vb (w_4.1 300 58) 40 && fw (vA w_4 356 (w_4.1 300 58).toNatClampNeg x4) (fun w_5 => (vb (w_5.1 300 58) 40 && fw (vA w_5 357 (w_5.1 300 58).toNatClampNeg (w_5.1 300 59)) (fun w_6 => (vb (w_6.1 300 58) 40 && fw (vA w_6 358 (w_6.1 300 58).toNatClampNeg (-1 : Int32)) (fun w_7 => fw (vI w_7 300 58 ((w_7.1 300 58) + (1 : Int32))) (fun w_8 => post ((w_8.1 300 58) - (1 : Int32)) w_8))))))))))))))
theorem tX11_fact  {post : Int32 → Wd → Prop} {pb : Int32 → Vd → Bool} (hp : ∀ (r : Int32) (w : Wd), pb r (prj w) = true → post r w) {x1 : Int32} {x2 : Int32} {x3 : Int32} {x4 : Int32} {w : Wd} (h : zX11_fact  pb  x1 x2 x3 x4 (prj w) = true) : pX11_fact  post  x1 x2 x3 x4 w := by
  unfold pX11_fact
  unfold zX11_fact at h
  refine br_n h (fun c h => ?_) (fun c h => ?_)
  · refine gd_v h (fun h => ?_)
    refine fa_w rfl h (fun w_2 ew_2 h => ?_)
    refine gd_v h (fun h => ?_)
    refine fa_w rfl h (fun w_3 ew_3 h => ?_)
    refine gd_v h (fun h => ?_)
    refine fa_w rfl h (fun w_4 ew_4 h => ?_)
    refine gd_v h (fun h => ?_)
    refine fa_w rfl h (fun w_5 ew_5 h => ?_)
    refine gd_v h (fun h => ?_)
    refine fa_w rfl h (fun w_6 ew_6 h => ?_)
    refine gd_v h (fun h => ?_)
    refine fa_w rfl h (fun w_7 ew_7 h => ?_)
    refine fa_w rfl h (fun w_8 ew_8 h => ?_)
    exact hp _ _ h
  · exact hp _ _ h
def zX11_sample (post : Int32 → Vd → Bool) (x1 : Int32) (x2 : Int32) (w : Vd) : Bool := zX11_isRow (fun r_1 w_2 => (if r_1 = 0 then post (-1 : Int32) w_2 else (if x2 = 0 then zX11_fact (fun r_5 w_6 => post r_5 w_6) (0 : Int32) x1 (0 : Int32) (0 : Int32) w_2 else zX11_fact (fun r_7 w_8 => post r_7 w_8) (0 : Int32) x1 (1 : Int32) (0 : Int32) w_2))) x1 w
theorem tX11_sample  {post : Int32 → Wd → Prop} {pb : Int32 → Vd → Bool} (hp : ∀ (r : Int32) (w : Wd), pb r (prj w) = true → post r w) {x1 : Int32} {x2 : Int32} {w : Wd} (h : zX11_sample  pb  x1 x2 (prj w) = true) : pX11_sample  post  x1 x2 w := by
  unfold pX11_sample
  unfold zX11_sample at h
  refine tX11_isRow (fun r_1 w_2 h => ?_)  h
  refine br_i h (fun c h => ?_) (fun c h => ?_)
  · exact hp _ _ h
  · refine br_i h (fun c h => ?_) (fun c h => ?_)
    · refine tX11_fact (fun r_5 w_6 h => ?_)  h
      exact hp _ _ h
    · refine tX11_fact (fun r_7 w_8 h => ?_)  h
      exact hp _ _ h
def zX11_claim (post : Int32 → Vd → Bool) (x1 : Int32) (x2 : Int32) (x3 : Int32) (w : Vd) : Bool := zX11_isRow (fun r_1 w_2 => (if r_1 = 0 then post (-1 : Int32) w_2 else zX11_isSeal (fun r_4 w_5 => (if r_4 = 0 then post (-1 : Int32) w_5 else zX11_isIn (fun r_7 w_8 => (if r_7 = 0 then post (-1 : Int32) w_8 else zX11_fact (fun r_10 w_11 => post r_10 w_11) (1 : Int32) x1 x2 x3 w_8)) x3 (0 : Int32) (999 : Int32) w_5)) x2 w_2)) x1 w
theorem tX11_claim  {post : Int32 → Wd → Prop} {pb : Int32 → Vd → Bool} (hp : ∀ (r : Int32) (w : Wd), pb r (prj w) = true → post r w) {x1 : Int32} {x2 : Int32} {x3 : Int32} {w : Wd} (h : zX11_claim  pb  x1 x2 x3 (prj w) = true) : pX11_claim  post  x1 x2 x3 w := by
  unfold pX11_claim
  unfold zX11_claim at h
  refine tX11_isRow (fun r_1 w_2 h => ?_)  h
  refine br_i h (fun c h => ?_) (fun c h => ?_)
  · exact hp _ _ h
  · refine tX11_isSeal (fun r_4 w_5 h => ?_)  h
    refine br_i h (fun c h => ?_) (fun c h => ?_)
    · exact hp _ _ h
    · refine tX11_isIn (fun r_7 w_8 h => ?_)  h
      refine br_i h (fun c h => ?_) (fun c h => ?_)
      · exact hp _ _ h
      · refine tX11_fact (fun r_10 w_11 h => ?_)  h
        exact hp _ _ h
def zX11_saw (post : Int32 → Vd → Bool) (x1 : Int32) (x2 : Int32) (x3 : Int32) (w : Vd) : Bool := zX11_width (fun r_1 w_2 => zX11_isIn (fun r_3 w_4 => (if r_3 = 0 then post (-1 : Int32) w_4 else zX11_isIn (fun r_6 w_7 => (if r_6 = 0 then post (-1 : Int32) w_7 else (if x3 = 0 then zX11_fact (fun r_10 w_11 => post r_10 w_11) (2 : Int32) x1 x2 (0 : Int32) w_7 else zX11_fact (fun r_12 w_13 => post r_12 w_13) (2 : Int32) x1 x2 (1 : Int32) w_7))) x2 (0 : Int32) (999 : Int32) w_4)) x1 (0 : Int32) (r_1 - (1 : Int32)) w_2) w
theorem tX11_saw  {post : Int32 → Wd → Prop} {pb : Int32 → Vd → Bool} (hp : ∀ (r : Int32) (w : Wd), pb r (prj w) = true → post r w) {x1 : Int32} {x2 : Int32} {x3 : Int32} {w : Wd} (h : zX11_saw  pb  x1 x2 x3 (prj w) = true) : pX11_saw  post  x1 x2 x3 w := by
  unfold pX11_saw
  unfold zX11_saw at h
  refine tX11_width (fun r_1 w_2 h => ?_)  h
  refine tX11_isIn (fun r_3 w_4 h => ?_)  h
  refine br_i h (fun c h => ?_) (fun c h => ?_)
  · exact hp _ _ h
  · refine tX11_isIn (fun r_6 w_7 h => ?_)  h
    refine br_i h (fun c h => ?_) (fun c h => ?_)
    · exact hp _ _ h
    · refine br_i h (fun c h => ?_) (fun c h => ?_)
      · refine tX11_fact (fun r_10 w_11 h => ?_)  h
        exact hp _ _ h
      · refine tX11_fact (fun r_12 w_13 h => ?_)  h
        exact hp _ _ h
def zX11_link (post : Int32 → Vd → Bool) (x1 : Int32) (x2 : Int32) (x3 : Int32) (w : Vd) : Bool := zX11_isIn (fun r_1 w_2 => (if r_1 = 0 then post (-1 : Int32) w_2 else zX11_isIn (fun r_4 w_5 => (if r_4 = 0 then post (-1 : Int32) w_5 else (if x1 = x2 then post (-1 : Int32) w_5 else (if x3 = 0 then zX11_fact (fun r_9 w_10 => post r_9 w_10) (3 : Int32) x1 x2 (0 : Int32) w_5 else zX11_fact (fun r_11 w_12 => post r_11 w_12) (3 : Int32) x1 x2 (1 : Int32) w_5)))) x2 (0 : Int32) (7 : Int32) w_2)) x1 (0 : Int32) (7 : Int32) w
theorem tX11_link  {post : Int32 → Wd → Prop} {pb : Int32 → Vd → Bool} (hp : ∀ (r : Int32) (w : Wd), pb r (prj w) = true → post r w) {x1 : Int32} {x2 : Int32} {x3 : Int32} {w : Wd} (h : zX11_link  pb  x1 x2 x3 (prj w) = true) : pX11_link  post  x1 x2 x3 w := by
  unfold pX11_link
  unfold zX11_link at h
  refine tX11_isIn (fun r_1 w_2 h => ?_)  h
  refine br_i h (fun c h => ?_) (fun c h => ?_)
  · exact hp _ _ h
  · refine tX11_isIn (fun r_4 w_5 h => ?_)  h
    refine br_i h (fun c h => ?_) (fun c h => ?_)
    · exact hp _ _ h
    · refine br_i h (fun c h => ?_) (fun c h => ?_)
      · exact hp _ _ h
      · refine br_i h (fun c h => ?_) (fun c h => ?_)
        · refine tX11_fact (fun r_9 w_10 h => ?_)  h
          exact hp _ _ h
        · refine tX11_fact (fun r_11 w_12 h => ?_)  h
          exact hp _ _ h
def zX11_untell (post : Int32 → Vd → Bool) (x1 : Int32) (w : Vd) : Bool := zX11_isIn (fun r_1 w_2 => (if r_1 = 0 then post (0 : Int32) w_2 else (vb x1 40 && (if (w_2.2.1 358 x1.toNatClampNeg) < 0 then (vb x1 40 && fw (vA w_2 358 x1.toNatClampNeg (w_2.1 300 59)) (fun w_5 => post (1 : Int32) w_5)) else post (0 : Int32) w_2)))) x1 (0 : Int32) ((w.1 300 58) - (1 : Int32)) w
theorem tX11_untell  {post : Int32 → Wd → Prop} {pb : Int32 → Vd → Bool} (hp : ∀ (r : Int32) (w : Wd), pb r (prj w) = true → post r w) {x1 : Int32} {w : Wd} (h : zX11_untell  pb  x1 (prj w) = true) : pX11_untell  post  x1 w := by
  unfold pX11_untell
  unfold zX11_untell at h
  refine tX11_isIn (fun r_1 w_2 h => ?_)  h
  refine br_i h (fun c h => ?_) (fun c h => ?_)
  · exact hp _ _ h
  · refine gd_v h (fun h => ?_)
    refine br_i h (fun c h => ?_) (fun c h => ?_)
    · refine gd_v h (fun h => ?_)
      refine fa_w rfl h (fun w_5 ew_5 h => ?_)
      exact hp _ _ h
    · exact hp _ _ h
def zX11_later (post : Int32 → Vd → Bool) (x1 : Int32) (w : Vd) : Bool := zX11_isIn (fun r_1 w_2 => (if r_1 = 0 then post (-1 : Int32) w_2 else (if ((w_2.1 300 59) + x1) ≤ (100000 : Int32) then fw (vI w_2 300 59 ((w_2.1 300 59) + x1)) (fun w_5 => post (w_5.1 300 59) w_5) else post (-1 : Int32) w_2))) x1 (0 : Int32) (1000 : Int32) w
theorem tX11_later  {post : Int32 → Wd → Prop} {pb : Int32 → Vd → Bool} (hp : ∀ (r : Int32) (w : Wd), pb r (prj w) = true → post r w) {x1 : Int32} {w : Wd} (h : zX11_later  pb  x1 (prj w) = true) : pX11_later  post  x1 w := by
  unfold pX11_later
  unfold zX11_later at h
  refine tX11_isIn (fun r_1 w_2 h => ?_)  h
  refine br_i h (fun c h => ?_) (fun c h => ?_)
  · exact hp _ _ h
  · refine br_i h (fun c h => ?_) (fun c h => ?_)
    · refine fa_w rfl h (fun w_5 ew_5 h => ?_)
      exact hp _ _ h
    · exact hp _ _ h
def zX11_laySamples_92 (k70 : Int32 → Vd → Bool) (post : Vd → Bool) : Nat → Int32 → Int32 → Int32 → Vd → Bool
  | 0, _, _, _, _ => false
  | n + 1, x2, x3, x4, w => (if (w.1 300 63) ≤ x4 then fz (x2 + (1 : Int32)) (fun x2_2 => k70 x2_2 w) else (vb x4 7 && zX11_bitsOf (fun r_3 w_4 => (vb x4 7 && zX11_bitsOf (fun r_5 w_6 => (vb (((7 : Int32) * x2) + x4) 49 && fw (vA w_6 363 (((7 : Int32) * x2) + x4).toNatClampNeg (r_3 + ((2 : Int32) * r_5))) (fun w_7 => fz (x4 + (1 : Int32)) (fun x4_8 => zX11_laySamples_92 k70 post n x2 x3 x4_8 w_7)))) ((w_4.2.1 361 x4.toNatClampNeg) &&& (x3 ^^^ (-1 : Int32))) w_4)) (x3 &&& ((w.2.1 361 x4.toNatClampNeg) ^^^ (-1 : Int32))) w))
theorem tX11_laySamples_92 {k70 : Int32 → Wd → Prop} {k70b : Int32 → Vd → Bool} {post : Wd → Prop} {pb : Vd → Bool} (hk70 : ∀ (y0 : Int32) (w : Wd), k70b y0 (prj w) = true → k70 y0 w) (hp : ∀ (w : Wd), pb (prj w) = true → post w) : ∀ (n : Nat) (x2 : Int32) (x3 : Int32) (x4 : Int32) (w : Wd), zX11_laySamples_92 k70b pb  n x2 x3 x4 (prj w) = true → pX11_laySamples_92 k70 post  n x2 x3 x4 w := by
  intro n
  induction n with
  | zero => intro x2 x3 x4 w h; exact absurd (show false = true from h) (by decide)
  | succ n ih =>
    intro x2 x3 x4 w h
    unfold pX11_laySamples_92
    unfold zX11_laySamples_92 at h
    refine br_i h (fun c h => ?_) (fun c h => ?_)
    · refine fa_i h (fun x2_2 ex2_2 h => ?_)
      exact hk70 _ _ h
    · refine gd_v h (fun h => ?_)
      refine tX11_bitsOf (fun r_3 w_4 h => ?_)  h
      refine gd_v h (fun h => ?_)
      refine tX11_bitsOf (fun r_5 w_6 h => ?_)  h
      refine gd_v h (fun h => ?_)
      refine fa_w rfl h (fun w_7 ew_7 h => ?_)
      refine fa_i h (fun x4_8 ex4_8 h => ?_)
      exact ih _ _ _ _ h
def zX11_laySamples_70 (post : Vd → Bool) : Nat → Int32 → Vd → Bool
  | 0, _, _ => false
  | n + 1, x2, w => (if (w.1 300 63) ≤ x2 then post w else (vb x2 7 && zX11_turnedRow (fun r_2 w_3 => zX11_laySamples_92 (zX11_laySamples_70 post n) post 70000 x2 r_2 (0 : Int32) w_3) (w.2.1 361 x2.toNatClampNeg) w))
theorem tX11_laySamples_70  {post : Wd → Prop} {pb : Vd → Bool} (hp : ∀ (w : Wd), pb (prj w) = true → post w) : ∀ (n : Nat) (x2 : Int32) (w : Wd), zX11_laySamples_70  pb  n x2 (prj w) = true → pX11_laySamples_70  post  n x2 w := by
  intro n
  induction n with
  | zero => intro x2 w h; exact absurd (show false = true from h) (by decide)
  | succ n ih =>
    intro x2 w h
    unfold pX11_laySamples_70
    unfold zX11_laySamples_70 at h
    refine br_i h (fun c h => ?_) (fun c h => ?_)
    · exact hp _ h
    · refine gd_v h (fun h => ?_)
      refine tX11_turnedRow (fun r_2 w_3 h => ?_)  h
      refine ⟨70000, ?_⟩
      exact tX11_laySamples_92 ih hp _ _ _ _ _ h
def zX11_laySamples_68 (post : Vd → Bool)  (w : Vd) : Bool := zX11_laySamples_70 post 70000 (0 : Int32) w
theorem tX11_laySamples_68  {post : Wd → Prop} {pb : Vd → Bool} (hp : ∀ (w : Wd), pb (prj w) = true → post w) {w : Wd} (h : zX11_laySamples_68  pb   (prj w) = true) : pX11_laySamples_68  post   w := by
  unfold pX11_laySamples_68
  unfold zX11_laySamples_68 at h
  refine ⟨70000, ?_⟩
  exact tX11_laySamples_70 hp _ _ _ h
def zX11_laySamples_7 (post : Vd → Bool) : Nat → Int32 → Int32 → Vd → Bool
  | 0, _, _, _ => false
  | n + 1, x1, x2, w => (if (w.1 300 58) ≤ x2 then zX11_laySamples_68 post w else (if (7 : Int32) ≤ (w.1 300 63) then zX11_laySamples_68 post w else false))
theorem tX11_laySamples_7  {post : Wd → Prop} {pb : Vd → Bool} (hp : ∀ (w : Wd), pb (prj w) = true → post w) : ∀ (n : Nat) (x1 : Int32) (x2 : Int32) (w : Wd), zX11_laySamples_7  pb  n x1 x2 (prj w) = true → pX11_laySamples_7  post  n x1 x2 w := by
  intro n
  induction n with
  | zero => intro x1 x2 w h; exact absurd (show false = true from h) (by decide)
  | succ n ih =>
    intro x1 x2 w h
    unfold pX11_laySamples_7
    unfold zX11_laySamples_7 at h
    refine br_i h (fun c h => ?_) (fun c h => ?_)
    · exact tX11_laySamples_68 hp  h
    · refine br_i h (fun c h => ?_) (fun c h => ?_)
      · exact tX11_laySamples_68 hp  h
      · exact absurd (show false = true from h) (by decide)
def zX11_laySamples (post : Vd → Bool) (x1 : Int32) (w : Vd) : Bool := fw (vI w 300 63 (0 : Int32)) (fun w_1 => zX11_laySamples_7 post 70000 x1 (0 : Int32) w_1)
theorem tX11_laySamples  {post : Wd → Prop} {pb : Vd → Bool} (hp : ∀ (w : Wd), pb (prj w) = true → post w) {x1 : Int32} {w : Wd} (h : zX11_laySamples  pb  x1 (prj w) = true) : pX11_laySamples  post  x1 w := by
  unfold pX11_laySamples
  unfold zX11_laySamples at h
  refine fa_w rfl h (fun w_1 ew_1 h => ?_)
  refine ⟨70000, ?_⟩
  exact tX11_laySamples_7 hp _ _ _ _ h
def zX11_tree_76 (post : Int32 → Vd → Bool) : Nat → Int32 → Int32 → Int32 → Int32 → Int32 → Int32 → Vd → Bool
  | 0, _, _, _, _, _, _, _ => false
  | n + 1, x1, x2, x4, x5, x6, x7, w => (if x4 ≤ x7 then fw (vI w 300 48 (w.1 300 63)) (fun w_2 => (if x2 = 0 then post x5 w_2 else post x6 w_2)) else false)
theorem tX11_tree_76  {post : Int32 → Wd → Prop} {pb : Int32 → Vd → Bool} (hp : ∀ (r : Int32) (w : Wd), pb r (prj w) = true → post r w) : ∀ (n : Nat) (x1 : Int32) (x2 : Int32) (x4 : Int32) (x5 : Int32) (x6 : Int32) (x7 : Int32) (w : Wd), zX11_tree_76  pb  n x1 x2 x4 x5 x6 x7 (prj w) = true → pX11_tree_76  post  n x1 x2 x4 x5 x6 x7 w := by
  intro n
  induction n with
  | zero => intro x1 x2 x4 x5 x6 x7 w h; exact absurd (show false = true from h) (by decide)
  | succ n ih =>
    intro x1 x2 x4 x5 x6 x7 w h
    unfold pX11_tree_76
    unfold zX11_tree_76 at h
    refine br_i h (fun c h => ?_) (fun c h => ?_)
    · refine fa_w rfl h (fun w_2 ew_2 h => ?_)
      refine br_n h (fun c h => ?_) (fun c h => ?_)
      · exact hp _ _ h
      · exact hp _ _ h
    · exact absurd (show false = true from h) (by decide)
def zX11_tree_41 (post : Int32 → Vd → Bool) : Nat → Int32 → Int32 → Int32 → Int32 → Vd → Bool
  | 0, _, _, _, _, _ => false
  | n + 1, x1, x2, x4, x5, w => (if (w.1 300 63) ≤ x5 then zX11_tree_76 post 70000 x1 x2 x4 (-1 : Int32) (0 : Int32) (0 : Int32) w else fz ((x4 * ((w.1 300 63) - (1 : Int32)))) (fun x4_2 => fz (x5 + (1 : Int32)) (fun x5_3 => zX11_tree_41 post n x1 x2 x4_2 x5_3 w)))
theorem tX11_tree_41  {post : Int32 → Wd → Prop} {pb : Int32 → Vd → Bool} (hp : ∀ (r : Int32) (w : Wd), pb r (prj w) = true → post r w) : ∀ (n : Nat) (x1 : Int32) (x2 : Int32) (x4 : Int32) (x5 : Int32) (w : Wd), zX11_tree_41  pb  n x1 x2 x4 x5 (prj w) = true → pX11_tree_41  post  n x1 x2 x4 x5 w := by
  intro n
  induction n with
  | zero => intro x1 x2 x4 x5 w h; exact absurd (show false = true from h) (by decide)
  | succ n ih =>
    intro x1 x2 x4 x5 w h
    unfold pX11_tree_41
    unfold zX11_tree_41 at h
    refine br_i h (fun c h => ?_) (fun c h => ?_)
    · refine ⟨70000, ?_⟩
      exact tX11_tree_76 hp _ _ _ _ _ _ _ _ h
    · refine fa_i h (fun x4_2 ex4_2 h => ?_)
      refine fa_i h (fun x5_3 ex5_3 h => ?_)
      exact ih _ _ _ _ _ h
def zX11_tree (post : Int32 → Vd → Bool) (x1 : Int32) (x2 : Int32) (x3 : Int32) (w : Vd) : Bool := fw (vI w 300 48 (0 : Int32)) (fun w_1 => zX11_laySamples (fun w_2 => zX11_isIn (fun r_3 w_4 => (if r_3 = 0 then post (-1 : Int32) w_4 else zX11_isIn (fun r_6 w_7 => (if r_6 = 0 then post (-1 : Int32) w_7 else zX11_tree_41 post 70000 x1 x2 (1 : Int32) (1 : Int32) w_7)) x2 (0 : Int32) (1 : Int32) w_4)) x1 (0 : Int32) ((w_2.1 300 63) - (1 : Int32)) w_2) x3 w_1)
theorem tX11_tree  {post : Int32 → Wd → Prop} {pb : Int32 → Vd → Bool} (hp : ∀ (r : Int32) (w : Wd), pb r (prj w) = true → post r w) {x1 : Int32} {x2 : Int32} {x3 : Int32} {w : Wd} (h : zX11_tree  pb  x1 x2 x3 (prj w) = true) : pX11_tree  post  x1 x2 x3 w := by
  unfold pX11_tree
  unfold zX11_tree at h
  refine fa_w rfl h (fun w_1 ew_1 h => ?_)
  refine tX11_laySamples (fun w_2 h => ?_)  h
  refine tX11_isIn (fun r_3 w_4 h => ?_)  h
  refine br_i h (fun c h => ?_) (fun c h => ?_)
  · exact hp _ _ h
  · refine tX11_isIn (fun r_6 w_7 h => ?_)  h
    refine br_n h (fun c h => ?_) (fun c h => ?_)
    · refine ⟨70000, ?_⟩
      exact tX11_tree_41 hp _ _ _ _ _ _ h
    · exact hp _ _ h
def zX11_centre_107 (k31 : Int32 → Int32 → Int32 → Int32 → Vd → Bool) (post : Int32 → Vd → Bool) (x1 : Int32) (x3 : Int32) (x4 : Int32) (x5 : Int32) (w : Vd) : Bool := fz (x5 + (1 : Int32)) (fun x5_1 => k31 x1 x3 x4 x5_1 w)
theorem tX11_centre_107 {k31 : Int32 → Int32 → Int32 → Int32 → Wd → Prop} {k31b : Int32 → Int32 → Int32 → Int32 → Vd → Bool} {post : Int32 → Wd → Prop} {pb : Int32 → Vd → Bool} (hk31 : ∀ (y0 : Int32) (y1 : Int32) (y2 : Int32) (y3 : Int32) (w : Wd), k31b y0 y1 y2 y3 (prj w) = true → k31 y0 y1 y2 y3 w) (hp : ∀ (r : Int32) (w : Wd), pb r (prj w) = true → post r w) {x1 : Int32} {x3 : Int32} {x4 : Int32} {x5 : Int32} {w : Wd} (h : zX11_centre_107 k31b pb  x1 x3 x4 x5 (prj w) = true) : pX11_centre_107 k31 post  x1 x3 x4 x5 w := by
  unfold pX11_centre_107
  unfold zX11_centre_107 at h
  refine fa_i h (fun x5_1 ex5_1 h => ?_)
  exact hk31 _ _ _ _ _ h
def zX11_centre_100 (k31 : Int32 → Int32 → Int32 → Int32 → Vd → Bool) (post : Int32 → Vd → Bool) (x1 : Int32) (x5 : Int32) (x6 : Int32) (w : Vd) : Bool := zX11_centre_107 k31 post x1 x5 x6 x5 w
theorem tX11_centre_100 {k31 : Int32 → Int32 → Int32 → Int32 → Wd → Prop} {k31b : Int32 → Int32 → Int32 → Int32 → Vd → Bool} {post : Int32 → Wd → Prop} {pb : Int32 → Vd → Bool} (hk31 : ∀ (y0 : Int32) (y1 : Int32) (y2 : Int32) (y3 : Int32) (w : Wd), k31b y0 y1 y2 y3 (prj w) = true → k31 y0 y1 y2 y3 w) (hp : ∀ (r : Int32) (w : Wd), pb r (prj w) = true → post r w) {x1 : Int32} {x5 : Int32} {x6 : Int32} {w : Wd} (h : zX11_centre_100 k31b pb  x1 x5 x6 (prj w) = true) : pX11_centre_100 k31 post  x1 x5 x6 w := by
  unfold pX11_centre_100
  unfold zX11_centre_100 at h
  exact tX11_centre_107 hk31 hp  h
def zX11_centre_80 (k46 : Int32 → Int32 → Int32 → Int32 → Int32 → Int32 → Vd → Bool) (post : Int32 → Vd → Bool) (x1 : Int32) (x3 : Int32) (x4 : Int32) (x5 : Int32) (x6 : Int32) (x7 : Int32) (w : Vd) : Bool := fz (x7 + (1 : Int32)) (fun x7_1 => k46 x1 x3 x4 x5 x6 x7_1 w)
theorem tX11_centre_80 {k46 : Int32 → Int32 → Int32 → Int32 → Int32 → Int32 → Wd → Prop} {k46b : Int32 → Int32 → Int32 → Int32 → Int32 → Int32 → Vd → Bool} {post : Int32 → Wd → Prop} {pb : Int32 → Vd → Bool} (hk46 : ∀ (y0 : Int32) (y1 : Int32) (y2 : Int32) (y3 : Int32) (y4 : Int32) (y5 : Int32) (w : Wd), k46b y0 y1 y2 y3 y4 y5 (prj w) = true → k46 y0 y1 y2 y3 y4 y5 w) (hp : ∀ (r : Int32) (w : Wd), pb r (prj w) = true → post r w) {x1 : Int32} {x3 : Int32} {x4 : Int32} {x5 : Int32} {x6 : Int32} {x7 : Int32} {w : Wd} (h : zX11_centre_80 k46b pb  x1 x3 x4 x5 x6 x7 (prj w) = true) : pX11_centre_80 k46 post  x1 x3 x4 x5 x6 x7 w := by
  unfold pX11_centre_80
  unfold zX11_centre_80 at h
  refine fa_i h (fun x7_1 ex7_1 h => ?_)
  exact hk46 _ _ _ _ _ _ _ h
def zX11_centre_46 (k31 : Int32 → Int32 → Int32 → Int32 → Vd → Bool) (post : Int32 → Vd → Bool) : Nat → Int32 → Int32 → Int32 → Int32 → Int32 → Int32 → Vd → Bool
  | 0, _, _, _, _, _, _, _ => false
  | n + 1, x1, x3, x4, x5, x6, x7, w => (if (w.1 300 63) ≤ x7 then (if x3 < 0 then zX11_centre_100 k31 post x1 x5 x6 w else (if x6 < x4 then zX11_centre_100 k31 post x1 x5 x6 w else zX11_centre_107 k31 post x1 x3 x4 x5 w)) else (if x7 = x5 then zX11_centre_80 (zX11_centre_46 k31 post n) post x1 x3 x4 x5 x6 x7 w else (vb (((7 : Int32) * x5) + x7) 49 && fz ((x6 + (w.2.1 363 (((7 : Int32) * x5) + x7).toNatClampNeg))) (fun x6_5 => zX11_centre_80 (zX11_centre_46 k31 post n) post x1 x3 x4 x5 x6_5 x7 w))))
theorem tX11_centre_46 {k31 : Int32 → Int32 → Int32 → Int32 → Wd → Prop} {k31b : Int32 → Int32 → Int32 → Int32 → Vd → Bool} {post : Int32 → Wd → Prop} {pb : Int32 → Vd → Bool} (hk31 : ∀ (y0 : Int32) (y1 : Int32) (y2 : Int32) (y3 : Int32) (w : Wd), k31b y0 y1 y2 y3 (prj w) = true → k31 y0 y1 y2 y3 w) (hp : ∀ (r : Int32) (w : Wd), pb r (prj w) = true → post r w) : ∀ (n : Nat) (x1 : Int32) (x3 : Int32) (x4 : Int32) (x5 : Int32) (x6 : Int32) (x7 : Int32) (w : Wd), zX11_centre_46 k31b pb  n x1 x3 x4 x5 x6 x7 (prj w) = true → pX11_centre_46 k31 post  n x1 x3 x4 x5 x6 x7 w := by
  intro n
  induction n with
  | zero => intro x1 x3 x4 x5 x6 x7 w h; exact absurd (show false = true from h) (by decide)
  | succ n ih =>
    intro x1 x3 x4 x5 x6 x7 w h
    unfold pX11_centre_46
    unfold zX11_centre_46 at h
    refine br_i h (fun c h => ?_) (fun c h => ?_)
    · refine br_i h (fun c h => ?_) (fun c h => ?_)
      · exact tX11_centre_100 hk31 hp  h
      · refine br_i h (fun c h => ?_) (fun c h => ?_)
        · exact tX11_centre_100 hk31 hp  h
        · exact tX11_centre_107 hk31 hp  h
    · refine br_i h (fun c h => ?_) (fun c h => ?_)
      · exact tX11_centre_80 ih hp  h
      · refine gd_v h (fun h => ?_)
        refine fa_i h (fun x6_5 ex6_5 h => ?_)
        exact tX11_centre_80 ih hp  h
def zX11_centre_31 (post : Int32 → Vd → Bool) : Nat → Int32 → Int32 → Int32 → Int32 → Vd → Bool
  | 0, _, _, _, _, _ => false
  | n + 1, x1, x3, x4, x5, w => (if (w.1 300 63) ≤ x5 then (if x1 = 0 then post x3 w else post x4 w) else zX11_centre_46 (zX11_centre_31 post n) post 70000 x1 x3 x4 x5 (0 : Int32) (0 : Int32) w)
theorem tX11_centre_31  {post : Int32 → Wd → Prop} {pb : Int32 → Vd → Bool} (hp : ∀ (r : Int32) (w : Wd), pb r (prj w) = true → post r w) : ∀ (n : Nat) (x1 : Int32) (x3 : Int32) (x4 : Int32) (x5 : Int32) (w : Wd), zX11_centre_31  pb  n x1 x3 x4 x5 (prj w) = true → pX11_centre_31  post  n x1 x3 x4 x5 w := by
  intro n
  induction n with
  | zero => intro x1 x3 x4 x5 w h; exact absurd (show false = true from h) (by decide)
  | succ n ih =>
    intro x1 x3 x4 x5 w h
    unfold pX11_centre_31
    unfold zX11_centre_31 at h
    refine br_i h (fun c h => ?_) (fun c h => ?_)
    · refine br_n h (fun c h => ?_) (fun c h => ?_)
      · exact hp _ _ h
      · exact hp _ _ h
    · refine ⟨70000, ?_⟩
      exact tX11_centre_46 ih hp _ _ _ _ _ _ _ _ h
def zX11_centre (post : Int32 → Vd → Bool) (x1 : Int32) (x2 : Int32) (w : Vd) : Bool := zX11_laySamples (fun w_1 => (if (w_1.1 300 63) = 0 then post (-1 : Int32) w_1 else zX11_isIn (fun r_3 w_4 => (if r_3 = 0 then post (-1 : Int32) w_4 else zX11_centre_31 post 70000 x1 (-1 : Int32) (0 : Int32) (0 : Int32) w_4)) x1 (0 : Int32) (1 : Int32) w_1)) x2 w
theorem tX11_centre  {post : Int32 → Wd → Prop} {pb : Int32 → Vd → Bool} (hp : ∀ (r : Int32) (w : Wd), pb r (prj w) = true → post r w) {x1 : Int32} {x2 : Int32} {w : Wd} (h : zX11_centre  pb  x1 x2 (prj w) = true) : pX11_centre  post  x1 x2 w := by
  unfold pX11_centre
  unfold zX11_centre at h
  refine tX11_laySamples (fun w_1 h => ?_)  h
  refine br_i h (fun c h => ?_) (fun c h => ?_)
  · exact hp _ _ h
  · refine tX11_isIn (fun r_3 w_4 h => ?_)  h
    refine br_n h (fun c h => ?_) (fun c h => ?_)
    · refine ⟨70000, ?_⟩
      exact tX11_centre_31 hp _ _ _ _ _ _ h
    · exact hp _ _ h
def zX11_layClans_176 (k35 : Int32 → Int32 → Int32 → Vd → Bool) (post : Vd → Bool) (x1 : Int32) (x2 : Int32) (x3 : Int32) (w : Vd) : Bool := fz (x3 + (1 : Int32)) (fun x3_1 => k35 x1 x2 x3_1 w)
theorem tX11_layClans_176 {k35 : Int32 → Int32 → Int32 → Wd → Prop} {k35b : Int32 → Int32 → Int32 → Vd → Bool} {post : Wd → Prop} {pb : Vd → Bool} (hk35 : ∀ (y0 : Int32) (y1 : Int32) (y2 : Int32) (w : Wd), k35b y0 y1 y2 (prj w) = true → k35 y0 y1 y2 w) (hp : ∀ (w : Wd), pb (prj w) = true → post w) {x1 : Int32} {x2 : Int32} {x3 : Int32} {w : Wd} (h : zX11_layClans_176 k35b pb  x1 x2 x3 (prj w) = true) : pX11_layClans_176 k35 post  x1 x2 x3 w := by
  unfold pX11_layClans_176
  unfold zX11_layClans_176 at h
  refine fa_i h (fun x3_1 ex3_1 h => ?_)
  exact hk35 _ _ _ _ h
def zX11_layClans_170 (k140 : Int32 → Int32 → Int32 → Int32 → Int32 → Int32 → Vd → Bool) (post : Vd → Bool) (x1 : Int32) (x2 : Int32) (x3 : Int32) (x4 : Int32) (x5 : Int32) (x6 : Int32) (w : Vd) : Bool := fz (x6 + (1 : Int32)) (fun x6_1 => k140 x1 x2 x3 x4 x5 x6_1 w)
theorem tX11_layClans_170 {k140 : Int32 → Int32 → Int32 → Int32 → Int32 → Int32 → Wd → Prop} {k140b : Int32 → Int32 → Int32 → Int32 → Int32 → Int32 → Vd → Bool} {post : Wd → Prop} {pb : Vd → Bool} (hk140 : ∀ (y0 : Int32) (y1 : Int32) (y2 : Int32) (y3 : Int32) (y4 : Int32) (y5 : Int32) (w : Wd), k140b y0 y1 y2 y3 y4 y5 (prj w) = true → k140 y0 y1 y2 y3 y4 y5 w) (hp : ∀ (w : Wd), pb (prj w) = true → post w) {x1 : Int32} {x2 : Int32} {x3 : Int32} {x4 : Int32} {x5 : Int32} {x6 : Int32} {w : Wd} (h : zX11_layClans_170 k140b pb  x1 x2 x3 x4 x5 x6 (prj w) = true) : pX11_layClans_170 k140 post  x1 x2 x3 x4 x5 x6 w := by
  unfold pX11_layClans_170
  unfold zX11_layClans_170 at h
  refine fa_i h (fun x6_1 ex6_1 h => ?_)
  exact hk140 _ _ _ _ _ _ _ h
def zX11_layClans_140 (k35 : Int32 → Int32 → Int32 → Vd → Bool) (post : Vd → Bool) : Nat → Int32 → Int32 → Int32 → Int32 → Int32 → Int32 → Vd → Bool
  | 0, _, _, _, _, _, _, _ => false
  | n + 1, x1, x2, x3, x4, x5, x6, w => (if (w.1 300 63) ≤ x6 then zX11_layClans_176 k35 post x1 x2 x3 w else (vb x6 7 && (if (w.2.1 365 x6.toNatClampNeg) = x5 then (vb x6 7 && fw (vA w 365 x6.toNatClampNeg x4) (fun w_3 => zX11_layClans_170 (zX11_layClans_140 k35 post n) post x1 x2 x3 x4 x5 x6 w_3)) else zX11_layClans_170 (zX11_layClans_140 k35 post n) post x1 x2 x3 x4 x5 x6 w)))
theorem tX11_layClans_140 {k35 : Int32 → Int32 → Int32 → Wd → Prop} {k35b : Int32 → Int32 → Int32 → Vd → Bool} {post : Wd → Prop} {pb : Vd → Bool} (hk35 : ∀ (y0 : Int32) (y1 : Int32) (y2 : Int32) (w : Wd), k35b y0 y1 y2 (prj w) = true → k35 y0 y1 y2 w) (hp : ∀ (w : Wd), pb (prj w) = true → post w) : ∀ (n : Nat) (x1 : Int32) (x2 : Int32) (x3 : Int32) (x4 : Int32) (x5 : Int32) (x6 : Int32) (w : Wd), zX11_layClans_140 k35b pb  n x1 x2 x3 x4 x5 x6 (prj w) = true → pX11_layClans_140 k35 post  n x1 x2 x3 x4 x5 x6 w := by
  intro n
  induction n with
  | zero => intro x1 x2 x3 x4 x5 x6 w h; exact absurd (show false = true from h) (by decide)
  | succ n ih =>
    intro x1 x2 x3 x4 x5 x6 w h
    unfold pX11_layClans_140
    unfold zX11_layClans_140 at h
    refine br_i h (fun c h => ?_) (fun c h => ?_)
    · exact tX11_layClans_176 hk35 hp  h
    · refine gd_v h (fun h => ?_)
      refine br_n h (fun c h => ?_) (fun c h => ?_)
      · exact tX11_layClans_170 ih hp  h
      · refine gd_v h (fun h => ?_)
        refine fa_w rfl h (fun w_3 ew_3 h => ?_)
        exact tX11_layClans_170 ih hp  h
def zX11_layClans_135 (k35 : Int32 → Int32 → Int32 → Vd → Bool) (post : Vd → Bool) (x1 : Int32) (x2 : Int32) (x3 : Int32) (x4 : Int32) (t0 : Int32) (w : Vd) : Bool := zX11_layClans_140 k35 post 70000 x1 x2 x3 x4 t0 (0 : Int32) w
theorem tX11_layClans_135 {k35 : Int32 → Int32 → Int32 → Wd → Prop} {k35b : Int32 → Int32 → Int32 → Vd → Bool} {post : Wd → Prop} {pb : Vd → Bool} (hk35 : ∀ (y0 : Int32) (y1 : Int32) (y2 : Int32) (w : Wd), k35b y0 y1 y2 (prj w) = true → k35 y0 y1 y2 w) (hp : ∀ (w : Wd), pb (prj w) = true → post w) {x1 : Int32} {x2 : Int32} {x3 : Int32} {x4 : Int32} {t0 : Int32} {w : Wd} (h : zX11_layClans_135 k35b pb  x1 x2 x3 x4 t0 (prj w) = true) : pX11_layClans_135 k35 post  x1 x2 x3 x4 t0 w := by
  unfold pX11_layClans_135
  unfold zX11_layClans_135 at h
  refine ⟨70000, ?_⟩
  exact tX11_layClans_140 hk35 hp _ _ _ _ _ _ _ _ h
def zX11_layClans_103 (k35 : Int32 → Int32 → Int32 → Vd → Bool) (post : Vd → Bool) (x1 : Int32) (x2 : Int32) (x3 : Int32) (t0 : Int32) (w : Vd) : Bool := (vb x2 7 && (vb x3 7 && (if (w.2.1 365 x3.toNatClampNeg) ≤ (w.2.1 365 x2.toNatClampNeg) then (vb x2 7 && zX11_layClans_135 k35 post x1 x2 x3 t0 (w.2.1 365 x2.toNatClampNeg) w) else (vb x3 7 && zX11_layClans_135 k35 post x1 x2 x3 t0 (w.2.1 365 x3.toNatClampNeg) w))))
theorem tX11_layClans_103 {k35 : Int32 → Int32 → Int32 → Wd → Prop} {k35b : Int32 → Int32 → Int32 → Vd → Bool} {post : Wd → Prop} {pb : Vd → Bool} (hk35 : ∀ (y0 : Int32) (y1 : Int32) (y2 : Int32) (w : Wd), k35b y0 y1 y2 (prj w) = true → k35 y0 y1 y2 w) (hp : ∀ (w : Wd), pb (prj w) = true → post w) {x1 : Int32} {x2 : Int32} {x3 : Int32} {t0 : Int32} {w : Wd} (h : zX11_layClans_103 k35b pb  x1 x2 x3 t0 (prj w) = true) : pX11_layClans_103 k35 post  x1 x2 x3 t0 w := by
  unfold pX11_layClans_103
  unfold zX11_layClans_103 at h
  refine gd_v h (fun h => ?_)
  refine gd_v h (fun h => ?_)
  refine br_i h (fun c h => ?_) (fun c h => ?_)
  · refine gd_v h (fun h => ?_)
    exact tX11_layClans_135 hk35 hp  h
  · refine gd_v h (fun h => ?_)
    exact tX11_layClans_135 hk35 hp  h
def zX11_layClans_73 (k35 : Int32 → Int32 → Int32 → Vd → Bool) (post : Vd → Bool) (x1 : Int32) (x2 : Int32) (x3 : Int32) (w : Vd) : Bool := (vb x2 7 && (vb x3 7 && (if (w.2.1 365 x3.toNatClampNeg) ≤ (w.2.1 365 x2.toNatClampNeg) then (vb x3 7 && zX11_layClans_103 k35 post x1 x2 x3 (w.2.1 365 x3.toNatClampNeg) w) else (vb x2 7 && zX11_layClans_103 k35 post x1 x2 x3 (w.2.1 365 x2.toNatClampNeg) w))))
theorem tX11_layClans_73 {k35 : Int32 → Int32 → Int32 → Wd → Prop} {k35b : Int32 → Int32 → Int32 → Vd → Bool} {post : Wd → Prop} {pb : Vd → Bool} (hk35 : ∀ (y0 : Int32) (y1 : Int32) (y2 : Int32) (w : Wd), k35b y0 y1 y2 (prj w) = true → k35 y0 y1 y2 w) (hp : ∀ (w : Wd), pb (prj w) = true → post w) {x1 : Int32} {x2 : Int32} {x3 : Int32} {w : Wd} (h : zX11_layClans_73 k35b pb  x1 x2 x3 (prj w) = true) : pX11_layClans_73 k35 post  x1 x2 x3 w := by
  unfold pX11_layClans_73
  unfold zX11_layClans_73 at h
  refine gd_v h (fun h => ?_)
  refine gd_v h (fun h => ?_)
  refine br_i h (fun c h => ?_) (fun c h => ?_)
  · refine gd_v h (fun h => ?_)
    exact tX11_layClans_103 hk35 hp  h
  · refine gd_v h (fun h => ?_)
    exact tX11_layClans_103 hk35 hp  h
def zX11_layClans_35 (k25 : Int32 → Int32 → Vd → Bool) (post : Vd → Bool) : Nat → Int32 → Int32 → Int32 → Vd → Bool
  | 0, _, _, _, _ => false
  | n + 1, x1, x2, x3, w => (if x2 ≤ x3 then fz (x2 + (1 : Int32)) (fun x2_2 => k25 x1 x2_2 w) else (vb (((7 : Int32) * x2) + x3) 49 && (if (w.2.1 363 (((7 : Int32) * x2) + x3).toNatClampNeg) ≤ x1 then zX11_layClans_73 (zX11_layClans_35 k25 post n) post x1 x2 x3 w else (vb (((7 : Int32) * x3) + x2) 49 && (if (w.2.1 363 (((7 : Int32) * x3) + x2).toNatClampNeg) ≤ x1 then zX11_layClans_73 (zX11_layClans_35 k25 post n) post x1 x2 x3 w else zX11_layClans_176 (zX11_layClans_35 k25 post n) post x1 x2 x3 w)))))
theorem tX11_layClans_35 {k25 : Int32 → Int32 → Wd → Prop} {k25b : Int32 → Int32 → Vd → Bool} {post : Wd → Prop} {pb : Vd → Bool} (hk25 : ∀ (y0 : Int32) (y1 : Int32) (w : Wd), k25b y0 y1 (prj w) = true → k25 y0 y1 w) (hp : ∀ (w : Wd), pb (prj w) = true → post w) : ∀ (n : Nat) (x1 : Int32) (x2 : Int32) (x3 : Int32) (w : Wd), zX11_layClans_35 k25b pb  n x1 x2 x3 (prj w) = true → pX11_layClans_35 k25 post  n x1 x2 x3 w := by
  intro n
  induction n with
  | zero => intro x1 x2 x3 w h; exact absurd (show false = true from h) (by decide)
  | succ n ih =>
    intro x1 x2 x3 w h
    unfold pX11_layClans_35
    unfold zX11_layClans_35 at h
    refine br_i h (fun c h => ?_) (fun c h => ?_)
    · refine fa_i h (fun x2_2 ex2_2 h => ?_)
      exact hk25 _ _ _ h
    · refine gd_v h (fun h => ?_)
      refine br_i h (fun c h => ?_) (fun c h => ?_)
      · exact tX11_layClans_73 ih hp  h
      · refine gd_v h (fun h => ?_)
        refine br_i h (fun c h => ?_) (fun c h => ?_)
        · exact tX11_layClans_73 ih hp  h
        · exact tX11_layClans_176 ih hp  h
def zX11_layClans_25 (post : Vd → Bool) : Nat → Int32 → Int32 → Vd → Bool
  | 0, _, _, _ => false
  | n + 1, x1, x2, w => (if (w.1 300 63) ≤ x2 then post w else zX11_layClans_35 (zX11_layClans_25 post n) post 70000 x1 x2 (0 : Int32) w)
theorem tX11_layClans_25  {post : Wd → Prop} {pb : Vd → Bool} (hp : ∀ (w : Wd), pb (prj w) = true → post w) : ∀ (n : Nat) (x1 : Int32) (x2 : Int32) (w : Wd), zX11_layClans_25  pb  n x1 x2 (prj w) = true → pX11_layClans_25  post  n x1 x2 w := by
  intro n
  induction n with
  | zero => intro x1 x2 w h; exact absurd (show false = true from h) (by decide)
  | succ n ih =>
    intro x1 x2 w h
    unfold pX11_layClans_25
    unfold zX11_layClans_25 at h
    refine br_i h (fun c h => ?_) (fun c h => ?_)
    · exact hp _ h
    · refine ⟨70000, ?_⟩
      exact tX11_layClans_35 ih hp _ _ _ _ _ h
def zX11_layClans_2 (post : Vd → Bool) : Nat → Int32 → Int32 → Vd → Bool
  | 0, _, _, _ => false
  | n + 1, x1, x2, w => (if (w.1 300 63) ≤ x2 then zX11_layClans_25 post 70000 x1 (0 : Int32) w else (vb x2 7 && fw (vA w 365 x2.toNatClampNeg x2) (fun w_2 => fz (x2 + (1 : Int32)) (fun x2_3 => zX11_layClans_2 post n x1 x2_3 w_2))))
theorem tX11_layClans_2  {post : Wd → Prop} {pb : Vd → Bool} (hp : ∀ (w : Wd), pb (prj w) = true → post w) : ∀ (n : Nat) (x1 : Int32) (x2 : Int32) (w : Wd), zX11_layClans_2  pb  n x1 x2 (prj w) = true → pX11_layClans_2  post  n x1 x2 w := by
  intro n
  induction n with
  | zero => intro x1 x2 w h; exact absurd (show false = true from h) (by decide)
  | succ n ih =>
    intro x1 x2 w h
    unfold pX11_layClans_2
    unfold zX11_layClans_2 at h
    refine br_i h (fun c h => ?_) (fun c h => ?_)
    · refine ⟨70000, ?_⟩
      exact tX11_layClans_25 hp _ _ _ _ h
    · refine gd_v h (fun h => ?_)
      refine fa_w rfl h (fun w_2 ew_2 h => ?_)
      refine fa_i h (fun x2_3 ex2_3 h => ?_)
      exact ih _ _ _ h
def zX11_layClans (post : Vd → Bool) (x1 : Int32) (w : Vd) : Bool := zX11_layClans_2 post 70000 x1 (0 : Int32) w
theorem tX11_layClans  {post : Wd → Prop} {pb : Vd → Bool} (hp : ∀ (w : Wd), pb (prj w) = true → post w) {x1 : Int32} {w : Wd} (h : zX11_layClans  pb  x1 (prj w) = true) : pX11_layClans  post  x1 w := by
  unfold pX11_layClans
  unfold zX11_layClans at h
  refine ⟨70000, ?_⟩
  exact tX11_layClans_2 hp _ _ _ _ h
def zX11_clans_118 (k40 : Int32 → Int32 → Int32 → Int32 → Vd → Bool) (post : Int32 → Vd → Bool) (x2 : Int32) (x4 : Int32) (x5 : Int32) (x6 : Int32) (w : Vd) : Bool := fz (x6 + (1 : Int32)) (fun x6_1 => k40 x2 x4 x5 x6_1 w)
theorem tX11_clans_118 {k40 : Int32 → Int32 → Int32 → Int32 → Wd → Prop} {k40b : Int32 → Int32 → Int32 → Int32 → Vd → Bool} {post : Int32 → Wd → Prop} {pb : Int32 → Vd → Bool} (hk40 : ∀ (y0 : Int32) (y1 : Int32) (y2 : Int32) (y3 : Int32) (w : Wd), k40b y0 y1 y2 y3 (prj w) = true → k40 y0 y1 y2 y3 w) (hp : ∀ (r : Int32) (w : Wd), pb r (prj w) = true → post r w) {x2 : Int32} {x4 : Int32} {x5 : Int32} {x6 : Int32} {w : Wd} (h : zX11_clans_118 k40b pb  x2 x4 x5 x6 (prj w) = true) : pX11_clans_118 k40 post  x2 x4 x5 x6 w := by
  unfold pX11_clans_118
  unfold zX11_clans_118 at h
  refine fa_i h (fun x6_1 ex6_1 h => ?_)
  exact hk40 _ _ _ _ _ h
def zX11_clans_104 (k40 : Int32 → Int32 → Int32 → Int32 → Vd → Bool) (post : Int32 → Vd → Bool) (x2 : Int32) (x5 : Int32) (x6 : Int32) (x7 : Int32) (t0 : Int32) (t1 : Int32) (w : Vd) : Bool := fz ((t0 + t1)) (fun x4_1 => (if x7 ≤ x5 then zX11_clans_118 k40 post x2 x4_1 x5 x6 w else zX11_clans_118 k40 post x2 x4_1 x7 x6 w))
theorem tX11_clans_104 {k40 : Int32 → Int32 → Int32 → Int32 → Wd → Prop} {k40b : Int32 → Int32 → Int32 → Int32 → Vd → Bool} {post : Int32 → Wd → Prop} {pb : Int32 → Vd → Bool} (hk40 : ∀ (y0 : Int32) (y1 : Int32) (y2 : Int32) (y3 : Int32) (w : Wd), k40b y0 y1 y2 y3 (prj w) = true → k40 y0 y1 y2 y3 w) (hp : ∀ (r : Int32) (w : Wd), pb r (prj w) = true → post r w) {x2 : Int32} {x5 : Int32} {x6 : Int32} {x7 : Int32} {t0 : Int32} {t1 : Int32} {w : Wd} (h : zX11_clans_104 k40b pb  x2 x5 x6 x7 t0 t1 (prj w) = true) : pX11_clans_104 k40 post  x2 x5 x6 x7 t0 t1 w := by
  unfold pX11_clans_104
  unfold zX11_clans_104 at h
  refine fa_i h (fun x4_1 ex4_1 h => ?_)
  refine br_i h (fun c h => ?_) (fun c h => ?_)
  · exact tX11_clans_118 hk40 hp  h
  · exact tX11_clans_118 hk40 hp  h
def zX11_clans_83 (k55 : Int32 → Int32 → Int32 → Int32 → Int32 → Int32 → Vd → Bool) (post : Int32 → Vd → Bool) (x2 : Int32) (x4 : Int32) (x5 : Int32) (x6 : Int32) (x8 : Int32) (t0 : Int32) (t1 : Int32) (w : Vd) : Bool := fz ((t0 + t1)) (fun x7_1 => fz (x8 + (1 : Int32)) (fun x8_2 => k55 x2 x4 x5 x6 x7_1 x8_2 w))
theorem tX11_clans_83 {k55 : Int32 → Int32 → Int32 → Int32 → Int32 → Int32 → Wd → Prop} {k55b : Int32 → Int32 → Int32 → Int32 → Int32 → Int32 → Vd → Bool} {post : Int32 → Wd → Prop} {pb : Int32 → Vd → Bool} (hk55 : ∀ (y0 : Int32) (y1 : Int32) (y2 : Int32) (y3 : Int32) (y4 : Int32) (y5 : Int32) (w : Wd), k55b y0 y1 y2 y3 y4 y5 (prj w) = true → k55 y0 y1 y2 y3 y4 y5 w) (hp : ∀ (r : Int32) (w : Wd), pb r (prj w) = true → post r w) {x2 : Int32} {x4 : Int32} {x5 : Int32} {x6 : Int32} {x8 : Int32} {t0 : Int32} {t1 : Int32} {w : Wd} (h : zX11_clans_83 k55b pb  x2 x4 x5 x6 x8 t0 t1 (prj w) = true) : pX11_clans_83 k55 post  x2 x4 x5 x6 x8 t0 t1 w := by
  unfold pX11_clans_83
  unfold zX11_clans_83 at h
  refine fa_i h (fun x7_1 ex7_1 h => ?_)
  refine fa_i h (fun x8_2 ex8_2 h => ?_)
  exact hk55 _ _ _ _ _ _ _ h
def zX11_clans_55 (k40 : Int32 → Int32 → Int32 → Int32 → Vd → Bool) (post : Int32 → Vd → Bool) : Nat → Int32 → Int32 → Int32 → Int32 → Int32 → Int32 → Vd → Bool
  | 0, _, _, _, _, _, _, _ => false
  | n + 1, x2, x4, x5, x6, x7, x8, w => (if (w.1 300 63) ≤ x8 then (if x7 ≤ 0 then zX11_clans_104 k40 post x2 x5 x6 x7 x4 (0 : Int32) w else zX11_clans_104 k40 post x2 x5 x6 x7 x4 (1 : Int32) w) else (vb x8 7 && (if (w.2.1 365 x8.toNatClampNeg) = x6 then zX11_clans_83 (zX11_clans_55 k40 post n) post x2 x4 x5 x6 x8 x7 (1 : Int32) w else zX11_clans_83 (zX11_clans_55 k40 post n) post x2 x4 x5 x6 x8 x7 (0 : Int32) w)))
theorem tX11_clans_55 {k40 : Int32 → Int32 → Int32 → Int32 → Wd → Prop} {k40b : Int32 → Int32 → Int32 → Int32 → Vd → Bool} {post : Int32 → Wd → Prop} {pb : Int32 → Vd → Bool} (hk40 : ∀ (y0 : Int32) (y1 : Int32) (y2 : Int32) (y3 : Int32) (w : Wd), k40b y0 y1 y2 y3 (prj w) = true → k40 y0 y1 y2 y3 w) (hp : ∀ (r : Int32) (w : Wd), pb r (prj w) = true → post r w) : ∀ (n : Nat) (x2 : Int32) (x4 : Int32) (x5 : Int32) (x6 : Int32) (x7 : Int32) (x8 : Int32) (w : Wd), zX11_clans_55 k40b pb  n x2 x4 x5 x6 x7 x8 (prj w) = true → pX11_clans_55 k40 post  n x2 x4 x5 x6 x7 x8 w := by
  intro n
  induction n with
  | zero => intro x2 x4 x5 x6 x7 x8 w h; exact absurd (show false = true from h) (by decide)
  | succ n ih =>
    intro x2 x4 x5 x6 x7 x8 w h
    unfold pX11_clans_55
    unfold zX11_clans_55 at h
    refine br_i h (fun c h => ?_) (fun c h => ?_)
    · refine br_i h (fun c h => ?_) (fun c h => ?_)
      · exact tX11_clans_104 hk40 hp  h
      · exact tX11_clans_104 hk40 hp  h
    · refine gd_v h (fun h => ?_)
      refine br_n h (fun c h => ?_) (fun c h => ?_)
      · exact tX11_clans_83 ih hp  h
      · exact tX11_clans_83 ih hp  h
def zX11_clans_40 (post : Int32 → Vd → Bool) : Nat → Int32 → Int32 → Int32 → Int32 → Vd → Bool
  | 0, _, _, _, _, _ => false
  | n + 1, x2, x4, x5, x6, w => (if (w.1 300 63) ≤ x6 then (if x2 = 0 then post x4 w else post x5 w) else zX11_clans_55 (zX11_clans_40 post n) post 70000 x2 x4 x5 x6 (0 : Int32) (0 : Int32) w)
theorem tX11_clans_40  {post : Int32 → Wd → Prop} {pb : Int32 → Vd → Bool} (hp : ∀ (r : Int32) (w : Wd), pb r (prj w) = true → post r w) : ∀ (n : Nat) (x2 : Int32) (x4 : Int32) (x5 : Int32) (x6 : Int32) (w : Wd), zX11_clans_40  pb  n x2 x4 x5 x6 (prj w) = true → pX11_clans_40  post  n x2 x4 x5 x6 w := by
  intro n
  induction n with
  | zero => intro x2 x4 x5 x6 w h; exact absurd (show false = true from h) (by decide)
  | succ n ih =>
    intro x2 x4 x5 x6 w h
    unfold pX11_clans_40
    unfold zX11_clans_40 at h
    refine br_i h (fun c h => ?_) (fun c h => ?_)
    · refine br_n h (fun c h => ?_) (fun c h => ?_)
      · exact hp _ _ h
      · exact hp _ _ h
    · refine ⟨70000, ?_⟩
      exact tX11_clans_55 ih hp _ _ _ _ _ _ _ _ h
def zX11_clans (post : Int32 → Vd → Bool) (x1 : Int32) (x2 : Int32) (x3 : Int32) (w : Vd) : Bool := zX11_isIn (fun r_1 w_2 => (if r_1 = 0 then post (-1 : Int32) w_2 else zX11_isIn (fun r_4 w_5 => (if r_4 = 0 then post (-1 : Int32) w_5 else zX11_laySamples (fun w_7 => zX11_layClans (fun w_8 => zX11_clans_40 post 70000 x2 (0 : Int32) (0 : Int32) (0 : Int32) w_8) x1 w_7) x3 w_5)) x2 (0 : Int32) (1 : Int32) w_2)) x1 (0 : Int32) (24 : Int32) w
theorem tX11_clans  {post : Int32 → Wd → Prop} {pb : Int32 → Vd → Bool} (hp : ∀ (r : Int32) (w : Wd), pb r (prj w) = true → post r w) {x1 : Int32} {x2 : Int32} {x3 : Int32} {w : Wd} (h : zX11_clans  pb  x1 x2 x3 (prj w) = true) : pX11_clans  post  x1 x2 x3 w := by
  unfold pX11_clans
  unfold zX11_clans at h
  refine tX11_isIn (fun r_1 w_2 h => ?_)  h
  refine br_i h (fun c h => ?_) (fun c h => ?_)
  · exact hp _ _ h
  · refine tX11_isIn (fun r_4 w_5 h => ?_)  h
    refine br_n h (fun c h => ?_) (fun c h => ?_)
    · refine tX11_laySamples (fun w_7 h => ?_)  h
      refine tX11_layClans (fun w_8 h => ?_)  h
      refine ⟨70000, ?_⟩
      exact tX11_clans_40 hp _ _ _ _ _ _ h
    · exact hp _ _ h
def zX11_origin_156 (k19 : Int32 → Int32 → Int32 → Int32 → Int32 → Vd → Bool) (post : Int32 → Vd → Bool) (x1 : Int32) (x2 : Int32) (x3 : Int32) (x5 : Int32) (t0 : Int32) (t1 : Int32) (w : Vd) : Bool := fz ((t0 + t1)) (fun x4_1 => fz (x5 + (1 : Int32)) (fun x5_2 => k19 x1 x2 x3 x4_1 x5_2 w))
theorem tX11_origin_156 {k19 : Int32 → Int32 → Int32 → Int32 → Int32 → Wd → Prop} {k19b : Int32 → Int32 → Int32 → Int32 → Int32 → Vd → Bool} {post : Int32 → Wd → Prop} {pb : Int32 → Vd → Bool} (hk19 : ∀ (y0 : Int32) (y1 : Int32) (y2 : Int32) (y3 : Int32) (y4 : Int32) (w : Wd), k19b y0 y1 y2 y3 y4 (prj w) = true → k19 y0 y1 y2 y3 y4 w) (hp : ∀ (r : Int32) (w : Wd), pb r (prj w) = true → post r w) {x1 : Int32} {x2 : Int32} {x3 : Int32} {x5 : Int32} {t0 : Int32} {t1 : Int32} {w : Wd} (h : zX11_origin_156 k19b pb  x1 x2 x3 x5 t0 t1 (prj w) = true) : pX11_origin_156 k19 post  x1 x2 x3 x5 t0 t1 w := by
  unfold pX11_origin_156
  unfold zX11_origin_156 at h
  refine fa_i h (fun x4_1 ex4_1 h => ?_)
  refine fa_i h (fun x5_2 ex5_2 h => ?_)
  exact hk19 _ _ _ _ _ _ h
def zX11_origin_136 (k19 : Int32 → Int32 → Int32 → Int32 → Int32 → Vd → Bool) (post : Int32 → Vd → Bool) (x1 : Int32) (x2 : Int32) (x3 : Int32) (x4 : Int32) (x5 : Int32) (x6 : Int32) (x7 : Int32) (w : Vd) : Bool := (if ((2 : Int32) * x6) ≤ x7 then zX11_origin_156 k19 post x1 x2 x3 x5 x4 ((2 : Int32) * x6) w else zX11_origin_156 k19 post x1 x2 x3 x5 x4 x7 w)
theorem tX11_origin_136 {k19 : Int32 → Int32 → Int32 → Int32 → Int32 → Wd → Prop} {k19b : Int32 → Int32 → Int32 → Int32 → Int32 → Vd → Bool} {post : Int32 → Wd → Prop} {pb : Int32 → Vd → Bool} (hk19 : ∀ (y0 : Int32) (y1 : Int32) (y2 : Int32) (y3 : Int32) (y4 : Int32) (w : Wd), k19b y0 y1 y2 y3 y4 (prj w) = true → k19 y0 y1 y2 y3 y4 w) (hp : ∀ (r : Int32) (w : Wd), pb r (prj w) = true → post r w) {x1 : Int32} {x2 : Int32} {x3 : Int32} {x4 : Int32} {x5 : Int32} {x6 : Int32} {x7 : Int32} {w : Wd} (h : zX11_origin_136 k19b pb  x1 x2 x3 x4 x5 x6 x7 (prj w) = true) : pX11_origin_136 k19 post  x1 x2 x3 x4 x5 x6 x7 w := by
  unfold pX11_origin_136
  unfold zX11_origin_136 at h
  refine br_i h (fun c h => ?_) (fun c h => ?_)
  · exact tX11_origin_156 hk19 hp  h
  · exact tX11_origin_156 hk19 hp  h
def zX11_origin_37 (k19 : Int32 → Int32 → Int32 → Int32 → Int32 → Vd → Bool) (post : Int32 → Vd → Bool) : Nat → Int32 → Int32 → Int32 → Int32 → Int32 → Int32 → Int32 → Int32 → Vd → Bool
  | 0, _, _, _, _, _, _, _, _, _ => false
  | n + 1, x1, x2, x3, x4, x5, x6, x7, x8, w => (if (w.1 300 58) ≤ x8 then (if ((2 : Int32) * x6) ≤ x7 then zX11_origin_136 k19 post x1 x2 x3 x4 x5 x6 x7 w else fz ((x3 ||| ((1 : Int32) <<< (x5 &&& 31)))) (fun x3_3 => zX11_origin_136 k19 post x1 x2 x3_3 x4 x5 x6 x7 w)) else false)
theorem tX11_origin_37 {k19 : Int32 → Int32 → Int32 → Int32 → Int32 → Wd → Prop} {k19b : Int32 → Int32 → Int32 → Int32 → Int32 → Vd → Bool} {post : Int32 → Wd → Prop} {pb : Int32 → Vd → Bool} (hk19 : ∀ (y0 : Int32) (y1 : Int32) (y2 : Int32) (y3 : Int32) (y4 : Int32) (w : Wd), k19b y0 y1 y2 y3 y4 (prj w) = true → k19 y0 y1 y2 y3 y4 w) (hp : ∀ (r : Int32) (w : Wd), pb r (prj w) = true → post r w) : ∀ (n : Nat) (x1 : Int32) (x2 : Int32) (x3 : Int32) (x4 : Int32) (x5 : Int32) (x6 : Int32) (x7 : Int32) (x8 : Int32) (w : Wd), zX11_origin_37 k19b pb  n x1 x2 x3 x4 x5 x6 x7 x8 (prj w) = true → pX11_origin_37 k19 post  n x1 x2 x3 x4 x5 x6 x7 x8 w := by
  intro n
  induction n with
  | zero => intro x1 x2 x3 x4 x5 x6 x7 x8 w h; exact absurd (show false = true from h) (by decide)
  | succ n ih =>
    intro x1 x2 x3 x4 x5 x6 x7 x8 w h
    unfold pX11_origin_37
    unfold zX11_origin_37 at h
    refine br_i h (fun c h => ?_) (fun c h => ?_)
    · refine br_i h (fun c h => ?_) (fun c h => ?_)
      · exact tX11_origin_136 hk19 hp  h
      · refine fa_i h (fun x3_3 ex3_3 h => ?_)
        exact tX11_origin_136 hk19 hp  h
    · exact absurd (show false = true from h) (by decide)
def zX11_origin_19 (post : Int32 → Vd → Bool) : Nat → Int32 → Int32 → Int32 → Int32 → Int32 → Vd → Bool
  | 0, _, _, _, _, _, _ => false
  | n + 1, x1, x2, x3, x4, x5, w => zX11_width (fun r_1 w_2 => (if r_1 ≤ x5 then (if x1 = 0 then post x3 w_2 else post x4 w_2) else zX11_origin_37 (zX11_origin_19 post n) post 70000 x1 x2 x3 x4 x5 (0 : Int32) (0 : Int32) (0 : Int32) w_2)) w
theorem tX11_origin_19  {post : Int32 → Wd → Prop} {pb : Int32 → Vd → Bool} (hp : ∀ (r : Int32) (w : Wd), pb r (prj w) = true → post r w) : ∀ (n : Nat) (x1 : Int32) (x2 : Int32) (x3 : Int32) (x4 : Int32) (x5 : Int32) (w : Wd), zX11_origin_19  pb  n x1 x2 x3 x4 x5 (prj w) = true → pX11_origin_19  post  n x1 x2 x3 x4 x5 w := by
  intro n
  induction n with
  | zero => intro x1 x2 x3 x4 x5 w h; exact absurd (show false = true from h) (by decide)
  | succ n ih =>
    intro x1 x2 x3 x4 x5 w h
    unfold pX11_origin_19
    unfold zX11_origin_19 at h
    refine tX11_width (fun r_1 w_2 h => ?_)  h
    refine br_i h (fun c h => ?_) (fun c h => ?_)
    · refine br_n h (fun c h => ?_) (fun c h => ?_)
      · exact hp _ _ h
      · exact hp _ _ h
    · refine ⟨70000, ?_⟩
      exact tX11_origin_37 ih hp _ _ _ _ _ _ _ _ _ _ h
def zX11_origin (post : Int32 → Vd → Bool) (x1 : Int32) (x2 : Int32) (w : Vd) : Bool := zX11_isIn (fun r_1 w_2 => (if r_1 = 0 then post (-1 : Int32) w_2 else zX11_origin_19 post 70000 x1 x2 (0 : Int32) (0 : Int32) (0 : Int32) w_2)) x1 (0 : Int32) (1 : Int32) w
theorem tX11_origin  {post : Int32 → Wd → Prop} {pb : Int32 → Vd → Bool} (hp : ∀ (r : Int32) (w : Wd), pb r (prj w) = true → post r w) {x1 : Int32} {x2 : Int32} {w : Wd} (h : zX11_origin  pb  x1 x2 (prj w) = true) : pX11_origin  post  x1 x2 w := by
  unfold pX11_origin
  unfold zX11_origin at h
  refine tX11_isIn (fun r_1 w_2 h => ?_)  h
  refine br_n h (fun c h => ?_) (fun c h => ?_)
  · refine ⟨70000, ?_⟩
    exact tX11_origin_19 hp _ _ _ _ _ _ _ h
  · exact hp _ _ h
def zX11_falses_9 (post : Int32 → Vd → Bool) : Nat → Int32 → Int32 → Int32 → Vd → Bool
  | 0, _, _, _, _ => false
  | n + 1, x1, x2, x3, w => (if (w.1 300 58) ≤ x3 then post x2 w else false)
theorem tX11_falses_9  {post : Int32 → Wd → Prop} {pb : Int32 → Vd → Bool} (hp : ∀ (r : Int32) (w : Wd), pb r (prj w) = true → post r w) : ∀ (n : Nat) (x1 : Int32) (x2 : Int32) (x3 : Int32) (w : Wd), zX11_falses_9  pb  n x1 x2 x3 (prj w) = true → pX11_falses_9  post  n x1 x2 x3 w := by
  intro n
  induction n with
  | zero => intro x1 x2 x3 w h; exact absurd (show false = true from h) (by decide)
  | succ n ih =>
    intro x1 x2 x3 w h
    unfold pX11_falses_9
    unfold zX11_falses_9 at h
    refine br_i h (fun c h => ?_) (fun c h => ?_)
    · exact hp _ _ h
    · exact absurd (show false = true from h) (by decide)
def zX11_falses (post : Int32 → Vd → Bool) (x1 : Int32) (w : Vd) : Bool := fw (vI w 300 48 (0 : Int32)) (fun w_1 => zX11_falses_9 post 70000 x1 (0 : Int32) (0 : Int32) w_1)
theorem tX11_falses  {post : Int32 → Wd → Prop} {pb : Int32 → Vd → Bool} (hp : ∀ (r : Int32) (w : Wd), pb r (prj w) = true → post r w) {x1 : Int32} {w : Wd} (h : zX11_falses  pb  x1 (prj w) = true) : pX11_falses  post  x1 w := by
  unfold pX11_falses
  unfold zX11_falses at h
  refine fa_w rfl h (fun w_1 ew_1 h => ?_)
  refine ⟨70000, ?_⟩
  exact tX11_falses_9 hp _ _ _ _ _ h
def zX11_span_36 (post : Int32 → Vd → Bool) : Nat → Int32 → Int32 → Int32 → Int32 → Int32 → Int32 → Vd → Bool
  | 0, _, _, _, _, _, _, _ => false
  | n + 1, x1, x2, x3, x4, x5, x6, w => (if (w.1 300 58) ≤ x6 then (if x2 = (2 : Int32) then (if x4 ≤ x5 then post ((x5 - x4) + (1 : Int32)) w else post (0 : Int32) w) else (if x4 ≤ x5 then (if x2 = 0 then post x4 w else post x5 w) else post (-1 : Int32) w)) else false)
theorem tX11_span_36  {post : Int32 → Wd → Prop} {pb : Int32 → Vd → Bool} (hp : ∀ (r : Int32) (w : Wd), pb r (prj w) = true → post r w) : ∀ (n : Nat) (x1 : Int32) (x2 : Int32) (x3 : Int32) (x4 : Int32) (x5 : Int32) (x6 : Int32) (w : Wd), zX11_span_36  pb  n x1 x2 x3 x4 x5 x6 (prj w) = true → pX11_span_36  post  n x1 x2 x3 x4 x5 x6 w := by
  intro n
  induction n with
  | zero => intro x1 x2 x3 x4 x5 x6 w h; exact absurd (show false = true from h) (by decide)
  | succ n ih =>
    intro x1 x2 x3 x4 x5 x6 w h
    unfold pX11_span_36
    unfold zX11_span_36 at h
    refine br_i h (fun c h => ?_) (fun c h => ?_)
    · refine br_n h (fun c h => ?_) (fun c h => ?_)
      · refine br_i h (fun c h => ?_) (fun c h => ?_)
        · refine br_n h (fun c h => ?_) (fun c h => ?_)
          · exact hp _ _ h
          · exact hp _ _ h
        · exact hp _ _ h
      · refine br_i h (fun c h => ?_) (fun c h => ?_)
        · exact hp _ _ h
        · exact hp _ _ h
    · exact absurd (show false = true from h) (by decide)
def zX11_span (post : Int32 → Vd → Bool) (x1 : Int32) (x2 : Int32) (x3 : Int32) (w : Vd) : Bool := zX11_width (fun r_1 w_2 => zX11_isIn (fun r_3 w_4 => (if r_3 = 0 then post (-1 : Int32) w_4 else zX11_isIn (fun r_6 w_7 => (if r_6 = 0 then post (-1 : Int32) w_7 else zX11_span_36 post 70000 x1 x2 x3 (0 : Int32) (999 : Int32) (0 : Int32) w_7)) x2 (0 : Int32) (2 : Int32) w_4)) x1 (0 : Int32) (r_1 - (1 : Int32)) w_2) w
theorem tX11_span  {post : Int32 → Wd → Prop} {pb : Int32 → Vd → Bool} (hp : ∀ (r : Int32) (w : Wd), pb r (prj w) = true → post r w) {x1 : Int32} {x2 : Int32} {x3 : Int32} {w : Wd} (h : zX11_span  pb  x1 x2 x3 (prj w) = true) : pX11_span  post  x1 x2 x3 w := by
  unfold pX11_span
  unfold zX11_span at h
  refine tX11_width (fun r_1 w_2 h => ?_)  h
  refine tX11_isIn (fun r_3 w_4 h => ?_)  h
  refine br_i h (fun c h => ?_) (fun c h => ?_)
  · exact hp _ _ h
  · refine tX11_isIn (fun r_6 w_7 h => ?_)  h
    refine br_n h (fun c h => ?_) (fun c h => ?_)
    · refine ⟨70000, ?_⟩
      exact tX11_span_36 hp _ _ _ _ _ _ _ _ h
    · exact hp _ _ h
def zX11_layLinks_30 (post : Int32 → Vd → Bool) : Nat → Int32 → Int32 → Vd → Bool
  | 0, _, _, _ => false
  | n + 1, x1, x2, w => (if (w.1 300 58) ≤ x2 then post (1 : Int32) w else false)
theorem tX11_layLinks_30  {post : Int32 → Wd → Prop} {pb : Int32 → Vd → Bool} (hp : ∀ (r : Int32) (w : Wd), pb r (prj w) = true → post r w) : ∀ (n : Nat) (x1 : Int32) (x2 : Int32) (w : Wd), zX11_layLinks_30  pb  n x1 x2 (prj w) = true → pX11_layLinks_30  post  n x1 x2 w := by
  intro n
  induction n with
  | zero => intro x1 x2 w h; exact absurd (show false = true from h) (by decide)
  | succ n ih =>
    intro x1 x2 w h
    unfold pX11_layLinks_30
    unfold zX11_layLinks_30 at h
    refine br_i h (fun c h => ?_) (fun c h => ?_)
    · exact hp _ _ h
    · exact absurd (show false = true from h) (by decide)
def zX11_layLinks_2 (post : Int32 → Vd → Bool) : Nat → Int32 → Int32 → Vd → Bool
  | 0, _, _, _ => false
  | n + 1, x1, x2, w => (if (8 : Int32) ≤ x2 then zX11_layLinks_30 post 70000 x1 (0 : Int32) w else (vb x2 8 && fw (vA w 366 x2.toNatClampNeg (0 : Int32)) (fun w_2 => (vb x2 8 && fw (vA w_2 367 x2.toNatClampNeg x2) (fun w_3 => fz (x2 + (1 : Int32)) (fun x2_4 => zX11_layLinks_2 post n x1 x2_4 w_3))))))
theorem tX11_layLinks_2  {post : Int32 → Wd → Prop} {pb : Int32 → Vd → Bool} (hp : ∀ (r : Int32) (w : Wd), pb r (prj w) = true → post r w) : ∀ (n : Nat) (x1 : Int32) (x2 : Int32) (w : Wd), zX11_layLinks_2  pb  n x1 x2 (prj w) = true → pX11_layLinks_2  post  n x1 x2 w := by
  intro n
  induction n with
  | zero => intro x1 x2 w h; exact absurd (show false = true from h) (by decide)
  | succ n ih =>
    intro x1 x2 w h
    unfold pX11_layLinks_2
    unfold zX11_layLinks_2 at h
    refine br_i h (fun c h => ?_) (fun c h => ?_)
    · refine ⟨70000, ?_⟩
      exact tX11_layLinks_30 hp _ _ _ _ h
    · refine gd_v h (fun h => ?_)
      refine fa_w rfl h (fun w_2 ew_2 h => ?_)
      refine gd_v h (fun h => ?_)
      refine fa_w rfl h (fun w_3 ew_3 h => ?_)
      refine fa_i h (fun x2_4 ex2_4 h => ?_)
      exact ih _ _ _ h
def zX11_layLinks (post : Int32 → Vd → Bool) (x1 : Int32) (w : Vd) : Bool := zX11_layLinks_2 post 70000 x1 (0 : Int32) w
theorem tX11_layLinks  {post : Int32 → Wd → Prop} {pb : Int32 → Vd → Bool} (hp : ∀ (r : Int32) (w : Wd), pb r (prj w) = true → post r w) {x1 : Int32} {w : Wd} (h : zX11_layLinks  pb  x1 (prj w) = true) : pX11_layLinks  post  x1 w := by
  unfold pX11_layLinks
  unfold zX11_layLinks at h
  refine ⟨70000, ?_⟩
  exact tX11_layLinks_2 hp _ _ _ _ h
def zX11_backward (post : Int32 → Vd → Bool) (x1 : Int32) (x2 : Int32) (w : Vd) : Bool := zX11_isIn (fun r_1 w_2 => (if r_1 = 0 then post (-1 : Int32) w_2 else zX11_layLinks (fun r_4 w_5 => (if r_4 = 0 then post (-2 : Int32) w_5 else (vb x1 8 && (if (w_5.2.1 367 x1.toNatClampNeg) = (w_5.2.1 367 (0 : Int32).toNatClampNeg) then (vb x1 8 && post ((w_5.2.1 366 x1.toNatClampNeg) ^^^ (w_5.2.1 366 (0 : Int32).toNatClampNeg)) w_5) else post (-1 : Int32) w_5)))) x2 w_2)) x1 (0 : Int32) (7 : Int32) w
theorem tX11_backward  {post : Int32 → Wd → Prop} {pb : Int32 → Vd → Bool} (hp : ∀ (r : Int32) (w : Wd), pb r (prj w) = true → post r w) {x1 : Int32} {x2 : Int32} {w : Wd} (h : zX11_backward  pb  x1 x2 (prj w) = true) : pX11_backward  post  x1 x2 w := by
  unfold pX11_backward
  unfold zX11_backward at h
  refine tX11_isIn (fun r_1 w_2 h => ?_)  h
  refine br_n h (fun c h => ?_) (fun c h => ?_)
  · refine tX11_layLinks (fun r_4 w_5 h => ?_)  h
    refine br_n h (fun c h => ?_) (fun c h => ?_)
    · refine gd_v h (fun h => ?_)
      refine br_n h (fun c h => ?_) (fun c h => ?_)
      · exact hp _ _ h
      · refine gd_v h (fun h => ?_)
        exact hp _ _ h
    · exact hp _ _ h
  · exact hp _ _ h
def zX11_lies (post : Int32 → Vd → Bool) (x1 : Int32) (w : Vd) : Bool := zX11_isIn (fun r_1 w_2 => (if r_1 = 0 then post (-2 : Int32) w_2 else (vb x1 12 && post (w_2.2.1 348 x1.toNatClampNeg) w_2))) x1 (0 : Int32) ((w.1 300 48) - (1 : Int32)) w
theorem tX11_lies  {post : Int32 → Wd → Prop} {pb : Int32 → Vd → Bool} (hp : ∀ (r : Int32) (w : Wd), pb r (prj w) = true → post r w) {x1 : Int32} {w : Wd} (h : zX11_lies  pb  x1 (prj w) = true) : pX11_lies  post  x1 w := by
  unfold pX11_lies
  unfold zX11_lies at h
  refine tX11_isIn (fun r_1 w_2 h => ?_)  h
  refine br_i h (fun c h => ?_) (fun c h => ?_)
  · exact hp _ _ h
  · refine gd_v h (fun h => ?_)
    exact hp _ _ h
def zX11_back_22 (post : Int32 → Vd → Bool) : Nat → Int32 → Int32 → Vd → Bool
  | 0, _, _, _ => false
  | n + 1, x1, x2, w => (if (221 : Int32) ≤ x2 then fw (vI w 300 42 (0 : Int32)) (fun w_2 => fw (vI w_2 300 43 (0 : Int32)) (fun w_3 => post (w_3.2.1 341 (216 : Int32).toNatClampNeg) w_3)) else (vb (((221 : Int32) * x1) + x2) 663 && (vb x2 221 && fw (vA w 341 x2.toNatClampNeg (w.2.1 368 (((221 : Int32) * x1) + x2).toNatClampNeg)) (fun w_4 => fz (x2 + (1 : Int32)) (fun x2_5 => zX11_back_22 post n x1 x2_5 w_4)))))
theorem tX11_back_22  {post : Int32 → Wd → Prop} {pb : Int32 → Vd → Bool} (hp : ∀ (r : Int32) (w : Wd), pb r (prj w) = true → post r w) : ∀ (n : Nat) (x1 : Int32) (x2 : Int32) (w : Wd), zX11_back_22  pb  n x1 x2 (prj w) = true → pX11_back_22  post  n x1 x2 w := by
  intro n
  induction n with
  | zero => intro x1 x2 w h; exact absurd (show false = true from h) (by decide)
  | succ n ih =>
    intro x1 x2 w h
    unfold pX11_back_22
    unfold zX11_back_22 at h
    refine br_i h (fun c h => ?_) (fun c h => ?_)
    · refine fa_w rfl h (fun w_2 ew_2 h => ?_)
      refine fa_w rfl h (fun w_3 ew_3 h => ?_)
      exact hp _ _ h
    · refine gd_v h (fun h => ?_)
      refine gd_v h (fun h => ?_)
      refine fa_w rfl h (fun w_4 ew_4 h => ?_)
      refine fa_i h (fun x2_5 ex2_5 h => ?_)
      exact ih _ _ _ h
def zX11_back (post : Int32 → Vd → Bool) (x1 : Int32) (w : Vd) : Bool := zX11_isIn (fun r_1 w_2 => (if r_1 = 0 then post (-1 : Int32) w_2 else (vb x1 3 && (if (w_2.2.1 369 x1.toNatClampNeg) = 0 then post (-1 : Int32) w_2 else zX11_back_22 post 70000 x1 (0 : Int32) w_2)))) x1 (0 : Int32) (2 : Int32) w
theorem tX11_back  {post : Int32 → Wd → Prop} {pb : Int32 → Vd → Bool} (hp : ∀ (r : Int32) (w : Wd), pb r (prj w) = true → post r w) {x1 : Int32} {w : Wd} (h : zX11_back  pb  x1 (prj w) = true) : pX11_back  post  x1 w := by
  unfold pX11_back
  unfold zX11_back at h
  refine tX11_isIn (fun r_1 w_2 h => ?_)  h
  refine br_i h (fun c h => ?_) (fun c h => ?_)
  · exact hp _ _ h
  · refine gd_v h (fun h => ?_)
    refine br_n h (fun c h => ?_) (fun c h => ?_)
    · refine ⟨70000, ?_⟩
      exact tX11_back_22 hp _ _ _ _ h
    · exact hp _ _ h
def zX11_about (post : Int32 → Vd → Bool) (x1 : Int32) (w : Vd) : Bool := (if x1.toInt < 0 ∨ 13 < x1.toInt then post (-1 : Int32) w else (if x1.toInt = 0 then (vb (w.1 300 29) 2 && post (w.2.1 314 (w.1 300 29).toNatClampNeg) w) else (if x1.toInt = 1 then zX11_width (fun r_2 w_3 => post r_2 w_3) w else (if x1.toInt = 2 then post (w.2.1 341 (216 : Int32).toNatClampNeg) w else (if x1.toInt = 3 then post (w.2.1 341 (217 : Int32).toNatClampNeg) w else (if x1.toInt = 4 then post (w.2.1 341 (218 : Int32).toNatClampNeg) w else (if x1.toInt = 5 then post (w.2.1 341 (219 : Int32).toNatClampNeg) w else (if x1.toInt = 6 then post (w.2.1 341 (220 : Int32).toNatClampNeg) w else (if x1.toInt = 7 then post (w.1 300 42) w else (if x1.toInt = 8 then post (w.1 300 43) w else (if x1.toInt = 9 then post (w.1 300 58) w else (if x1.toInt = 10 then post (w.1 300 59) w else (if x1.toInt = 11 then post (w.1 300 2) w else (if x1.toInt = 12 then (vb (w.1 300 29) 2 && post (w.2.1 315 (w.1 300 29).toNatClampNeg) w) else (if x1.toInt = 13 then post (w.1 300 48) w else false)))))))))))))))
theorem tX11_about  {post : Int32 → Wd → Prop} {pb : Int32 → Vd → Bool} (hp : ∀ (r : Int32) (w : Wd), pb r (prj w) = true → post r w) {x1 : Int32} {w : Wd} (h : zX11_about  pb  x1 (prj w) = true) : pX11_about  post  x1 w := by
  unfold pX11_about
  unfold zX11_about at h
  refine sw_o h (fun c h => ?_) ?_
  · exact hp _ _ h
  · intro hn
    refine ⟨fun c => ?_, ?_⟩
    · have h := hn (by omega)
      rw [if_pos c] at h
      refine gd_v h (fun h => ?_)
      exact hp _ _ h
    refine ⟨fun c => ?_, ?_⟩
    · have h := hn (by omega)
      rw [if_neg (show ¬ (x1.toInt = 0) by omega)] at h
      rw [if_pos c] at h
      refine tX11_width (fun r_2 w_3 h => ?_)  h
      exact hp _ _ h
    refine ⟨fun c => ?_, ?_⟩
    · have h := hn (by omega)
      rw [if_neg (show ¬ (x1.toInt = 0) by omega)] at h
      rw [if_neg (show ¬ (x1.toInt = 1) by omega)] at h
      rw [if_pos c] at h
      exact hp _ _ h
    refine ⟨fun c => ?_, ?_⟩
    · have h := hn (by omega)
      rw [if_neg (show ¬ (x1.toInt = 0) by omega)] at h
      rw [if_neg (show ¬ (x1.toInt = 1) by omega)] at h
      rw [if_neg (show ¬ (x1.toInt = 2) by omega)] at h
      rw [if_pos c] at h
      exact hp _ _ h
    refine ⟨fun c => ?_, ?_⟩
    · have h := hn (by omega)
      rw [if_neg (show ¬ (x1.toInt = 0) by omega)] at h
      rw [if_neg (show ¬ (x1.toInt = 1) by omega)] at h
      rw [if_neg (show ¬ (x1.toInt = 2) by omega)] at h
      rw [if_neg (show ¬ (x1.toInt = 3) by omega)] at h
      rw [if_pos c] at h
      exact hp _ _ h
    refine ⟨fun c => ?_, ?_⟩
    · have h := hn (by omega)
      rw [if_neg (show ¬ (x1.toInt = 0) by omega)] at h
      rw [if_neg (show ¬ (x1.toInt = 1) by omega)] at h
      rw [if_neg (show ¬ (x1.toInt = 2) by omega)] at h
      rw [if_neg (show ¬ (x1.toInt = 3) by omega)] at h
      rw [if_neg (show ¬ (x1.toInt = 4) by omega)] at h
      rw [if_pos c] at h
      exact hp _ _ h
    refine ⟨fun c => ?_, ?_⟩
    · have h := hn (by omega)
      rw [if_neg (show ¬ (x1.toInt = 0) by omega)] at h
      rw [if_neg (show ¬ (x1.toInt = 1) by omega)] at h
      rw [if_neg (show ¬ (x1.toInt = 2) by omega)] at h
      rw [if_neg (show ¬ (x1.toInt = 3) by omega)] at h
      rw [if_neg (show ¬ (x1.toInt = 4) by omega)] at h
      rw [if_neg (show ¬ (x1.toInt = 5) by omega)] at h
      rw [if_pos c] at h
      exact hp _ _ h
    refine ⟨fun c => ?_, ?_⟩
    · have h := hn (by omega)
      rw [if_neg (show ¬ (x1.toInt = 0) by omega)] at h
      rw [if_neg (show ¬ (x1.toInt = 1) by omega)] at h
      rw [if_neg (show ¬ (x1.toInt = 2) by omega)] at h
      rw [if_neg (show ¬ (x1.toInt = 3) by omega)] at h
      rw [if_neg (show ¬ (x1.toInt = 4) by omega)] at h
      rw [if_neg (show ¬ (x1.toInt = 5) by omega)] at h
      rw [if_neg (show ¬ (x1.toInt = 6) by omega)] at h
      rw [if_pos c] at h
      exact hp _ _ h
    refine ⟨fun c => ?_, ?_⟩
    · have h := hn (by omega)
      rw [if_neg (show ¬ (x1.toInt = 0) by omega)] at h
      rw [if_neg (show ¬ (x1.toInt = 1) by omega)] at h
      rw [if_neg (show ¬ (x1.toInt = 2) by omega)] at h
      rw [if_neg (show ¬ (x1.toInt = 3) by omega)] at h
      rw [if_neg (show ¬ (x1.toInt = 4) by omega)] at h
      rw [if_neg (show ¬ (x1.toInt = 5) by omega)] at h
      rw [if_neg (show ¬ (x1.toInt = 6) by omega)] at h
      rw [if_neg (show ¬ (x1.toInt = 7) by omega)] at h
      rw [if_pos c] at h
      exact hp _ _ h
    refine ⟨fun c => ?_, ?_⟩
    · have h := hn (by omega)
      rw [if_neg (show ¬ (x1.toInt = 0) by omega)] at h
      rw [if_neg (show ¬ (x1.toInt = 1) by omega)] at h
      rw [if_neg (show ¬ (x1.toInt = 2) by omega)] at h
      rw [if_neg (show ¬ (x1.toInt = 3) by omega)] at h
      rw [if_neg (show ¬ (x1.toInt = 4) by omega)] at h
      rw [if_neg (show ¬ (x1.toInt = 5) by omega)] at h
      rw [if_neg (show ¬ (x1.toInt = 6) by omega)] at h
      rw [if_neg (show ¬ (x1.toInt = 7) by omega)] at h
      rw [if_neg (show ¬ (x1.toInt = 8) by omega)] at h
      rw [if_pos c] at h
      exact hp _ _ h
    refine ⟨fun c => ?_, ?_⟩
    · have h := hn (by omega)
      rw [if_neg (show ¬ (x1.toInt = 0) by omega)] at h
      rw [if_neg (show ¬ (x1.toInt = 1) by omega)] at h
      rw [if_neg (show ¬ (x1.toInt = 2) by omega)] at h
      rw [if_neg (show ¬ (x1.toInt = 3) by omega)] at h
      rw [if_neg (show ¬ (x1.toInt = 4) by omega)] at h
      rw [if_neg (show ¬ (x1.toInt = 5) by omega)] at h
      rw [if_neg (show ¬ (x1.toInt = 6) by omega)] at h
      rw [if_neg (show ¬ (x1.toInt = 7) by omega)] at h
      rw [if_neg (show ¬ (x1.toInt = 8) by omega)] at h
      rw [if_neg (show ¬ (x1.toInt = 9) by omega)] at h
      rw [if_pos c] at h
      exact hp _ _ h
    refine ⟨fun c => ?_, ?_⟩
    · have h := hn (by omega)
      rw [if_neg (show ¬ (x1.toInt = 0) by omega)] at h
      rw [if_neg (show ¬ (x1.toInt = 1) by omega)] at h
      rw [if_neg (show ¬ (x1.toInt = 2) by omega)] at h
      rw [if_neg (show ¬ (x1.toInt = 3) by omega)] at h
      rw [if_neg (show ¬ (x1.toInt = 4) by omega)] at h
      rw [if_neg (show ¬ (x1.toInt = 5) by omega)] at h
      rw [if_neg (show ¬ (x1.toInt = 6) by omega)] at h
      rw [if_neg (show ¬ (x1.toInt = 7) by omega)] at h
      rw [if_neg (show ¬ (x1.toInt = 8) by omega)] at h
      rw [if_neg (show ¬ (x1.toInt = 9) by omega)] at h
      rw [if_neg (show ¬ (x1.toInt = 10) by omega)] at h
      rw [if_pos c] at h
      exact hp _ _ h
    refine ⟨fun c => ?_, ?_⟩
    · have h := hn (by omega)
      rw [if_neg (show ¬ (x1.toInt = 0) by omega)] at h
      rw [if_neg (show ¬ (x1.toInt = 1) by omega)] at h
      rw [if_neg (show ¬ (x1.toInt = 2) by omega)] at h
      rw [if_neg (show ¬ (x1.toInt = 3) by omega)] at h
      rw [if_neg (show ¬ (x1.toInt = 4) by omega)] at h
      rw [if_neg (show ¬ (x1.toInt = 5) by omega)] at h
      rw [if_neg (show ¬ (x1.toInt = 6) by omega)] at h
      rw [if_neg (show ¬ (x1.toInt = 7) by omega)] at h
      rw [if_neg (show ¬ (x1.toInt = 8) by omega)] at h
      rw [if_neg (show ¬ (x1.toInt = 9) by omega)] at h
      rw [if_neg (show ¬ (x1.toInt = 10) by omega)] at h
      rw [if_neg (show ¬ (x1.toInt = 11) by omega)] at h
      rw [if_pos c] at h
      refine gd_v h (fun h => ?_)
      exact hp _ _ h
    intro c
    have h := hn (by omega)
    rw [if_neg (show ¬ (x1.toInt = 0) by omega)] at h
    rw [if_neg (show ¬ (x1.toInt = 1) by omega)] at h
    rw [if_neg (show ¬ (x1.toInt = 2) by omega)] at h
    rw [if_neg (show ¬ (x1.toInt = 3) by omega)] at h
    rw [if_neg (show ¬ (x1.toInt = 4) by omega)] at h
    rw [if_neg (show ¬ (x1.toInt = 5) by omega)] at h
    rw [if_neg (show ¬ (x1.toInt = 6) by omega)] at h
    rw [if_neg (show ¬ (x1.toInt = 7) by omega)] at h
    rw [if_neg (show ¬ (x1.toInt = 8) by omega)] at h
    rw [if_neg (show ¬ (x1.toInt = 9) by omega)] at h
    rw [if_neg (show ¬ (x1.toInt = 10) by omega)] at h
    rw [if_neg (show ¬ (x1.toInt = 11) by omega)] at h
    rw [if_neg (show ¬ (x1.toInt = 12) by omega)] at h
    rw [if_pos c] at h
    exact hp _ _ h
def zX10_end (post : Int32 → Vd → Bool) (x1 : Int32) (w : Vd) : Bool := (if x1 < 0 then post (-1 : Int32) w else (if x1 ≤ (w.1 0 13) then fw (vI w 0 13 x1) (fun w_3 => post x1 w_3) else post (-1 : Int32) w))
theorem tX10_end  {post : Int32 → Wd → Prop} {pb : Int32 → Vd → Bool} (hp : ∀ (r : Int32) (w : Wd), pb r (prj w) = true → post r w) {x1 : Int32} {w : Wd} (h : zX10_end  pb  x1 (prj w) = true) : pX10_end  post  x1 w := by
  unfold pX10_end
  unfold zX10_end at h
  refine br_i h (fun c h => ?_) (fun c h => ?_)
  · exact hp _ _ h
  · refine br_i h (fun c h => ?_) (fun c h => ?_)
    · refine fa_w rfl h (fun w_3 ew_3 h => ?_)
      exact hp _ _ h
    · exact hp _ _ h
def zX0_forget (post : Vd → Bool)  (w : Vd) : Bool := fw (vI w 50 7 (0 : Int32)) (fun w_1 => fw (vI w_1 50 8 (0 : Int32)) (fun w_2 => post w_2))
theorem tX0_forget  {post : Wd → Prop} {pb : Vd → Bool} (hp : ∀ (w : Wd), pb (prj w) = true → post w) {w : Wd} (h : zX0_forget  pb   (prj w) = true) : pX0_forget  post   w := by
  unfold pX0_forget
  unfold zX0_forget at h
  refine fa_w rfl h (fun w_1 ew_1 h => ?_)
  refine fa_w rfl h (fun w_2 ew_2 h => ?_)
  exact hp _ h
def zX10_fault (post : Int32 → Vd → Bool) (x1 : Int32) (w : Vd) : Bool := (if x1 = 0 then post (w.1 0 14) w else (if x1 = (1 : Int32) then post (w.1 0 15) w else post (-1 : Int32) w))
theorem tX10_fault  {post : Int32 → Wd → Prop} {pb : Int32 → Vd → Bool} (hp : ∀ (r : Int32) (w : Wd), pb r (prj w) = true → post r w) {x1 : Int32} {w : Wd} (h : zX10_fault  pb  x1 (prj w) = true) : pX10_fault  post  x1 w := by
  unfold pX10_fault
  unfold zX10_fault at h
  refine br_n h (fun c h => ?_) (fun c h => ?_)
  · refine br_n h (fun c h => ?_) (fun c h => ?_)
    · exact hp _ _ h
    · exact hp _ _ h
  · exact hp _ _ h
def zX10_isSeal (post : Int32 → Vd → Bool) (x1 : Int32) (w : Vd) : Bool := (if x1 < 0 then post (0 : Int32) w else (if (w.1 160 0) ≤ x1 then post (0 : Int32) w else post (1 : Int32) w))
theorem tX10_isSeal  {post : Int32 → Wd → Prop} {pb : Int32 → Vd → Bool} (hp : ∀ (r : Int32) (w : Wd), pb r (prj w) = true → post r w) {x1 : Int32} {w : Wd} (h : zX10_isSeal  pb  x1 (prj w) = true) : pX10_isSeal  post  x1 w := by
  unfold pX10_isSeal
  unfold zX10_isSeal at h
  refine br_i h (fun c h => ?_) (fun c h => ?_)
  · exact hp _ _ h
  · refine br_i h (fun c h => ?_) (fun c h => ?_)
    · exact hp _ _ h
    · exact hp _ _ h
def zX10_seal (post : Int32 → Vd → Bool) (x1 : Int32) (x2 : Int32) (w : Vd) : Bool := zX10_isSeal (fun r_1 w_2 => (if r_1 = 0 then post (-1 : Int32) w_2 else (if x2.toInt < 0 ∨ 4 < x2.toInt then post (-1 : Int32) w_2 else (if x2.toInt = 0 then (vb x1 24 && post (w_2.2.1 162 x1.toNatClampNeg) w_2) else (if x2.toInt = 1 then (vb x1 24 && post (w_2.2.1 163 x1.toNatClampNeg) w_2) else (if x2.toInt = 2 then (vb x1 24 && post (w_2.2.1 164 x1.toNatClampNeg) w_2) else (if x2.toInt = 3 then (vb x1 24 && post (w_2.2.1 165 x1.toNatClampNeg) w_2) else (if x2.toInt = 4 then (vb x1 24 && post (w_2.2.1 166 x1.toNatClampNeg) w_2) else false)))))))) x1 w
theorem tX10_seal  {post : Int32 → Wd → Prop} {pb : Int32 → Vd → Bool} (hp : ∀ (r : Int32) (w : Wd), pb r (prj w) = true → post r w) {x1 : Int32} {x2 : Int32} {w : Wd} (h : zX10_seal  pb  x1 x2 (prj w) = true) : pX10_seal  post  x1 x2 w := by
  unfold pX10_seal
  unfold zX10_seal at h
  refine tX10_isSeal (fun r_1 w_2 h => ?_)  h
  refine br_n h (fun c h => ?_) (fun c h => ?_)
  · refine sw_o h (fun c h => ?_) ?_
    · exact hp _ _ h
    · intro hn
      refine ⟨fun c => ?_, ?_⟩
      · have h := hn (by omega)
        rw [if_pos c] at h
        refine gd_v h (fun h => ?_)
        exact hp _ _ h
      refine ⟨fun c => ?_, ?_⟩
      · have h := hn (by omega)
        rw [if_neg (show ¬ (x2.toInt = 0) by omega)] at h
        rw [if_pos c] at h
        refine gd_v h (fun h => ?_)
        exact hp _ _ h
      refine ⟨fun c => ?_, ?_⟩
      · have h := hn (by omega)
        rw [if_neg (show ¬ (x2.toInt = 0) by omega)] at h
        rw [if_neg (show ¬ (x2.toInt = 1) by omega)] at h
        rw [if_pos c] at h
        refine gd_v h (fun h => ?_)
        exact hp _ _ h
      refine ⟨fun c => ?_, ?_⟩
      · have h := hn (by omega)
        rw [if_neg (show ¬ (x2.toInt = 0) by omega)] at h
        rw [if_neg (show ¬ (x2.toInt = 1) by omega)] at h
        rw [if_neg (show ¬ (x2.toInt = 2) by omega)] at h
        rw [if_pos c] at h
        refine gd_v h (fun h => ?_)
        exact hp _ _ h
      intro c
      have h := hn (by omega)
      rw [if_neg (show ¬ (x2.toInt = 0) by omega)] at h
      rw [if_neg (show ¬ (x2.toInt = 1) by omega)] at h
      rw [if_neg (show ¬ (x2.toInt = 2) by omega)] at h
      rw [if_neg (show ¬ (x2.toInt = 3) by omega)] at h
      rw [if_pos c] at h
      refine gd_v h (fun h => ?_)
      exact hp _ _ h
  · exact hp _ _ h
def zX10_shown (post : Int32 → Vd → Bool) (x1 : Int32) (x2 : Int32) (w : Vd) : Bool := (if x1 < 0 then post (-1 : Int32) w else (if x1 < (w.1 160 6) then (if x2.toInt < 0 ∨ 2 < x2.toInt then post (-1 : Int32) w else (if x2.toInt = 0 then (vb x1 40 && post (w.2.1 168 x1.toNatClampNeg) w) else (if x2.toInt = 1 then (vb x1 40 && post (w.2.1 169 x1.toNatClampNeg) w) else (if x2.toInt = 2 then (vb x1 40 && post (w.2.1 170 x1.toNatClampNeg) w) else false)))) else post (-1 : Int32) w))
theorem tX10_shown  {post : Int32 → Wd → Prop} {pb : Int32 → Vd → Bool} (hp : ∀ (r : Int32) (w : Wd), pb r (prj w) = true → post r w) {x1 : Int32} {x2 : Int32} {w : Wd} (h : zX10_shown  pb  x1 x2 (prj w) = true) : pX10_shown  post  x1 x2 w := by
  unfold pX10_shown
  unfold zX10_shown at h
  refine br_i h (fun c h => ?_) (fun c h => ?_)
  · exact hp _ _ h
  · refine br_i h (fun c h => ?_) (fun c h => ?_)
    · refine sw_o h (fun c h => ?_) ?_
      · exact hp _ _ h
      · intro hn
        refine ⟨fun c => ?_, ?_⟩
        · have h := hn (by omega)
          rw [if_pos c] at h
          refine gd_v h (fun h => ?_)
          exact hp _ _ h
        refine ⟨fun c => ?_, ?_⟩
        · have h := hn (by omega)
          rw [if_neg (show ¬ (x2.toInt = 0) by omega)] at h
          rw [if_pos c] at h
          refine gd_v h (fun h => ?_)
          exact hp _ _ h
        intro c
        have h := hn (by omega)
        rw [if_neg (show ¬ (x2.toInt = 0) by omega)] at h
        rw [if_neg (show ¬ (x2.toInt = 1) by omega)] at h
        rw [if_pos c] at h
        refine gd_v h (fun h => ?_)
        exact hp _ _ h
    · exact hp _ _ h
def zX7_rows (post : Int32 → Vd → Bool) (b : Bool)  (w : Vd) : Bool := post ((1 : Int32) <<< ((w.1 (rl b) 0) &&& 31)) w
theorem tX7_rows  {post : Int32 → Wd → Prop} {pb : Int32 → Vd → Bool} {b : Bool} (hp : ∀ (r : Int32) (w : Wd), pb r (prj w) = true → post r w) {w : Wd} (h : zX7_rows  pb b  (prj w) = true) : pX7_rows  post b  w := by
  unfold pX7_rows
  unfold zX7_rows at h
  exact hp _ _ h
def zX10_isRow (post : Int32 → Vd → Bool) (x1 : Int32) (w : Vd) : Bool := (if x1 < 0 then post (0 : Int32) w else zX7_rows (fun r_2 w_3 => (if r_2 ≤ x1 then post (0 : Int32) w_3 else post (1 : Int32) w_3)) (w.2.2 0) w)
theorem tX10_isRow  {post : Int32 → Wd → Prop} {pb : Int32 → Vd → Bool} (hp : ∀ (r : Int32) (w : Wd), pb r (prj w) = true → post r w) {x1 : Int32} {w : Wd} (h : zX10_isRow  pb  x1 (prj w) = true) : pX10_isRow  post  x1 w := by
  unfold pX10_isRow
  unfold zX10_isRow at h
  refine br_i h (fun c h => ?_) (fun c h => ?_)
  · exact hp _ _ h
  · refine tX7_rows (fun r_2 w_3 h => ?_)  h
    refine br_i h (fun c h => ?_) (fun c h => ?_)
    · exact hp _ _ h
    · exact hp _ _ h
def zX10_prints_92 (k30 : Int32 → Int32 → Int32 → Int32 → Int32 → Int32 → Vd → Bool) (post : Int32 → Vd → Bool) (x1 : Int32) (x2 : Int32) (x3 : Int32) (x4 : Int32) (x5 : Int32) (x6 : Int32) (w : Vd) : Bool := fz (x6 + (1 : Int32)) (fun x6_1 => k30 x1 x2 x3 x4 x5 x6_1 w)
theorem tX10_prints_92 {k30 : Int32 → Int32 → Int32 → Int32 → Int32 → Int32 → Wd → Prop} {k30b : Int32 → Int32 → Int32 → Int32 → Int32 → Int32 → Vd → Bool} {post : Int32 → Wd → Prop} {pb : Int32 → Vd → Bool} (hk30 : ∀ (y0 : Int32) (y1 : Int32) (y2 : Int32) (y3 : Int32) (y4 : Int32) (y5 : Int32) (w : Wd), k30b y0 y1 y2 y3 y4 y5 (prj w) = true → k30 y0 y1 y2 y3 y4 y5 w) (hp : ∀ (r : Int32) (w : Wd), pb r (prj w) = true → post r w) {x1 : Int32} {x2 : Int32} {x3 : Int32} {x4 : Int32} {x5 : Int32} {x6 : Int32} {w : Wd} (h : zX10_prints_92 k30b pb  x1 x2 x3 x4 x5 x6 (prj w) = true) : pX10_prints_92 k30 post  x1 x2 x3 x4 x5 x6 w := by
  unfold pX10_prints_92
  unfold zX10_prints_92 at h
  refine fa_i h (fun x6_1 ex6_1 h => ?_)
  exact hk30 _ _ _ _ _ _ _ h
def zX10_prints_75 (k30 : Int32 → Int32 → Int32 → Int32 → Int32 → Int32 → Vd → Bool) (post : Int32 → Vd → Bool) (x1 : Int32) (x2 : Int32) (x3 : Int32) (x6 : Int32) (t0 : Int32) (w : Vd) : Bool := (vb x6 40 && fz ((w.2.1 170 x6.toNatClampNeg)) (fun x5_1 => fz (x3 + (1 : Int32)) (fun x3_2 => zX10_prints_92 k30 post x1 x2 x3_2 t0 x5_1 x6 w)))
theorem tX10_prints_75 {k30 : Int32 → Int32 → Int32 → Int32 → Int32 → Int32 → Wd → Prop} {k30b : Int32 → Int32 → Int32 → Int32 → Int32 → Int32 → Vd → Bool} {post : Int32 → Wd → Prop} {pb : Int32 → Vd → Bool} (hk30 : ∀ (y0 : Int32) (y1 : Int32) (y2 : Int32) (y3 : Int32) (y4 : Int32) (y5 : Int32) (w : Wd), k30b y0 y1 y2 y3 y4 y5 (prj w) = true → k30 y0 y1 y2 y3 y4 y5 w) (hp : ∀ (r : Int32) (w : Wd), pb r (prj w) = true → post r w) {x1 : Int32} {x2 : Int32} {x3 : Int32} {x6 : Int32} {t0 : Int32} {w : Wd} (h : zX10_prints_75 k30b pb  x1 x2 x3 x6 t0 (prj w) = true) : pX10_prints_75 k30 post  x1 x2 x3 x6 t0 w := by
  unfold pX10_prints_75
  unfold zX10_prints_75 at h
  refine gd_v h (fun h => ?_)
  refine fa_i h (fun x5_1 ex5_1 h => ?_)
  refine fa_i h (fun x3_2 ex3_2 h => ?_)
  exact tX10_prints_92 hk30 hp  h
def zX10_prints_30 (post : Int32 → Vd → Bool) : Nat → Int32 → Int32 → Int32 → Int32 → Int32 → Int32 → Vd → Bool
  | 0, _, _, _, _, _, _, _ => false
  | n + 1, x1, x2, x3, x4, x5, x6, w => (if (w.1 160 6) ≤ x6 then (if x2 = 0 then post x3 w else (if x2 = (1 : Int32) then post x4 w else post x5 w)) else (vb x6 40 && (if (w.2.1 168 x6.toNatClampNeg) = x1 then (if x3 = 0 then (vb x6 40 && zX10_prints_75 (zX10_prints_30 post n) post x1 x2 x3 x6 (w.2.1 170 x6.toNatClampNeg) w) else zX10_prints_75 (zX10_prints_30 post n) post x1 x2 x3 x6 x4 w) else zX10_prints_92 (zX10_prints_30 post n) post x1 x2 x3 x4 x5 x6 w)))
theorem tX10_prints_30  {post : Int32 → Wd → Prop} {pb : Int32 → Vd → Bool} (hp : ∀ (r : Int32) (w : Wd), pb r (prj w) = true → post r w) : ∀ (n : Nat) (x1 : Int32) (x2 : Int32) (x3 : Int32) (x4 : Int32) (x5 : Int32) (x6 : Int32) (w : Wd), zX10_prints_30  pb  n x1 x2 x3 x4 x5 x6 (prj w) = true → pX10_prints_30  post  n x1 x2 x3 x4 x5 x6 w := by
  intro n
  induction n with
  | zero => intro x1 x2 x3 x4 x5 x6 w h; exact absurd (show false = true from h) (by decide)
  | succ n ih =>
    intro x1 x2 x3 x4 x5 x6 w h
    unfold pX10_prints_30
    unfold zX10_prints_30 at h
    refine br_i h (fun c h => ?_) (fun c h => ?_)
    · refine br_n h (fun c h => ?_) (fun c h => ?_)
      · refine br_n h (fun c h => ?_) (fun c h => ?_)
        · exact hp _ _ h
        · exact hp _ _ h
      · exact hp _ _ h
    · refine gd_v h (fun h => ?_)
      refine br_n h (fun c h => ?_) (fun c h => ?_)
      · exact tX10_prints_92 ih hp  h
      · refine br_n h (fun c h => ?_) (fun c h => ?_)
        · exact tX10_prints_75 ih hp  h
        · refine gd_v h (fun h => ?_)
          exact tX10_prints_75 ih hp  h
def zX10_prints (post : Int32 → Vd → Bool) (x1 : Int32) (x2 : Int32) (w : Vd) : Bool := zX10_isRow (fun r_1 w_2 => (if r_1 = 0 then post (-1 : Int32) w_2 else (if x2 < 0 then post (-1 : Int32) w_2 else (if x2 ≤ (2 : Int32) then zX10_prints_30 post 70000 x1 x2 (0 : Int32) (-1 : Int32) (-1 : Int32) (0 : Int32) w_2 else post (-1 : Int32) w_2)))) x1 w
theorem tX10_prints  {post : Int32 → Wd → Prop} {pb : Int32 → Vd → Bool} (hp : ∀ (r : Int32) (w : Wd), pb r (prj w) = true → post r w) {x1 : Int32} {x2 : Int32} {w : Wd} (h : zX10_prints  pb  x1 x2 (prj w) = true) : pX10_prints  post  x1 x2 w := by
  unfold pX10_prints
  unfold zX10_prints at h
  refine tX10_isRow (fun r_1 w_2 h => ?_)  h
  refine br_i h (fun c h => ?_) (fun c h => ?_)
  · exact hp _ _ h
  · refine br_i h (fun c h => ?_) (fun c h => ?_)
    · exact hp _ _ h
    · refine br_i h (fun c h => ?_) (fun c h => ?_)
      · refine ⟨70000, ?_⟩
        exact tX10_prints_30 hp _ _ _ _ _ _ _ _ h
      · exact hp _ _ h
def zX10_turn (post : Int32 → Vd → Bool) (x0 : Int32) (x1 : Int32) (w : Vd) : Bool := fz ((((x0 &&& (21845 : Int32)) <<< ((1 : Int32) &&& 31)) ||| ((x0.toUInt32 >>> ((1 : Int32).toUInt32 &&& Int32.toUInt32 31)).toInt32 &&& (21845 : Int32)))) (fun x2_1 => fz ((((x2_1 &&& (13107 : Int32)) <<< ((2 : Int32) &&& 31)) ||| ((x2_1.toUInt32 >>> ((2 : Int32).toUInt32 &&& Int32.toUInt32 31)).toInt32 &&& (13107 : Int32)))) (fun x2_2 => fz ((((x2_2 &&& (3855 : Int32)) <<< ((4 : Int32) &&& 31)) ||| ((x2_2.toUInt32 >>> ((4 : Int32).toUInt32 &&& Int32.toUInt32 31)).toInt32 &&& (3855 : Int32)))) (fun x2_3 => fz ((((x2_3 &&& (255 : Int32)) <<< ((8 : Int32) &&& 31)) ||| ((x2_3.toUInt32 >>> ((8 : Int32).toUInt32 &&& Int32.toUInt32 31)).toInt32 &&& (255 : Int32)))) (fun x2_4 => post ((x2_4.toUInt32 >>> (((16 : Int32) - x1).toUInt32 &&& Int32.toUInt32 31)).toInt32) w))))
theorem tX10_turn  {post : Int32 → Wd → Prop} {pb : Int32 → Vd → Bool} (hp : ∀ (r : Int32) (w : Wd), pb r (prj w) = true → post r w) {x0 : Int32} {x1 : Int32} {w : Wd} (h : zX10_turn  pb  x0 x1 (prj w) = true) : pX10_turn  post  x0 x1 w := by
  unfold pX10_turn
  unfold zX10_turn at h
  refine fa_i h (fun x2_1 ex2_1 h => ?_)
  refine fa_i h (fun x2_2 ex2_2 h => ?_)
  refine fa_i h (fun x2_3 ex2_3 h => ?_)
  refine fa_i h (fun x2_4 ex2_4 h => ?_)
  exact hp _ _ h
def zX10_turned (post : Int32 → Vd → Bool) (x1 : Int32) (w : Vd) : Bool := zX10_isRow (fun r_1 w_2 => (if r_1 = 0 then post (-1 : Int32) w_2 else zX10_turn (fun r_4 w_5 => post r_4 w_5) x1 (w_2.1 (rl (w_2.2.2 0)) 0) w_2)) x1 w
theorem tX10_turned  {post : Int32 → Wd → Prop} {pb : Int32 → Vd → Bool} (hp : ∀ (r : Int32) (w : Wd), pb r (prj w) = true → post r w) {x1 : Int32} {w : Wd} (h : zX10_turned  pb  x1 (prj w) = true) : pX10_turned  post  x1 w := by
  unfold pX10_turned
  unfold zX10_turned at h
  refine tX10_isRow (fun r_1 w_2 h => ?_)  h
  refine br_i h (fun c h => ?_) (fun c h => ?_)
  · exact hp _ _ h
  · refine tX10_turn (fun r_4 w_5 h => ?_)  h
    exact hp _ _ h
def zX10_isHand (post : Int32 → Vd → Bool) (x1 : Int32) (w : Vd) : Bool := (if x1 < 0 then post (0 : Int32) w else (if (w.1 (rl (w.2.2 0)) 2) ≤ x1 then post (0 : Int32) w else post (1 : Int32) w))
theorem tX10_isHand  {post : Int32 → Wd → Prop} {pb : Int32 → Vd → Bool} (hp : ∀ (r : Int32) (w : Wd), pb r (prj w) = true → post r w) {x1 : Int32} {w : Wd} (h : zX10_isHand  pb  x1 (prj w) = true) : pX10_isHand  post  x1 w := by
  unfold pX10_isHand
  unfold zX10_isHand at h
  refine br_i h (fun c h => ?_) (fun c h => ?_)
  · exact hp _ _ h
  · refine br_i h (fun c h => ?_) (fun c h => ?_)
    · exact hp _ _ h
    · exact hp _ _ h
def zX10_isHeat (post : Int32 → Vd → Bool) (x0 : Int32) (w : Vd) : Bool := (if x0 < 0 then post (0 : Int32) w else (if (10 : Int32) ≤ x0 then post (0 : Int32) w else post (1 : Int32) w))
theorem tX10_isHeat  {post : Int32 → Wd → Prop} {pb : Int32 → Vd → Bool} (hp : ∀ (r : Int32) (w : Wd), pb r (prj w) = true → post r w) {x0 : Int32} {w : Wd} (h : zX10_isHeat  pb  x0 (prj w) = true) : pX10_isHeat  post  x0 w := by
  unfold pX10_isHeat
  unfold zX10_isHeat at h
  refine br_i h (fun c h => ?_) (fun c h => ?_)
  · exact hp _ _ h
  · refine br_i h (fun c h => ?_) (fun c h => ?_)
    · exact hp _ _ h
    · exact hp _ _ h
def zX10_would (post : Int32 → Vd → Bool) (x1 : Int32) (x2 : Int32) (x3 : Int32) (x4 : Int32) (w : Vd) : Bool := zX10_isRow (fun r_1 w_2 => (if r_1 = 0 then post (-1 : Int32) w_2 else zX10_isHand (fun r_4 w_5 => (if r_4 = 0 then post (-1 : Int32) w_5 else zX10_isHeat (fun r_7 w_8 => (if r_7 = 0 then post (-1 : Int32) w_8 else (if x4 < 0 then post (-1 : Int32) w_8 else (if x4 < (100 : Int32) then false else post (-1 : Int32) w_8)))) x3 w_5)) x2 w_2)) x1 w
theorem tX10_would  {post : Int32 → Wd → Prop} {pb : Int32 → Vd → Bool} (hp : ∀ (r : Int32) (w : Wd), pb r (prj w) = true → post r w) {x1 : Int32} {x2 : Int32} {x3 : Int32} {x4 : Int32} {w : Wd} (h : zX10_would  pb  x1 x2 x3 x4 (prj w) = true) : pX10_would  post  x1 x2 x3 x4 w := by
  unfold pX10_would
  unfold zX10_would at h
  refine tX10_isRow (fun r_1 w_2 h => ?_)  h
  refine br_i h (fun c h => ?_) (fun c h => ?_)
  · exact hp _ _ h
  · refine tX10_isHand (fun r_4 w_5 h => ?_)  h
    refine br_i h (fun c h => ?_) (fun c h => ?_)
    · exact hp _ _ h
    · refine tX10_isHeat (fun r_7 w_8 h => ?_)  h
      refine br_i h (fun c h => ?_) (fun c h => ?_)
      · exact hp _ _ h
      · refine br_i h (fun c h => ?_) (fun c h => ?_)
        · exact hp _ _ h
        · refine br_i h (fun c h => ?_) (fun c h => ?_)
          · exact absurd (show false = true from h) (by decide)
          · exact hp _ _ h
def zX2_addPrint (post : Vd → Bool) (x1 : Int32) (w : Vd) : Bool := (if (w.1 160 6) < 0 then post w else (if (40 : Int32) ≤ (w.1 160 6) then post w else (if x1 < 0 then post w else (if x1 < (w.1 160 0) then (vb x1 24 && zX10_turn (fun r_5 w_6 => (vb (w.1 160 6) 40 && fw (vA w_6 168 (w.1 160 6).toNatClampNeg r_5) (fun w_7 => (vb (w_7.1 160 6) 40 && fw (vA w_7 169 (w_7.1 160 6).toNatClampNeg x1) (fun w_8 => (vb (w_8.1 160 6) 40 && fw (vA w_8 170 (w_8.1 160 6).toNatClampNeg (w_8.1 160 12)) (fun w_9 => fw (vI w_9 160 6 ((w_9.1 160 6) + (1 : Int32))) (fun w_10 => post w_10)))))))) (w.2.1 162 x1.toNatClampNeg) (w.1 160 10) w) else post w))))
theorem tX2_addPrint  {post : Wd → Prop} {pb : Vd → Bool} (hp : ∀ (w : Wd), pb (prj w) = true → post w) {x1 : Int32} {w : Wd} (h : zX2_addPrint  pb  x1 (prj w) = true) : pX2_addPrint  post  x1 w := by
  unfold pX2_addPrint
  unfold zX2_addPrint at h
  refine br_i h (fun c h => ?_) (fun c h => ?_)
  · exact hp _ h
  · refine br_i h (fun c h => ?_) (fun c h => ?_)
    · exact hp _ h
    · refine br_i h (fun c h => ?_) (fun c h => ?_)
      · exact hp _ h
      · refine br_i h (fun c h => ?_) (fun c h => ?_)
        · refine gd_v h (fun h => ?_)
          refine tX10_turn (fun r_5 w_6 h => ?_)  h
          refine gd_v h (fun h => ?_)
          refine fa_w rfl h (fun w_7 ew_7 h => ?_)
          refine gd_v h (fun h => ?_)
          refine fa_w rfl h (fun w_8 ew_8 h => ?_)
          refine gd_v h (fun h => ?_)
          refine fa_w rfl h (fun w_9 ew_9 h => ?_)
          refine fa_w rfl h (fun w_10 ew_10 h => ?_)
          exact hp _ h
        · exact hp _ h
def zX0_perform (post : Vd → Bool) (x1 : Int32) (w : Vd) : Bool := (vb x1 40 && (if (w.2.1 53 x1.toNatClampNeg).toInt < 0 ∨ 2 < (w.2.1 53 x1.toNatClampNeg).toInt then fw (vI w 160 12 ((w.1 160 12) + (1 : Int32))) (fun w_2 => post w_2) else (if (w.2.1 53 x1.toNatClampNeg).toInt = 0 then (vb x1 40 && (vb x1 40 && (vb x1 40 && false))) else (if (w.2.1 53 x1.toNatClampNeg).toInt = 1 then (vb x1 40 && zX2_addPrint (fun w_3 => fw (vI w_3 160 11 ((w_3.1 160 11) - (1 : Int32))) (fun w_4 => post w_4)) (w.2.1 54 x1.toNatClampNeg) w) else (if (w.2.1 53 x1.toNatClampNeg).toInt = 2 then (vb x1 40 && (vb x1 40 && false)) else false)))))
theorem tX0_perform  {post : Wd → Prop} {pb : Vd → Bool} (hp : ∀ (w : Wd), pb (prj w) = true → post w) {x1 : Int32} {w : Wd} (h : zX0_perform  pb  x1 (prj w) = true) : pX0_perform  post  x1 w := by
  unfold pX0_perform
  unfold zX0_perform at h
  refine gd_v h (fun h => ?_)
  refine sw_o h (fun c h => ?_) ?_
  · refine fa_w rfl h (fun w_2 ew_2 h => ?_)
    exact hp _ h
  · intro hn
    refine ⟨fun c => ?_, ?_⟩
    · have h := hn (by omega)
      rw [if_pos c] at h
      refine gd_v h (fun h => ?_)
      refine gd_v h (fun h => ?_)
      refine gd_v h (fun h => ?_)
      exact absurd (show false = true from h) (by decide)
    refine ⟨fun c => ?_, ?_⟩
    · have h := hn (by omega)
      rw [if_neg (show ¬ ((w.2.1 53 x1.toNatClampNeg).toInt = 0) by omega)] at h
      rw [if_pos c] at h
      refine gd_v h (fun h => ?_)
      refine tX2_addPrint (fun w_3 h => ?_)  h
      refine fa_w rfl h (fun w_4 ew_4 h => ?_)
      exact hp _ h
    intro c
    have h := hn (by omega)
    rw [if_neg (show ¬ ((w.2.1 53 x1.toNatClampNeg).toInt = 0) by omega)] at h
    rw [if_neg (show ¬ ((w.2.1 53 x1.toNatClampNeg).toInt = 1) by omega)] at h
    rw [if_pos c] at h
    refine gd_v h (fun h => ?_)
    refine gd_v h (fun h => ?_)
    exact absurd (show false = true from h) (by decide)
def zX0_add_13 (post : Vd → Bool) (x1 : Int32) (x2 : Int32) (x3 : Int32) (x4 : Int32) (w : Vd) : Bool := (if (w.1 50 7) < 0 then post w else (if (w.1 50 7) < (40 : Int32) then (vb (w.1 50 7) 40 && fw (vA w 53 (w.1 50 7).toNatClampNeg x1) (fun w_3 => (vb (w_3.1 50 7) 40 && fw (vA w_3 54 (w_3.1 50 7).toNatClampNeg x2) (fun w_4 => (vb (w_4.1 50 7) 40 && fw (vA w_4 55 (w_4.1 50 7).toNatClampNeg x3) (fun w_5 => (vb (w_5.1 50 7) 40 && fw (vA w_5 56 (w_5.1 50 7).toNatClampNeg x4) (fun w_6 => (vb (w_6.1 50 7) 40 && fw (vA w_6 57 (w_6.1 50 7).toNatClampNeg (w_6.1 160 13)) (fun w_7 => zX0_perform (fun w_8 => fw (vI w_8 50 7 ((w_8.1 50 7) + (1 : Int32))) (fun w_9 => fw (vI w_9 50 8 (0 : Int32)) (fun w_10 => post w_10))) (w_7.1 50 7) w_7)))))))))) else post w))
theorem tX0_add_13  {post : Wd → Prop} {pb : Vd → Bool} (hp : ∀ (w : Wd), pb (prj w) = true → post w) {x1 : Int32} {x2 : Int32} {x3 : Int32} {x4 : Int32} {w : Wd} (h : zX0_add_13  pb  x1 x2 x3 x4 (prj w) = true) : pX0_add_13  post  x1 x2 x3 x4 w := by
  unfold pX0_add_13
  unfold zX0_add_13 at h
  refine br_i h (fun c h => ?_) (fun c h => ?_)
  · exact hp _ h
  · refine br_i h (fun c h => ?_) (fun c h => ?_)
    · refine gd_v h (fun h => ?_)
      refine fa_w rfl h (fun w_3 ew_3 h => ?_)
      refine gd_v h (fun h => ?_)
      refine fa_w rfl h (fun w_4 ew_4 h => ?_)
      refine gd_v h (fun h => ?_)
      refine fa_w rfl h (fun w_5 ew_5 h => ?_)
      refine gd_v h (fun h => ?_)
      refine fa_w rfl h (fun w_6 ew_6 h => ?_)
      refine gd_v h (fun h => ?_)
      refine fa_w rfl h (fun w_7 ew_7 h => ?_)
      refine tX0_perform (fun w_8 h => ?_)  h
      refine fa_w rfl h (fun w_9 ew_9 h => ?_)
      refine fa_w rfl h (fun w_10 ew_10 h => ?_)
      exact hp _ h
    · exact hp _ h
def zX0_add (post : Vd → Bool) (x1 : Int32) (x2 : Int32) (x3 : Int32) (x4 : Int32) (w : Vd) : Bool := (if (w.1 50 7) < (40 : Int32) then zX0_add_13 post x1 x2 x3 x4 w else false)
theorem tX0_add  {post : Wd → Prop} {pb : Vd → Bool} (hp : ∀ (w : Wd), pb (prj w) = true → post w) {x1 : Int32} {x2 : Int32} {x3 : Int32} {x4 : Int32} {w : Wd} (h : zX0_add  pb  x1 x2 x3 x4 (prj w) = true) : pX0_add  post  x1 x2 x3 x4 w := by
  unfold pX0_add
  unfold zX0_add at h
  refine br_i h (fun c h => ?_) (fun c h => ?_)
  · exact tX0_add_13 hp  h
  · exact absurd (show false = true from h) (by decide)
def zX10_canCast (post : Int32 → Vd → Bool) (x1 : Int32) (x2 : Int32) (x3 : Int32) (w : Vd) : Bool := zX10_isSeal (fun r_1 w_2 => (if r_1 = 0 then post (0 : Int32) w_2 else zX10_isHand (fun r_4 w_5 => (if r_4 = 0 then post (0 : Int32) w_5 else zX10_isHeat (fun r_7 w_8 => (if r_7 = 0 then post (0 : Int32) w_8 else post (1 : Int32) w_8)) x3 w_5)) x2 w_2)) x1 w
theorem tX10_canCast  {post : Int32 → Wd → Prop} {pb : Int32 → Vd → Bool} (hp : ∀ (r : Int32) (w : Wd), pb r (prj w) = true → post r w) {x1 : Int32} {x2 : Int32} {x3 : Int32} {w : Wd} (h : zX10_canCast  pb  x1 x2 x3 (prj w) = true) : pX10_canCast  post  x1 x2 x3 w := by
  unfold pX10_canCast
  unfold zX10_canCast at h
  refine tX10_isSeal (fun r_1 w_2 h => ?_)  h
  refine br_i h (fun c h => ?_) (fun c h => ?_)
  · exact hp _ _ h
  · refine tX10_isHand (fun r_4 w_5 h => ?_)  h
    refine br_i h (fun c h => ?_) (fun c h => ?_)
    · exact hp _ _ h
    · refine tX10_isHeat (fun r_7 w_8 h => ?_)  h
      refine br_i h (fun c h => ?_) (fun c h => ?_)
      · exact hp _ _ h
      · exact hp _ _ h
def zX10_cast (post : Int32 → Vd → Bool) (x1 : Int32) (x2 : Int32) (x3 : Int32) (w : Vd) : Bool := zX10_canCast (fun r_1 w_2 => (if r_1 = 0 then post (-1 : Int32) w_2 else (if (24 : Int32) ≤ (w_2.1 160 0) then post (-1 : Int32) w_2 else (if ((1 : Int32) + x3) ≤ (w_2.1 160 11) then zX0_add (fun w_6 => post ((w_6.1 160 0) - (1 : Int32)) w_6) (0 : Int32) x1 x2 x3 w_2 else post (-1 : Int32) w_2)))) x1 x2 x3 w
theorem tX10_cast  {post : Int32 → Wd → Prop} {pb : Int32 → Vd → Bool} (hp : ∀ (r : Int32) (w : Wd), pb r (prj w) = true → post r w) {x1 : Int32} {x2 : Int32} {x3 : Int32} {w : Wd} (h : zX10_cast  pb  x1 x2 x3 (prj w) = true) : pX10_cast  post  x1 x2 x3 w := by
  unfold pX10_cast
  unfold zX10_cast at h
  refine tX10_canCast (fun r_1 w_2 h => ?_)  h
  refine br_i h (fun c h => ?_) (fun c h => ?_)
  · exact hp _ _ h
  · refine br_i h (fun c h => ?_) (fun c h => ?_)
    · exact hp _ _ h
    · refine br_i h (fun c h => ?_) (fun c h => ?_)
      · refine tX0_add (fun w_6 h => ?_)  h
        exact hp _ _ h
      · exact hp _ _ h
def zX10_isMark (post : Int32 → Vd → Bool) (x1 : Int32) (w : Vd) : Bool := (if x1 < 0 then post (0 : Int32) w else (if (w.1 (rl (w.2.2 0)) 0) ≤ x1 then post (0 : Int32) w else post (1 : Int32) w))
theorem tX10_isMark  {post : Int32 → Wd → Prop} {pb : Int32 → Vd → Bool} (hp : ∀ (r : Int32) (w : Wd), pb r (prj w) = true → post r w) {x1 : Int32} {w : Wd} (h : zX10_isMark  pb  x1 (prj w) = true) : pX10_isMark  post  x1 w := by
  unfold pX10_isMark
  unfold zX10_isMark at h
  refine br_i h (fun c h => ?_) (fun c h => ?_)
  · exact hp _ _ h
  · refine br_i h (fun c h => ?_) (fun c h => ?_)
    · exact hp _ _ h
    · exact hp _ _ h
def zX10_sealHas (post : Int32 → Vd → Bool) (x1 : Int32) (x2 : Int32) (w : Vd) : Bool := zX10_isSeal (fun r_1 w_2 => (if r_1 = 0 then post (0 : Int32) w_2 else zX10_isMark (fun r_4 w_5 => (if r_4 = 0 then post (0 : Int32) w_5 else (vb x1 24 && (if (((w_5.2.1 162 x1.toNatClampNeg) >>> (x2 &&& 31)) &&& (1 : Int32)) = 0 then post (0 : Int32) w_5 else post (1 : Int32) w_5)))) x2 w_2)) x1 w
theorem tX10_sealHas  {post : Int32 → Wd → Prop} {pb : Int32 → Vd → Bool} (hp : ∀ (r : Int32) (w : Wd), pb r (prj w) = true → post r w) {x1 : Int32} {x2 : Int32} {w : Wd} (h : zX10_sealHas  pb  x1 x2 (prj w) = true) : pX10_sealHas  post  x1 x2 w := by
  unfold pX10_sealHas
  unfold zX10_sealHas at h
  refine tX10_isSeal (fun r_1 w_2 h => ?_)  h
  refine br_i h (fun c h => ?_) (fun c h => ?_)
  · exact hp _ _ h
  · refine tX10_isMark (fun r_4 w_5 h => ?_)  h
    refine br_i h (fun c h => ?_) (fun c h => ?_)
    · exact hp _ _ h
    · refine gd_v h (fun h => ?_)
      refine br_i h (fun c h => ?_) (fun c h => ?_)
      · exact hp _ _ h
      · exact hp _ _ h
def zX10_crack (post : Int32 → Vd → Bool) (x1 : Int32) (x2 : Int32) (w : Vd) : Bool := zX10_sealHas (fun r_1 w_2 => (if r_1 = 0 then post (0 : Int32) w_2 else zX0_add (fun w_4 => post (1 : Int32) w_4) (2 : Int32) x1 x2 (0 : Int32) w_2)) x1 x2 w
theorem tX10_crack  {post : Int32 → Wd → Prop} {pb : Int32 → Vd → Bool} (hp : ∀ (r : Int32) (w : Wd), pb r (prj w) = true → post r w) {x1 : Int32} {x2 : Int32} {w : Wd} (h : zX10_crack  pb  x1 x2 (prj w) = true) : pX10_crack  post  x1 x2 w := by
  unfold pX10_crack
  unfold zX10_crack at h
  refine tX10_sealHas (fun r_1 w_2 h => ?_)  h
  refine br_n h (fun c h => ?_) (fun c h => ?_)
  · refine tX0_add (fun w_4 h => ?_)  h
    exact hp _ _ h
  · exact hp _ _ h
def zX0_goBack (post : Int32 → Vd → Bool)  (w : Vd) : Bool := (if (w.1 50 7) < (1 : Int32) then post (0 : Int32) w else (if (w.1 50 7) ≤ (40 : Int32) then fw (vI w 50 7 ((w.1 50 7) - (1 : Int32))) (fun w_3 => fw (vI w_3 50 8 ((w_3.1 50 8) + (1 : Int32))) (fun w_4 => false)) else post (0 : Int32) w))
theorem tX0_goBack  {post : Int32 → Wd → Prop} {pb : Int32 → Vd → Bool} (hp : ∀ (r : Int32) (w : Wd), pb r (prj w) = true → post r w) {w : Wd} (h : zX0_goBack  pb   (prj w) = true) : pX0_goBack  post   w := by
  unfold pX0_goBack
  unfold zX0_goBack at h
  refine br_i h (fun c h => ?_) (fun c h => ?_)
  · exact hp _ _ h
  · refine br_i h (fun c h => ?_) (fun c h => ?_)
    · refine fa_w rfl h (fun w_3 ew_3 h => ?_)
      refine fa_w rfl h (fun w_4 ew_4 h => ?_)
      exact absurd (show false = true from h) (by decide)
    · exact hp _ _ h
def zX10_undo (post : Int32 → Vd → Bool)  (w : Vd) : Bool := zX0_goBack (fun r_1 w_2 => (if r_1 = vp_nar .boolean r_1 then post r_1 w_2 else false)) w
theorem tX10_undo  {post : Int32 → Wd → Prop} {pb : Int32 → Vd → Bool} (hp : ∀ (r : Int32) (w : Wd), pb r (prj w) = true → post r w) {w : Wd} (h : zX10_undo  pb   (prj w) = true) : pX10_undo  post   w := by
  unfold pX10_undo
  unfold zX10_undo at h
  refine tX0_goBack (fun r_1 w_2 h => ?_)  h
  refine gd_e h (fun h => ?_)
  exact hp _ _ h
def zX0_goOn (post : Int32 → Vd → Bool)  (w : Vd) : Bool := (if (w.1 50 8) < (1 : Int32) then post (0 : Int32) w else (if (w.1 50 7) < 0 then post (0 : Int32) w else (if (w.1 50 7) < (40 : Int32) then zX0_perform (fun w_4 => fw (vI w_4 50 7 ((w_4.1 50 7) + (1 : Int32))) (fun w_5 => fw (vI w_5 50 8 ((w_5.1 50 8) - (1 : Int32))) (fun w_6 => post (1 : Int32) w_6))) (w.1 50 7) w else post (0 : Int32) w)))
theorem tX0_goOn  {post : Int32 → Wd → Prop} {pb : Int32 → Vd → Bool} (hp : ∀ (r : Int32) (w : Wd), pb r (prj w) = true → post r w) {w : Wd} (h : zX0_goOn  pb   (prj w) = true) : pX0_goOn  post   w := by
  unfold pX0_goOn
  unfold zX0_goOn at h
  refine br_i h (fun c h => ?_) (fun c h => ?_)
  · exact hp _ _ h
  · refine br_i h (fun c h => ?_) (fun c h => ?_)
    · exact hp _ _ h
    · refine br_i h (fun c h => ?_) (fun c h => ?_)
      · refine tX0_perform (fun w_4 h => ?_)  h
        refine fa_w rfl h (fun w_5 ew_5 h => ?_)
        refine fa_w rfl h (fun w_6 ew_6 h => ?_)
        exact hp _ _ h
      · exact hp _ _ h
def zX10_redo (post : Int32 → Vd → Bool)  (w : Vd) : Bool := zX0_goOn (fun r_1 w_2 => (if r_1 = vp_nar .boolean r_1 then post r_1 w_2 else false)) w
theorem tX10_redo  {post : Int32 → Wd → Prop} {pb : Int32 → Vd → Bool} (hp : ∀ (r : Int32) (w : Wd), pb r (prj w) = true → post r w) {w : Wd} (h : zX10_redo  pb   (prj w) = true) : pX10_redo  post   w := by
  unfold pX10_redo
  unfold zX10_redo at h
  refine tX0_goOn (fun r_1 w_2 h => ?_)  h
  refine gd_e h (fun h => ?_)
  exact hp _ _ h
def zX10_whose_31 (post : Int32 → Vd → Bool) : Nat → Int32 → Int32 → Int32 → Int32 → Int32 → Vd → Bool
  | 0, _, _, _, _, _, _ => false
  | n + 1, x1, x2, x3, x4, x5, w => (if (w.1 (rl (w.2.2 0)) 2) ≤ x5 then post x4 w else (vb x1 24 && false))
theorem tX10_whose_31  {post : Int32 → Wd → Prop} {pb : Int32 → Vd → Bool} (hp : ∀ (r : Int32) (w : Wd), pb r (prj w) = true → post r w) : ∀ (n : Nat) (x1 : Int32) (x2 : Int32) (x3 : Int32) (x4 : Int32) (x5 : Int32) (w : Wd), zX10_whose_31  pb  n x1 x2 x3 x4 x5 (prj w) = true → pX10_whose_31  post  n x1 x2 x3 x4 x5 w := by
  intro n
  induction n with
  | zero => intro x1 x2 x3 x4 x5 w h; exact absurd (show false = true from h) (by decide)
  | succ n ih =>
    intro x1 x2 x3 x4 x5 w h
    unfold pX10_whose_31
    unfold zX10_whose_31 at h
    refine br_i h (fun c h => ?_) (fun c h => ?_)
    · exact hp _ _ h
    · refine gd_v h (fun h => ?_)
      exact absurd (show false = true from h) (by decide)
def zX10_whose (post : Int32 → Vd → Bool) (x1 : Int32) (x2 : Int32) (x3 : Int32) (w : Vd) : Bool := zX10_isSeal (fun r_1 w_2 => (if r_1 = 0 then post (-1 : Int32) w_2 else zX10_isHeat (fun r_4 w_5 => (if r_4 = 0 then post (-1 : Int32) w_5 else zX10_isRow (fun r_7 w_8 => (if r_7 = 0 then post (-1 : Int32) w_8 else zX10_whose_31 post 70000 x1 x2 x3 (0 : Int32) (0 : Int32) w_8)) x3 w_5)) x2 w_2)) x1 w
theorem tX10_whose  {post : Int32 → Wd → Prop} {pb : Int32 → Vd → Bool} (hp : ∀ (r : Int32) (w : Wd), pb r (prj w) = true → post r w) {x1 : Int32} {x2 : Int32} {x3 : Int32} {w : Wd} (h : zX10_whose  pb  x1 x2 x3 (prj w) = true) : pX10_whose  post  x1 x2 x3 w := by
  unfold pX10_whose
  unfold zX10_whose at h
  refine tX10_isSeal (fun r_1 w_2 h => ?_)  h
  refine br_i h (fun c h => ?_) (fun c h => ?_)
  · exact hp _ _ h
  · refine tX10_isHeat (fun r_4 w_5 h => ?_)  h
    refine br_i h (fun c h => ?_) (fun c h => ?_)
    · exact hp _ _ h
    · refine tX10_isRow (fun r_7 w_8 h => ?_)  h
      refine br_n h (fun c h => ?_) (fun c h => ?_)
      · refine ⟨70000, ?_⟩
        exact tX10_whose_31 hp _ _ _ _ _ _ _ h
      · exact hp _ _ h
def zJ6_bitCount_0f7a4 (post : Int32 → Vd → Bool) (x0 : Int32) (w : Vd) : Bool := fz ((x0 - ((x0.toUInt32 >>> ((1 : Int32).toUInt32 &&& Int32.toUInt32 31)).toInt32 &&& (1431655765 : Int32)))) (fun x0_1 => fz (((x0_1 &&& (858993459 : Int32)) + ((x0_1.toUInt32 >>> ((2 : Int32).toUInt32 &&& Int32.toUInt32 31)).toInt32 &&& (858993459 : Int32)))) (fun x0_2 => fz (((x0_2 + (x0_2.toUInt32 >>> ((4 : Int32).toUInt32 &&& Int32.toUInt32 31)).toInt32) &&& (252645135 : Int32))) (fun x0_3 => fz ((x0_3 + (x0_3.toUInt32 >>> ((8 : Int32).toUInt32 &&& Int32.toUInt32 31)).toInt32)) (fun x0_4 => fz ((x0_4 + (x0_4.toUInt32 >>> ((16 : Int32).toUInt32 &&& Int32.toUInt32 31)).toInt32)) (fun x0_5 => post (x0_5 &&& (63 : Int32)) w)))))
theorem tJ6_bitCount_0f7a4  {post : Int32 → Wd → Prop} {pb : Int32 → Vd → Bool} (hp : ∀ (r : Int32) (w : Wd), pb r (prj w) = true → post r w) {x0 : Int32} {w : Wd} (h : zJ6_bitCount_0f7a4  pb  x0 (prj w) = true) : pJ6_bitCount_0f7a4  post  x0 w := by
  unfold pJ6_bitCount_0f7a4
  unfold zJ6_bitCount_0f7a4 at h
  refine fa_i h (fun x0_1 ex0_1 h => ?_)
  refine fa_i h (fun x0_2 ex0_2 h => ?_)
  refine fa_i h (fun x0_3 ex0_3 h => ?_)
  refine fa_i h (fun x0_4 ex0_4 h => ?_)
  refine fa_i h (fun x0_5 ex0_5 h => ?_)
  exact hp _ _ h
def zX10_printOf (post : Int32 → Vd → Bool) (x1 : Int32) (w : Vd) : Bool := zX10_isSeal (fun r_1 w_2 => (if r_1 = 0 then post (0 : Int32) w_2 else (vb x1 24 && zX10_turn (fun r_4 w_5 => post r_4 w_5) (w_2.2.1 162 x1.toNatClampNeg) (w_2.1 (rl (w_2.2.2 0)) 0) w_2))) x1 w
theorem tX10_printOf  {post : Int32 → Wd → Prop} {pb : Int32 → Vd → Bool} (hp : ∀ (r : Int32) (w : Wd), pb r (prj w) = true → post r w) {x1 : Int32} {w : Wd} (h : zX10_printOf  pb  x1 (prj w) = true) : pX10_printOf  post  x1 w := by
  unfold pX10_printOf
  unfold zX10_printOf at h
  refine tX10_isSeal (fun r_1 w_2 h => ?_)  h
  refine br_i h (fun c h => ?_) (fun c h => ?_)
  · exact hp _ _ h
  · refine gd_v h (fun h => ?_)
    refine tX10_turn (fun r_4 w_5 h => ?_)  h
    exact hp _ _ h
def zX10_made_74 (k25 : Int32 → Int32 → Int32 → Int32 → Vd → Bool) (post : Int32 → Vd → Bool) (x1 : Int32) (x2 : Int32) (x3 : Int32) (x4 : Int32) (w : Vd) : Bool := fz (x4 + (1 : Int32)) (fun x4_1 => k25 x1 x2 x3 x4_1 w)
theorem tX10_made_74 {k25 : Int32 → Int32 → Int32 → Int32 → Wd → Prop} {k25b : Int32 → Int32 → Int32 → Int32 → Vd → Bool} {post : Int32 → Wd → Prop} {pb : Int32 → Vd → Bool} (hk25 : ∀ (y0 : Int32) (y1 : Int32) (y2 : Int32) (y3 : Int32) (w : Wd), k25b y0 y1 y2 y3 (prj w) = true → k25 y0 y1 y2 y3 w) (hp : ∀ (r : Int32) (w : Wd), pb r (prj w) = true → post r w) {x1 : Int32} {x2 : Int32} {x3 : Int32} {x4 : Int32} {w : Wd} (h : zX10_made_74 k25b pb  x1 x2 x3 x4 (prj w) = true) : pX10_made_74 k25 post  x1 x2 x3 x4 w := by
  unfold pX10_made_74
  unfold zX10_made_74 at h
  refine fa_i h (fun x4_1 ex4_1 h => ?_)
  exact hk25 _ _ _ _ _ h
def zX10_made_25 (post : Int32 → Vd → Bool) : Nat → Int32 → Int32 → Int32 → Int32 → Vd → Bool
  | 0, _, _, _, _, _ => false
  | n + 1, x1, x2, x3, x4, w => (if (w.1 160 0) ≤ x4 then post x3 w else zX10_printOf (fun r_2 w_3 => (if (x1 &&& (r_2 ^^^ (-1 : Int32))) = 0 then zJ6_bitCount_0f7a4 (fun r_5 w_6 => (if x2 < r_5 then zX10_made_74 (zX10_made_25 post n) post x1 x2 x3 x4 w_6 else fz ((x3 ||| ((1 : Int32) <<< (x4 &&& 31)))) (fun x3_8 => zX10_made_74 (zX10_made_25 post n) post x1 x2 x3_8 x4 w_6))) (r_2 &&& (x1 ^^^ (-1 : Int32))) w_3 else zX10_made_74 (zX10_made_25 post n) post x1 x2 x3 x4 w_3)) x4 w)
theorem tX10_made_25  {post : Int32 → Wd → Prop} {pb : Int32 → Vd → Bool} (hp : ∀ (r : Int32) (w : Wd), pb r (prj w) = true → post r w) : ∀ (n : Nat) (x1 : Int32) (x2 : Int32) (x3 : Int32) (x4 : Int32) (w : Wd), zX10_made_25  pb  n x1 x2 x3 x4 (prj w) = true → pX10_made_25  post  n x1 x2 x3 x4 w := by
  intro n
  induction n with
  | zero => intro x1 x2 x3 x4 w h; exact absurd (show false = true from h) (by decide)
  | succ n ih =>
    intro x1 x2 x3 x4 w h
    unfold pX10_made_25
    unfold zX10_made_25 at h
    refine br_i h (fun c h => ?_) (fun c h => ?_)
    · exact hp _ _ h
    · refine tX10_printOf (fun r_2 w_3 h => ?_)  h
      refine br_n h (fun c h => ?_) (fun c h => ?_)
      · exact tX10_made_74 ih hp  h
      · refine tJ6_bitCount_0f7a4 (fun r_5 w_6 h => ?_)  h
        refine br_i h (fun c h => ?_) (fun c h => ?_)
        · exact tX10_made_74 ih hp  h
        · refine fa_i h (fun x3_8 ex3_8 h => ?_)
          exact tX10_made_74 ih hp  h
def zX10_made (post : Int32 → Vd → Bool) (x1 : Int32) (x2 : Int32) (w : Vd) : Bool := zX10_isRow (fun r_1 w_2 => (if r_1 = 0 then post (-1 : Int32) w_2 else (if x2 < 0 then post (-1 : Int32) w_2 else (if x2 ≤ (12 : Int32) then zX10_made_25 post 70000 x1 x2 (0 : Int32) (0 : Int32) w_2 else post (-1 : Int32) w_2)))) x1 w
theorem tX10_made  {post : Int32 → Wd → Prop} {pb : Int32 → Vd → Bool} (hp : ∀ (r : Int32) (w : Wd), pb r (prj w) = true → post r w) {x1 : Int32} {x2 : Int32} {w : Wd} (h : zX10_made  pb  x1 x2 (prj w) = true) : pX10_made  post  x1 x2 w := by
  unfold pX10_made
  unfold zX10_made at h
  refine tX10_isRow (fun r_1 w_2 h => ?_)  h
  refine br_i h (fun c h => ?_) (fun c h => ?_)
  · exact hp _ _ h
  · refine br_i h (fun c h => ?_) (fun c h => ?_)
    · exact hp _ _ h
    · refine br_i h (fun c h => ?_) (fun c h => ?_)
      · refine ⟨70000, ?_⟩
        exact tX10_made_25 hp _ _ _ _ _ _ h
      · exact hp _ _ h
def zX10_apart_39 (post : Int32 → Vd → Bool) (x1 : Int32) (t0 : Int32) (w : Vd) : Bool := (vb x1 24 && zJ6_bitCount_0f7a4 (fun r_1 w_2 => post r_1 w_2) ((w.2.1 162 x1.toNatClampNeg) ^^^ t0) w)
theorem tX10_apart_39  {post : Int32 → Wd → Prop} {pb : Int32 → Vd → Bool} (hp : ∀ (r : Int32) (w : Wd), pb r (prj w) = true → post r w) {x1 : Int32} {t0 : Int32} {w : Wd} (h : zX10_apart_39  pb  x1 t0 (prj w) = true) : pX10_apart_39  post  x1 t0 w := by
  unfold pX10_apart_39
  unfold zX10_apart_39 at h
  refine gd_v h (fun h => ?_)
  refine tJ6_bitCount_0f7a4 (fun r_1 w_2 h => ?_)  h
  exact hp _ _ h
def zX10_apart (post : Int32 → Vd → Bool) (x1 : Int32) (x2 : Int32) (x3 : Int32) (w : Vd) : Bool := zX10_isSeal (fun r_1 w_2 => (if r_1 = 0 then post (-1 : Int32) w_2 else zX10_isSeal (fun r_4 w_5 => (if r_4 = 0 then post (-1 : Int32) w_5 else (if x3 = 0 then (vb x2 24 && zX10_apart_39 post x1 (w_5.2.1 162 x2.toNatClampNeg) w_5) else zX10_printOf (fun r_8 w_9 => zX10_apart_39 post x1 r_8 w_9) x2 w_5))) x2 w_2)) x1 w
theorem tX10_apart  {post : Int32 → Wd → Prop} {pb : Int32 → Vd → Bool} (hp : ∀ (r : Int32) (w : Wd), pb r (prj w) = true → post r w) {x1 : Int32} {x2 : Int32} {x3 : Int32} {w : Wd} (h : zX10_apart  pb  x1 x2 x3 (prj w) = true) : pX10_apart  post  x1 x2 x3 w := by
  unfold pX10_apart
  unfold zX10_apart at h
  refine tX10_isSeal (fun r_1 w_2 h => ?_)  h
  refine br_i h (fun c h => ?_) (fun c h => ?_)
  · exact hp _ _ h
  · refine tX10_isSeal (fun r_4 w_5 h => ?_)  h
    refine br_n h (fun c h => ?_) (fun c h => ?_)
    · refine br_i h (fun c h => ?_) (fun c h => ?_)
      · refine gd_v h (fun h => ?_)
        exact tX10_apart_39 hp  h
      · refine tX10_printOf (fun r_8 w_9 h => ?_)  h
        exact tX10_apart_39 hp  h
    · exact hp _ _ h
def zX10_heats_32 (post : Int32 → Vd → Bool) : Nat → Int32 → Int32 → Int32 → Int32 → Int32 → Vd → Bool
  | 0, _, _, _, _, _, _ => false
  | n + 1, x1, x2, x3, x4, x5, w => (if (10 : Int32) ≤ x5 then post x4 w else (vb x1 24 && false))
theorem tX10_heats_32  {post : Int32 → Wd → Prop} {pb : Int32 → Vd → Bool} (hp : ∀ (r : Int32) (w : Wd), pb r (prj w) = true → post r w) : ∀ (n : Nat) (x1 : Int32) (x2 : Int32) (x3 : Int32) (x4 : Int32) (x5 : Int32) (w : Wd), zX10_heats_32  pb  n x1 x2 x3 x4 x5 (prj w) = true → pX10_heats_32  post  n x1 x2 x3 x4 x5 w := by
  intro n
  induction n with
  | zero => intro x1 x2 x3 x4 x5 w h; exact absurd (show false = true from h) (by decide)
  | succ n ih =>
    intro x1 x2 x3 x4 x5 w h
    unfold pX10_heats_32
    unfold zX10_heats_32 at h
    refine br_i h (fun c h => ?_) (fun c h => ?_)
    · exact hp _ _ h
    · refine gd_v h (fun h => ?_)
      exact absurd (show false = true from h) (by decide)
def zX10_heats (post : Int32 → Vd → Bool) (x1 : Int32) (x2 : Int32) (x3 : Int32) (w : Vd) : Bool := zX10_isSeal (fun r_1 w_2 => (if r_1 = 0 then post (-1 : Int32) w_2 else zX10_isHand (fun r_4 w_5 => (if r_4 = 0 then post (-1 : Int32) w_5 else zX10_isRow (fun r_7 w_8 => (if r_7 = 0 then post (-1 : Int32) w_8 else zX10_heats_32 post 70000 x1 x2 x3 (0 : Int32) (0 : Int32) w_8)) x3 w_5)) x2 w_2)) x1 w
theorem tX10_heats  {post : Int32 → Wd → Prop} {pb : Int32 → Vd → Bool} (hp : ∀ (r : Int32) (w : Wd), pb r (prj w) = true → post r w) {x1 : Int32} {x2 : Int32} {x3 : Int32} {w : Wd} (h : zX10_heats  pb  x1 x2 x3 (prj w) = true) : pX10_heats  post  x1 x2 x3 w := by
  unfold pX10_heats
  unfold zX10_heats at h
  refine tX10_isSeal (fun r_1 w_2 h => ?_)  h
  refine br_i h (fun c h => ?_) (fun c h => ?_)
  · exact hp _ _ h
  · refine tX10_isHand (fun r_4 w_5 h => ?_)  h
    refine br_i h (fun c h => ?_) (fun c h => ?_)
    · exact hp _ _ h
    · refine tX10_isRow (fun r_7 w_8 h => ?_)  h
      refine br_n h (fun c h => ?_) (fun c h => ?_)
      · refine ⟨70000, ?_⟩
        exact tX10_heats_32 hp _ _ _ _ _ _ _ h
      · exact hp _ _ h
def zX10_luck_27 (post : Int32 → Vd → Bool) : Nat → Int32 → Int32 → Int32 → Int32 → Int32 → Int32 → Vd → Bool
  | 0, _, _, _, _, _, _, _ => false
  | n + 1, x1, x2, x3, x4, x5, x6, w => (if (100 : Int32) ≤ x6 then post x5 w else (vb x1 24 && false))
theorem tX10_luck_27  {post : Int32 → Wd → Prop} {pb : Int32 → Vd → Bool} (hp : ∀ (r : Int32) (w : Wd), pb r (prj w) = true → post r w) : ∀ (n : Nat) (x1 : Int32) (x2 : Int32) (x3 : Int32) (x4 : Int32) (x5 : Int32) (x6 : Int32) (w : Wd), zX10_luck_27  pb  n x1 x2 x3 x4 x5 x6 (prj w) = true → pX10_luck_27  post  n x1 x2 x3 x4 x5 x6 w := by
  intro n
  induction n with
  | zero => intro x1 x2 x3 x4 x5 x6 w h; exact absurd (show false = true from h) (by decide)
  | succ n ih =>
    intro x1 x2 x3 x4 x5 x6 w h
    unfold pX10_luck_27
    unfold zX10_luck_27 at h
    refine br_i h (fun c h => ?_) (fun c h => ?_)
    · exact hp _ _ h
    · refine gd_v h (fun h => ?_)
      exact absurd (show false = true from h) (by decide)
def zX10_luck (post : Int32 → Vd → Bool) (x1 : Int32) (x2 : Int32) (x3 : Int32) (x4 : Int32) (w : Vd) : Bool := zX10_canCast (fun r_1 w_2 => (if r_1 = 0 then post (-1 : Int32) w_2 else zX10_isRow (fun r_4 w_5 => (if r_4 = 0 then post (-1 : Int32) w_5 else zX10_luck_27 post 70000 x1 x2 x3 x4 (0 : Int32) (0 : Int32) w_5)) x4 w_2)) x1 x2 x3 w
theorem tX10_luck  {post : Int32 → Wd → Prop} {pb : Int32 → Vd → Bool} (hp : ∀ (r : Int32) (w : Wd), pb r (prj w) = true → post r w) {x1 : Int32} {x2 : Int32} {x3 : Int32} {x4 : Int32} {w : Wd} (h : zX10_luck  pb  x1 x2 x3 x4 (prj w) = true) : pX10_luck  post  x1 x2 x3 x4 w := by
  unfold pX10_luck
  unfold zX10_luck at h
  refine tX10_canCast (fun r_1 w_2 h => ?_)  h
  refine br_i h (fun c h => ?_) (fun c h => ?_)
  · exact hp _ _ h
  · refine tX10_isRow (fun r_4 w_5 h => ?_)  h
    refine br_n h (fun c h => ?_) (fun c h => ?_)
    · refine ⟨70000, ?_⟩
      exact tX10_luck_27 hp _ _ _ _ _ _ _ _ h
    · exact hp _ _ h
def zX10_likely (post : Int32 → Vd → Bool) (x1 : Int32) (x2 : Int32) (x3 : Int32) (x4 : Int32) (w : Vd) : Bool := zX10_canCast (fun r_1 w_2 => (if r_1 = 0 then post (-1 : Int32) w_2 else (if x4 < 0 then post (-1 : Int32) w_2 else (if x4 ≤ (1 : Int32) then false else post (-1 : Int32) w_2)))) x1 x2 x3 w
theorem tX10_likely  {post : Int32 → Wd → Prop} {pb : Int32 → Vd → Bool} (hp : ∀ (r : Int32) (w : Wd), pb r (prj w) = true → post r w) {x1 : Int32} {x2 : Int32} {x3 : Int32} {x4 : Int32} {w : Wd} (h : zX10_likely  pb  x1 x2 x3 x4 (prj w) = true) : pX10_likely  post  x1 x2 x3 x4 w := by
  unfold pX10_likely
  unfold zX10_likely at h
  refine tX10_canCast (fun r_1 w_2 h => ?_)  h
  refine br_i h (fun c h => ?_) (fun c h => ?_)
  · exact hp _ _ h
  · refine br_i h (fun c h => ?_) (fun c h => ?_)
    · exact hp _ _ h
    · refine br_i h (fun c h => ?_) (fun c h => ?_)
      · exact absurd (show false = true from h) (by decide)
      · exact hp _ _ h
def zX10_fades (post : Int32 → Vd → Bool) (x1 : Int32) (x2 : Int32) (x3 : Int32) (w : Vd) : Bool := zX10_canCast (fun r_1 w_2 => (if r_1 = 0 then post (-1 : Int32) w_2 else (vb x1 24 && false))) x1 x2 x3 w
theorem tX10_fades  {post : Int32 → Wd → Prop} {pb : Int32 → Vd → Bool} (hp : ∀ (r : Int32) (w : Wd), pb r (prj w) = true → post r w) {x1 : Int32} {x2 : Int32} {x3 : Int32} {w : Wd} (h : zX10_fades  pb  x1 x2 x3 (prj w) = true) : pX10_fades  post  x1 x2 x3 w := by
  unfold pX10_fades
  unfold zX10_fades at h
  refine tX10_canCast (fun r_1 w_2 h => ?_)  h
  refine br_n h (fun c h => ?_) (fun c h => ?_)
  · refine gd_v h (fun h => ?_)
    exact absurd (show false = true from h) (by decide)
  · exact hp _ _ h
def zX10_kin_108 (post : Int32 → Vd → Bool) (x1 : Int32) (x2 : Int32) (x3 : Int32) (x4 : Int32) (w : Vd) : Bool := (if x3 = 0 then post x4 w else zX10_isSeal (fun r_2 w_3 => (if r_2 = 0 then post x4 w_3 else (vb x1 24 && (vb x2 24 && (vb x4 24 && post (((w_3.2.1 166 x1.toNatClampNeg) + (w_3.2.1 166 x2.toNatClampNeg)) - ((2 : Int32) * (w_3.2.1 166 x4.toNatClampNeg))) w_3))))) x4 w)
theorem tX10_kin_108  {post : Int32 → Wd → Prop} {pb : Int32 → Vd → Bool} (hp : ∀ (r : Int32) (w : Wd), pb r (prj w) = true → post r w) {x1 : Int32} {x2 : Int32} {x3 : Int32} {x4 : Int32} {w : Wd} (h : zX10_kin_108  pb  x1 x2 x3 x4 (prj w) = true) : pX10_kin_108  post  x1 x2 x3 x4 w := by
  unfold pX10_kin_108
  unfold zX10_kin_108 at h
  refine br_i h (fun c h => ?_) (fun c h => ?_)
  · exact hp _ _ h
  · refine tX10_isSeal (fun r_2 w_3 h => ?_)  h
    refine br_n h (fun c h => ?_) (fun c h => ?_)
    · refine gd_v h (fun h => ?_)
      refine gd_v h (fun h => ?_)
      refine gd_v h (fun h => ?_)
      exact hp _ _ h
    · exact hp _ _ h
def zX10_kin_102 (k36 : Int32 → Int32 → Int32 → Int32 → Int32 → Int32 → Vd → Bool) (post : Int32 → Vd → Bool) (x1 : Int32) (x2 : Int32) (x3 : Int32) (x4 : Int32) (x5 : Int32) (x6 : Int32) (w : Vd) : Bool := fz (x6 + (1 : Int32)) (fun x6_1 => k36 x1 x2 x3 x4 x5 x6_1 w)
theorem tX10_kin_102 {k36 : Int32 → Int32 → Int32 → Int32 → Int32 → Int32 → Wd → Prop} {k36b : Int32 → Int32 → Int32 → Int32 → Int32 → Int32 → Vd → Bool} {post : Int32 → Wd → Prop} {pb : Int32 → Vd → Bool} (hk36 : ∀ (y0 : Int32) (y1 : Int32) (y2 : Int32) (y3 : Int32) (y4 : Int32) (y5 : Int32) (w : Wd), k36b y0 y1 y2 y3 y4 y5 (prj w) = true → k36 y0 y1 y2 y3 y4 y5 w) (hp : ∀ (r : Int32) (w : Wd), pb r (prj w) = true → post r w) {x1 : Int32} {x2 : Int32} {x3 : Int32} {x4 : Int32} {x5 : Int32} {x6 : Int32} {w : Wd} (h : zX10_kin_102 k36b pb  x1 x2 x3 x4 x5 x6 (prj w) = true) : pX10_kin_102 k36 post  x1 x2 x3 x4 x5 x6 w := by
  unfold pX10_kin_102
  unfold zX10_kin_102 at h
  refine fa_i h (fun x6_1 ex6_1 h => ?_)
  exact hk36 _ _ _ _ _ _ _ h
def zX10_kin_36 (post : Int32 → Vd → Bool) : Nat → Int32 → Int32 → Int32 → Int32 → Int32 → Int32 → Vd → Bool
  | 0, _, _, _, _, _, _, _ => false
  | n + 1, x1, x2, x3, x4, x5, x6, w => (if (48 : Int32) ≤ x6 then zX10_kin_108 post x1 x2 x3 x4 w else (if x4 = x5 then zX10_kin_108 post x1 x2 x3 x4 w else zX10_isSeal (fun r_3 w_4 => (if r_3 = 0 then zX10_kin_108 post x1 x2 x3 x4 w_4 else zX10_isSeal (fun r_6 w_7 => (if r_6 = 0 then zX10_kin_108 post x1 x2 x3 x4 w_7 else (if x4 ≤ x5 then (vb x5 24 && fz ((w_7.2.1 163 x5.toNatClampNeg)) (fun x5_10 => zX10_kin_102 (zX10_kin_36 post n) post x1 x2 x3 x4 x5_10 x6 w_7)) else (vb x4 24 && fz ((w_7.2.1 163 x4.toNatClampNeg)) (fun x4_11 => zX10_kin_102 (zX10_kin_36 post n) post x1 x2 x3 x4_11 x5 x6 w_7))))) x5 w_4)) x4 w))
theorem tX10_kin_36  {post : Int32 → Wd → Prop} {pb : Int32 → Vd → Bool} (hp : ∀ (r : Int32) (w : Wd), pb r (prj w) = true → post r w) : ∀ (n : Nat) (x1 : Int32) (x2 : Int32) (x3 : Int32) (x4 : Int32) (x5 : Int32) (x6 : Int32) (w : Wd), zX10_kin_36  pb  n x1 x2 x3 x4 x5 x6 (prj w) = true → pX10_kin_36  post  n x1 x2 x3 x4 x5 x6 w := by
  intro n
  induction n with
  | zero => intro x1 x2 x3 x4 x5 x6 w h; exact absurd (show false = true from h) (by decide)
  | succ n ih =>
    intro x1 x2 x3 x4 x5 x6 w h
    unfold pX10_kin_36
    unfold zX10_kin_36 at h
    refine br_i h (fun c h => ?_) (fun c h => ?_)
    · exact tX10_kin_108 hp  h
    · refine br_i h (fun c h => ?_) (fun c h => ?_)
      · exact tX10_kin_108 hp  h
      · refine tX10_isSeal (fun r_3 w_4 h => ?_)  h
        refine br_i h (fun c h => ?_) (fun c h => ?_)
        · exact tX10_kin_108 hp  h
        · refine tX10_isSeal (fun r_6 w_7 h => ?_)  h
          refine br_i h (fun c h => ?_) (fun c h => ?_)
          · exact tX10_kin_108 hp  h
          · refine br_i h (fun c h => ?_) (fun c h => ?_)
            · refine gd_v h (fun h => ?_)
              refine fa_i h (fun x5_10 ex5_10 h => ?_)
              exact tX10_kin_102 ih hp  h
            · refine gd_v h (fun h => ?_)
              refine fa_i h (fun x4_11 ex4_11 h => ?_)
              exact tX10_kin_102 ih hp  h
def zX10_kin (post : Int32 → Vd → Bool) (x1 : Int32) (x2 : Int32) (x3 : Int32) (w : Vd) : Bool := zX10_isSeal (fun r_1 w_2 => (if r_1 = 0 then post (-1 : Int32) w_2 else zX10_isSeal (fun r_4 w_5 => (if r_4 = 0 then post (-1 : Int32) w_5 else (if x3 < 0 then post (-1 : Int32) w_5 else (if x3 ≤ (1 : Int32) then zX10_kin_36 post 70000 x1 x2 x3 x1 x2 (0 : Int32) w_5 else post (-1 : Int32) w_5)))) x2 w_2)) x1 w
theorem tX10_kin  {post : Int32 → Wd → Prop} {pb : Int32 → Vd → Bool} (hp : ∀ (r : Int32) (w : Wd), pb r (prj w) = true → post r w) {x1 : Int32} {x2 : Int32} {x3 : Int32} {w : Wd} (h : zX10_kin  pb  x1 x2 x3 (prj w) = true) : pX10_kin  post  x1 x2 x3 w := by
  unfold pX10_kin
  unfold zX10_kin at h
  refine tX10_isSeal (fun r_1 w_2 h => ?_)  h
  refine br_i h (fun c h => ?_) (fun c h => ?_)
  · exact hp _ _ h
  · refine tX10_isSeal (fun r_4 w_5 h => ?_)  h
    refine br_i h (fun c h => ?_) (fun c h => ?_)
    · exact hp _ _ h
    · refine br_i h (fun c h => ?_) (fun c h => ?_)
      · exact hp _ _ h
      · refine br_i h (fun c h => ?_) (fun c h => ?_)
        · refine ⟨70000, ?_⟩
          exact tX10_kin_36 hp _ _ _ _ _ _ _ _ h
        · exact hp _ _ h
def zX10_thumb_20 (post : Int32 → Vd → Bool) : Nat → Int32 → Int32 → Int32 → Vd → Bool
  | 0, _, _, _, _ => false
  | n + 1, x3, x4, x5, w => (if (24 : Int32) ≤ x5 then post (-1 : Int32) w else (if x3 ≤ 0 then post (-1 : Int32) w else (vb x3 24 && fz ((w.2.1 163 x3.toNatClampNeg)) (fun x6_3 => fz ((((w.1 (rl (w.2.2 0)) 0) - (1 : Int32)) - x4)) (fun x4_4 => zX10_sealHas (fun r_5 w_6 => (if r_5 = 0 then (vb x3 24 && post (w_6.2.1 164 x3.toNatClampNeg) w_6) else fz (x5 + (1 : Int32)) (fun x5_8 => zX10_thumb_20 post n x6_3 x4_4 x5_8 w_6))) x6_3 x4_4 w)))))
theorem tX10_thumb_20  {post : Int32 → Wd → Prop} {pb : Int32 → Vd → Bool} (hp : ∀ (r : Int32) (w : Wd), pb r (prj w) = true → post r w) : ∀ (n : Nat) (x3 : Int32) (x4 : Int32) (x5 : Int32) (w : Wd), zX10_thumb_20  pb  n x3 x4 x5 (prj w) = true → pX10_thumb_20  post  n x3 x4 x5 w := by
  intro n
  induction n with
  | zero => intro x3 x4 x5 w h; exact absurd (show false = true from h) (by decide)
  | succ n ih =>
    intro x3 x4 x5 w h
    unfold pX10_thumb_20
    unfold zX10_thumb_20 at h
    refine br_i h (fun c h => ?_) (fun c h => ?_)
    · exact hp _ _ h
    · refine br_i h (fun c h => ?_) (fun c h => ?_)
      · exact hp _ _ h
      · refine gd_v h (fun h => ?_)
        refine fa_i h (fun x6_3 ex6_3 h => ?_)
        refine fa_i h (fun x4_4 ex4_4 h => ?_)
        refine tX10_sealHas (fun r_5 w_6 h => ?_)  h
        refine br_n h (fun c h => ?_) (fun c h => ?_)
        · refine fa_i h (fun x5_8 ex5_8 h => ?_)
          exact ih _ _ _ _ h
        · refine gd_v h (fun h => ?_)
          exact hp _ _ h
def zX10_thumb (post : Int32 → Vd → Bool) (x1 : Int32) (x2 : Int32) (w : Vd) : Bool := zX10_sealHas (fun r_1 w_2 => (if r_1 = 0 then post (-2 : Int32) w_2 else zX10_thumb_20 post 70000 x1 x2 (0 : Int32) w_2)) x1 x2 w
theorem tX10_thumb  {post : Int32 → Wd → Prop} {pb : Int32 → Vd → Bool} (hp : ∀ (r : Int32) (w : Wd), pb r (prj w) = true → post r w) {x1 : Int32} {x2 : Int32} {w : Wd} (h : zX10_thumb  pb  x1 x2 (prj w) = true) : pX10_thumb  post  x1 x2 w := by
  unfold pX10_thumb
  unfold zX10_thumb at h
  refine tX10_sealHas (fun r_1 w_2 h => ?_)  h
  refine br_n h (fun c h => ?_) (fun c h => ?_)
  · refine ⟨70000, ?_⟩
    exact tX10_thumb_20 hp _ _ _ _ _ h
  · exact hp _ _ h
def zX10_marksIn_46 (k6 : Int32 → Int32 → Int32 → Int32 → Int32 → Vd → Bool) (post : Int32 → Vd → Bool) (x1 : Int32) (x2 : Int32) (x3 : Int32) (x4 : Int32) (x5 : Int32) (w : Vd) : Bool := fz (x5 + (1 : Int32)) (fun x5_1 => k6 x1 x2 x3 x4 x5_1 w)
theorem tX10_marksIn_46 {k6 : Int32 → Int32 → Int32 → Int32 → Int32 → Wd → Prop} {k6b : Int32 → Int32 → Int32 → Int32 → Int32 → Vd → Bool} {post : Int32 → Wd → Prop} {pb : Int32 → Vd → Bool} (hk6 : ∀ (y0 : Int32) (y1 : Int32) (y2 : Int32) (y3 : Int32) (y4 : Int32) (w : Wd), k6b y0 y1 y2 y3 y4 (prj w) = true → k6 y0 y1 y2 y3 y4 w) (hp : ∀ (r : Int32) (w : Wd), pb r (prj w) = true → post r w) {x1 : Int32} {x2 : Int32} {x3 : Int32} {x4 : Int32} {x5 : Int32} {w : Wd} (h : zX10_marksIn_46 k6b pb  x1 x2 x3 x4 x5 (prj w) = true) : pX10_marksIn_46 k6 post  x1 x2 x3 x4 x5 w := by
  unfold pX10_marksIn_46
  unfold zX10_marksIn_46 at h
  refine fa_i h (fun x5_1 ex5_1 h => ?_)
  exact hk6 _ _ _ _ _ _ h
def zX10_marksIn_6 (post : Int32 → Vd → Bool) : Nat → Int32 → Int32 → Int32 → Int32 → Int32 → Vd → Bool
  | 0, _, _, _, _, _, _ => false
  | n + 1, x1, x2, x3, x4, x5, w => (if (w.1 (rl (w.2.2 0)) 0) ≤ x5 then post x4 w else (if ((x1 >>> (x5 &&& 31)) &&& (1 : Int32)) = 0 then zX10_marksIn_46 (zX10_marksIn_6 post n) post x1 x2 x3 x4 x5 w else (if (w.1 (rl (w.2.2 0)) 0) = 0 then false else (if ((x5 * x2) / (w.1 (rl (w.2.2 0)) 0)) = x3 then fz (x4 + (1 : Int32)) (fun x4_4 => zX10_marksIn_46 (zX10_marksIn_6 post n) post x1 x2 x3 x4_4 x5 w) else zX10_marksIn_46 (zX10_marksIn_6 post n) post x1 x2 x3 x4 x5 w))))
theorem tX10_marksIn_6  {post : Int32 → Wd → Prop} {pb : Int32 → Vd → Bool} (hp : ∀ (r : Int32) (w : Wd), pb r (prj w) = true → post r w) : ∀ (n : Nat) (x1 : Int32) (x2 : Int32) (x3 : Int32) (x4 : Int32) (x5 : Int32) (w : Wd), zX10_marksIn_6  pb  n x1 x2 x3 x4 x5 (prj w) = true → pX10_marksIn_6  post  n x1 x2 x3 x4 x5 w := by
  intro n
  induction n with
  | zero => intro x1 x2 x3 x4 x5 w h; exact absurd (show false = true from h) (by decide)
  | succ n ih =>
    intro x1 x2 x3 x4 x5 w h
    unfold pX10_marksIn_6
    unfold zX10_marksIn_6 at h
    refine br_i h (fun c h => ?_) (fun c h => ?_)
    · exact hp _ _ h
    · refine br_i h (fun c h => ?_) (fun c h => ?_)
      · exact tX10_marksIn_46 ih hp  h
      · refine gd_n h (fun h => ?_)
        refine br_n h (fun c h => ?_) (fun c h => ?_)
        · exact tX10_marksIn_46 ih hp  h
        · refine fa_i h (fun x4_4 ex4_4 h => ?_)
          exact tX10_marksIn_46 ih hp  h
def zX10_marksIn (post : Int32 → Vd → Bool) (x1 : Int32) (x2 : Int32) (x3 : Int32) (w : Vd) : Bool := zX10_marksIn_6 post 70000 x1 x2 x3 (0 : Int32) (0 : Int32) w
theorem tX10_marksIn  {post : Int32 → Wd → Prop} {pb : Int32 → Vd → Bool} (hp : ∀ (r : Int32) (w : Wd), pb r (prj w) = true → post r w) {x1 : Int32} {x2 : Int32} {x3 : Int32} {w : Wd} (h : zX10_marksIn  pb  x1 x2 x3 (prj w) = true) : pX10_marksIn  post  x1 x2 x3 w := by
  unfold pX10_marksIn
  unfold zX10_marksIn at h
  refine ⟨70000, ?_⟩
  exact tX10_marksIn_6 hp _ _ _ _ _ _ _ h
def zX10_share_144 (k64 : Int32 → Int32 → Int32 → Int32 → Int32 → Int32 → Int32 → Int32 → Vd → Bool) (post : Int32 → Vd → Bool) (x1 : Int32) (x2 : Int32) (x3 : Int32) (x4 : Int32) (x5 : Int32) (x6 : Int32) (x8 : Int32) (t0 : Int32) (t1 : Int32) (w : Vd) : Bool := fz ((t0 + t1)) (fun x7_1 => fz (x8 + (1 : Int32)) (fun x8_2 => k64 x1 x2 x3 x4 x5 x6 x7_1 x8_2 w))
theorem tX10_share_144 {k64 : Int32 → Int32 → Int32 → Int32 → Int32 → Int32 → Int32 → Int32 → Wd → Prop} {k64b : Int32 → Int32 → Int32 → Int32 → Int32 → Int32 → Int32 → Int32 → Vd → Bool} {post : Int32 → Wd → Prop} {pb : Int32 → Vd → Bool} (hk64 : ∀ (y0 : Int32) (y1 : Int32) (y2 : Int32) (y3 : Int32) (y4 : Int32) (y5 : Int32) (y6 : Int32) (y7 : Int32) (w : Wd), k64b y0 y1 y2 y3 y4 y5 y6 y7 (prj w) = true → k64 y0 y1 y2 y3 y4 y5 y6 y7 w) (hp : ∀ (r : Int32) (w : Wd), pb r (prj w) = true → post r w) {x1 : Int32} {x2 : Int32} {x3 : Int32} {x4 : Int32} {x5 : Int32} {x6 : Int32} {x8 : Int32} {t0 : Int32} {t1 : Int32} {w : Wd} (h : zX10_share_144 k64b pb  x1 x2 x3 x4 x5 x6 x8 t0 t1 (prj w) = true) : pX10_share_144 k64 post  x1 x2 x3 x4 x5 x6 x8 t0 t1 w := by
  unfold pX10_share_144
  unfold zX10_share_144 at h
  refine fa_i h (fun x7_1 ex7_1 h => ?_)
  refine fa_i h (fun x8_2 ex8_2 h => ?_)
  exact hk64 _ _ _ _ _ _ _ _ _ h
def zX10_share_130 (k64 : Int32 → Int32 → Int32 → Int32 → Int32 → Int32 → Int32 → Int32 → Vd → Bool) (post : Int32 → Vd → Bool) (x1 : Int32) (x2 : Int32) (x3 : Int32) (x4 : Int32) (x5 : Int32) (x6 : Int32) (x7 : Int32) (x8 : Int32) (t0 : Int32) (w : Vd) : Bool := (if t0 = 0 then zX10_share_144 k64 post x1 x2 x3 x4 x5 x6 x8 x7 (0 : Int32) w else zX10_share_144 k64 post x1 x2 x3 x4 x5 x6 x8 x7 (1 : Int32) w)
theorem tX10_share_130 {k64 : Int32 → Int32 → Int32 → Int32 → Int32 → Int32 → Int32 → Int32 → Wd → Prop} {k64b : Int32 → Int32 → Int32 → Int32 → Int32 → Int32 → Int32 → Int32 → Vd → Bool} {post : Int32 → Wd → Prop} {pb : Int32 → Vd → Bool} (hk64 : ∀ (y0 : Int32) (y1 : Int32) (y2 : Int32) (y3 : Int32) (y4 : Int32) (y5 : Int32) (y6 : Int32) (y7 : Int32) (w : Wd), k64b y0 y1 y2 y3 y4 y5 y6 y7 (prj w) = true → k64 y0 y1 y2 y3 y4 y5 y6 y7 w) (hp : ∀ (r : Int32) (w : Wd), pb r (prj w) = true → post r w) {x1 : Int32} {x2 : Int32} {x3 : Int32} {x4 : Int32} {x5 : Int32} {x6 : Int32} {x7 : Int32} {x8 : Int32} {t0 : Int32} {w : Wd} (h : zX10_share_130 k64b pb  x1 x2 x3 x4 x5 x6 x7 x8 t0 (prj w) = true) : pX10_share_130 k64 post  x1 x2 x3 x4 x5 x6 x7 x8 t0 w := by
  unfold pX10_share_130
  unfold zX10_share_130 at h
  refine br_i h (fun c h => ?_) (fun c h => ?_)
  · exact tX10_share_144 hk64 hp  h
  · exact tX10_share_144 hk64 hp  h
def zX10_share_129 (k64 : Int32 → Int32 → Int32 → Int32 → Int32 → Int32 → Int32 → Int32 → Vd → Bool) (post : Int32 → Vd → Bool) (x1 : Int32) (x2 : Int32) (x3 : Int32) (x4 : Int32) (x5 : Int32) (x6 : Int32) (x7 : Int32) (x8 : Int32) (w : Vd) : Bool := zX10_share_130 k64 post x1 x2 x3 x4 x5 x6 x7 x8 (0 : Int32) w
theorem tX10_share_129 {k64 : Int32 → Int32 → Int32 → Int32 → Int32 → Int32 → Int32 → Int32 → Wd → Prop} {k64b : Int32 → Int32 → Int32 → Int32 → Int32 → Int32 → Int32 → Int32 → Vd → Bool} {post : Int32 → Wd → Prop} {pb : Int32 → Vd → Bool} (hk64 : ∀ (y0 : Int32) (y1 : Int32) (y2 : Int32) (y3 : Int32) (y4 : Int32) (y5 : Int32) (y6 : Int32) (y7 : Int32) (w : Wd), k64b y0 y1 y2 y3 y4 y5 y6 y7 (prj w) = true → k64 y0 y1 y2 y3 y4 y5 y6 y7 w) (hp : ∀ (r : Int32) (w : Wd), pb r (prj w) = true → post r w) {x1 : Int32} {x2 : Int32} {x3 : Int32} {x4 : Int32} {x5 : Int32} {x6 : Int32} {x7 : Int32} {x8 : Int32} {w : Wd} (h : zX10_share_129 k64b pb  x1 x2 x3 x4 x5 x6 x7 x8 (prj w) = true) : pX10_share_129 k64 post  x1 x2 x3 x4 x5 x6 x7 x8 w := by
  unfold pX10_share_129
  unfold zX10_share_129 at h
  exact tX10_share_130 hk64 hp  h
def zX10_share_125 (k64 : Int32 → Int32 → Int32 → Int32 → Int32 → Int32 → Int32 → Int32 → Vd → Bool) (post : Int32 → Vd → Bool) (x1 : Int32) (x2 : Int32) (x3 : Int32) (x4 : Int32) (x5 : Int32) (x6 : Int32) (x7 : Int32) (x8 : Int32) (w : Vd) : Bool := zX10_share_130 k64 post x1 x2 x3 x4 x5 x6 x7 x8 (1 : Int32) w
theorem tX10_share_125 {k64 : Int32 → Int32 → Int32 → Int32 → Int32 → Int32 → Int32 → Int32 → Wd → Prop} {k64b : Int32 → Int32 → Int32 → Int32 → Int32 → Int32 → Int32 → Int32 → Vd → Bool} {post : Int32 → Wd → Prop} {pb : Int32 → Vd → Bool} (hk64 : ∀ (y0 : Int32) (y1 : Int32) (y2 : Int32) (y3 : Int32) (y4 : Int32) (y5 : Int32) (y6 : Int32) (y7 : Int32) (w : Wd), k64b y0 y1 y2 y3 y4 y5 y6 y7 (prj w) = true → k64 y0 y1 y2 y3 y4 y5 y6 y7 w) (hp : ∀ (r : Int32) (w : Wd), pb r (prj w) = true → post r w) {x1 : Int32} {x2 : Int32} {x3 : Int32} {x4 : Int32} {x5 : Int32} {x6 : Int32} {x7 : Int32} {x8 : Int32} {w : Wd} (h : zX10_share_125 k64b pb  x1 x2 x3 x4 x5 x6 x7 x8 (prj w) = true) : pX10_share_125 k64 post  x1 x2 x3 x4 x5 x6 x7 x8 w := by
  unfold pX10_share_125
  unfold zX10_share_125 at h
  exact tX10_share_130 hk64 hp  h
def zX10_share_64 (post : Int32 → Vd → Bool) : Nat → Int32 → Int32 → Int32 → Int32 → Int32 → Int32 → Int32 → Int32 → Vd → Bool
  | 0, _, _, _, _, _, _, _, _, _ => false
  | n + 1, x1, x2, x3, x4, x5, x6, x7, x8, w => (if x2 ≤ x8 then (if x4 = 0 then false else (if x6 ≤ x7 then post ((x5 / x4) + (0 : Int32)) w else post ((x5 / x4) + (1 : Int32)) w)) else zX10_marksIn (fun r_3 w_4 => fz (((100 : Int32) * r_3)) (fun x9_5 => (if x4 = 0 then false else fz ((x6 - (x9_5 / x4))) (fun x6_6 => (if x4 = 0 then false else (if x4 = 0 then false else (if (x5 - x5 / x4 * x4) < (x9_5 - x9_5 / x4 * x4) then zX10_share_125 (zX10_share_64 post n) post x1 x2 x3 x4 x5 x6_6 x7 x8 w_4 else (if x4 = 0 then false else (if x4 = 0 then false else (if (x9_5 - x9_5 / x4 * x4) = (x5 - x5 / x4 * x4) then (if x3 ≤ x8 then zX10_share_129 (zX10_share_64 post n) post x1 x2 x3 x4 x5 x6_6 x7 x8 w_4 else zX10_share_125 (zX10_share_64 post n) post x1 x2 x3 x4 x5 x6_6 x7 x8 w_4) else zX10_share_129 (zX10_share_64 post n) post x1 x2 x3 x4 x5 x6_6 x7 x8 w_4)))))))))) x1 x2 x8 w)
theorem tX10_share_64  {post : Int32 → Wd → Prop} {pb : Int32 → Vd → Bool} (hp : ∀ (r : Int32) (w : Wd), pb r (prj w) = true → post r w) : ∀ (n : Nat) (x1 : Int32) (x2 : Int32) (x3 : Int32) (x4 : Int32) (x5 : Int32) (x6 : Int32) (x7 : Int32) (x8 : Int32) (w : Wd), zX10_share_64  pb  n x1 x2 x3 x4 x5 x6 x7 x8 (prj w) = true → pX10_share_64  post  n x1 x2 x3 x4 x5 x6 x7 x8 w := by
  intro n
  induction n with
  | zero => intro x1 x2 x3 x4 x5 x6 x7 x8 w h; exact absurd (show false = true from h) (by decide)
  | succ n ih =>
    intro x1 x2 x3 x4 x5 x6 x7 x8 w h
    unfold pX10_share_64
    unfold zX10_share_64 at h
    refine br_i h (fun c h => ?_) (fun c h => ?_)
    · refine gd_n h (fun h => ?_)
      refine br_i h (fun c h => ?_) (fun c h => ?_)
      · exact hp _ _ h
      · exact hp _ _ h
    · refine tX10_marksIn (fun r_3 w_4 h => ?_)  h
      refine fa_i h (fun x9_5 ex9_5 h => ?_)
      refine gd_n h (fun h => ?_)
      refine fa_i h (fun x6_6 ex6_6 h => ?_)
      refine gd_n h (fun h => ?_)
      refine gd_n h (fun h => ?_)
      refine br_i h (fun c h => ?_) (fun c h => ?_)
      · exact tX10_share_125 ih hp  h
      · refine gd_n h (fun h => ?_)
        refine gd_n h (fun h => ?_)
        refine br_n h (fun c h => ?_) (fun c h => ?_)
        · exact tX10_share_129 ih hp  h
        · refine br_i h (fun c h => ?_) (fun c h => ?_)
          · exact tX10_share_129 ih hp  h
          · exact tX10_share_125 ih hp  h
def zX10_share (post : Int32 → Vd → Bool) (x1 : Int32) (x2 : Int32) (x3 : Int32) (w : Vd) : Bool := zX10_isRow (fun r_1 w_2 => (if r_1 = 0 then post (-1 : Int32) w_2 else (if x2 < (1 : Int32) then post (-1 : Int32) w_2 else (if (4 : Int32) < x2 then post (-1 : Int32) w_2 else (if x3 < 0 then post (-1 : Int32) w_2 else (if x3 < x2 then zJ6_bitCount_0f7a4 (fun r_8 w_9 => (if r_8 = 0 then post (0 : Int32) w_9 else zX10_marksIn (fun r_11 w_12 => fz (((100 : Int32) * r_11)) (fun x5_13 => zX10_share_64 post 70000 x1 x2 x3 r_8 x5_13 (100 : Int32) (0 : Int32) (0 : Int32) w_12)) x1 x2 x3 w_9)) x1 w_2 else post (-1 : Int32) w_2)))))) x1 w
theorem tX10_share  {post : Int32 → Wd → Prop} {pb : Int32 → Vd → Bool} (hp : ∀ (r : Int32) (w : Wd), pb r (prj w) = true → post r w) {x1 : Int32} {x2 : Int32} {x3 : Int32} {w : Wd} (h : zX10_share  pb  x1 x2 x3 (prj w) = true) : pX10_share  post  x1 x2 x3 w := by
  unfold pX10_share
  unfold zX10_share at h
  refine tX10_isRow (fun r_1 w_2 h => ?_)  h
  refine br_i h (fun c h => ?_) (fun c h => ?_)
  · exact hp _ _ h
  · refine br_i h (fun c h => ?_) (fun c h => ?_)
    · exact hp _ _ h
    · refine br_i h (fun c h => ?_) (fun c h => ?_)
      · exact hp _ _ h
      · refine br_i h (fun c h => ?_) (fun c h => ?_)
        · exact hp _ _ h
        · refine br_i h (fun c h => ?_) (fun c h => ?_)
          · refine tJ6_bitCount_0f7a4 (fun r_8 w_9 h => ?_)  h
            refine br_n h (fun c h => ?_) (fun c h => ?_)
            · refine tX10_marksIn (fun r_11 w_12 h => ?_)  h
              refine fa_i h (fun x5_13 ex5_13 h => ?_)
              refine ⟨70000, ?_⟩
              exact tX10_share_64 hp _ _ _ _ _ _ _ _ _ _ h
            · exact hp _ _ h
          · exact hp _ _ h
def zX10_forge_104 (k43 : Int32 → Int32 → Int32 → Int32 → Int32 → Int32 → Int32 → Int32 → Vd → Bool) (post : Int32 → Vd → Bool) (x1 : Int32) (x2 : Int32) (x3 : Int32) (x4 : Int32) (x5 : Int32) (x6 : Int32) (x7 : Int32) (x8 : Int32) (w : Vd) : Bool := fz (x8 + (1 : Int32)) (fun x8_1 => k43 x1 x2 x3 x4 x5 x6 x7 x8_1 w)
theorem tX10_forge_104 {k43 : Int32 → Int32 → Int32 → Int32 → Int32 → Int32 → Int32 → Int32 → Wd → Prop} {k43b : Int32 → Int32 → Int32 → Int32 → Int32 → Int32 → Int32 → Int32 → Vd → Bool} {post : Int32 → Wd → Prop} {pb : Int32 → Vd → Bool} (hk43 : ∀ (y0 : Int32) (y1 : Int32) (y2 : Int32) (y3 : Int32) (y4 : Int32) (y5 : Int32) (y6 : Int32) (y7 : Int32) (w : Wd), k43b y0 y1 y2 y3 y4 y5 y6 y7 (prj w) = true → k43 y0 y1 y2 y3 y4 y5 y6 y7 w) (hp : ∀ (r : Int32) (w : Wd), pb r (prj w) = true → post r w) {x1 : Int32} {x2 : Int32} {x3 : Int32} {x4 : Int32} {x5 : Int32} {x6 : Int32} {x7 : Int32} {x8 : Int32} {w : Wd} (h : zX10_forge_104 k43b pb  x1 x2 x3 x4 x5 x6 x7 x8 (prj w) = true) : pX10_forge_104 k43 post  x1 x2 x3 x4 x5 x6 x7 x8 w := by
  unfold pX10_forge_104
  unfold zX10_forge_104 at h
  refine fa_i h (fun x8_1 ex8_1 h => ?_)
  exact hk43 _ _ _ _ _ _ _ _ _ h
def zX10_forge_43 (post : Int32 → Vd → Bool) : Nat → Int32 → Int32 → Int32 → Int32 → Int32 → Int32 → Int32 → Int32 → Vd → Bool
  | 0, _, _, _, _, _, _, _, _, _ => false
  | n + 1, x1, x2, x3, x4, x5, x6, x7, x8, w => zX7_rows (fun r_1 w_2 => (if r_1 ≤ x8 then (if x5 = 0 then (if x7 = (-1 : Int32) then post x7 w_2 else post x6 w_2) else post x7 w_2) else (vb x1 24 && zJ6_bitCount_0f7a4 (fun r_6 w_7 => (if x6 ≤ r_6 then zX10_forge_104 (zX10_forge_43 post n) post x1 x2 x3 x4 x5 x6 x7 x8 w_7 else false)) (x8 ^^^ (w_2.2.1 162 x1.toNatClampNeg)) w_2))) (w.2.2 0) w
theorem tX10_forge_43  {post : Int32 → Wd → Prop} {pb : Int32 → Vd → Bool} (hp : ∀ (r : Int32) (w : Wd), pb r (prj w) = true → post r w) : ∀ (n : Nat) (x1 : Int32) (x2 : Int32) (x3 : Int32) (x4 : Int32) (x5 : Int32) (x6 : Int32) (x7 : Int32) (x8 : Int32) (w : Wd), zX10_forge_43  pb  n x1 x2 x3 x4 x5 x6 x7 x8 (prj w) = true → pX10_forge_43  post  n x1 x2 x3 x4 x5 x6 x7 x8 w := by
  intro n
  induction n with
  | zero => intro x1 x2 x3 x4 x5 x6 x7 x8 w h; exact absurd (show false = true from h) (by decide)
  | succ n ih =>
    intro x1 x2 x3 x4 x5 x6 x7 x8 w h
    unfold pX10_forge_43
    unfold zX10_forge_43 at h
    refine tX7_rows (fun r_1 w_2 h => ?_)  h
    refine br_i h (fun c h => ?_) (fun c h => ?_)
    · refine br_n h (fun c h => ?_) (fun c h => ?_)
      · exact hp _ _ h
      · refine br_i h (fun c h => ?_) (fun c h => ?_)
        · exact hp _ _ h
        · exact hp _ _ h
    · refine gd_v h (fun h => ?_)
      refine tJ6_bitCount_0f7a4 (fun r_6 w_7 h => ?_)  h
      refine br_i h (fun c h => ?_) (fun c h => ?_)
      · exact tX10_forge_104 ih hp  h
      · exact absurd (show false = true from h) (by decide)
def zX10_forge (post : Int32 → Vd → Bool) (x1 : Int32) (x2 : Int32) (x3 : Int32) (x4 : Int32) (x5 : Int32) (w : Vd) : Bool := zX10_canCast (fun r_1 w_2 => (if r_1 = 0 then post (-1 : Int32) w_2 else zX10_isRow (fun r_4 w_5 => (if r_4 = 0 then post (-1 : Int32) w_5 else (if x5 < 0 then post (-1 : Int32) w_5 else (if x5 ≤ (1 : Int32) then zX10_forge_43 post 70000 x1 x2 x3 x4 x5 (1000 : Int32) (-1 : Int32) (0 : Int32) w_5 else post (-1 : Int32) w_5)))) x4 w_2)) x1 x2 x3 w
theorem tX10_forge  {post : Int32 → Wd → Prop} {pb : Int32 → Vd → Bool} (hp : ∀ (r : Int32) (w : Wd), pb r (prj w) = true → post r w) {x1 : Int32} {x2 : Int32} {x3 : Int32} {x4 : Int32} {x5 : Int32} {w : Wd} (h : zX10_forge  pb  x1 x2 x3 x4 x5 (prj w) = true) : pX10_forge  post  x1 x2 x3 x4 x5 w := by
  unfold pX10_forge
  unfold zX10_forge at h
  refine tX10_canCast (fun r_1 w_2 h => ?_)  h
  refine br_i h (fun c h => ?_) (fun c h => ?_)
  · exact hp _ _ h
  · refine tX10_isRow (fun r_4 w_5 h => ?_)  h
    refine br_i h (fun c h => ?_) (fun c h => ?_)
    · exact hp _ _ h
    · refine br_i h (fun c h => ?_) (fun c h => ?_)
      · exact hp _ _ h
      · refine br_i h (fun c h => ?_) (fun c h => ?_)
        · refine ⟨70000, ?_⟩
          exact tX10_forge_43 hp _ _ _ _ _ _ _ _ _ _ h
        · exact hp _ _ h
def zX10_nearest_101 (k41 : Int32 → Int32 → Int32 → Int32 → Int32 → Int32 → Int32 → Vd → Bool) (post : Int32 → Vd → Bool) (x1 : Int32) (x2 : Int32) (x3 : Int32) (x4 : Int32) (x5 : Int32) (x6 : Int32) (x7 : Int32) (w : Vd) : Bool := fz (x7 + (1 : Int32)) (fun x7_1 => k41 x1 x2 x3 x4 x5 x6 x7_1 w)
theorem tX10_nearest_101 {k41 : Int32 → Int32 → Int32 → Int32 → Int32 → Int32 → Int32 → Wd → Prop} {k41b : Int32 → Int32 → Int32 → Int32 → Int32 → Int32 → Int32 → Vd → Bool} {post : Int32 → Wd → Prop} {pb : Int32 → Vd → Bool} (hk41 : ∀ (y0 : Int32) (y1 : Int32) (y2 : Int32) (y3 : Int32) (y4 : Int32) (y5 : Int32) (y6 : Int32) (w : Wd), k41b y0 y1 y2 y3 y4 y5 y6 (prj w) = true → k41 y0 y1 y2 y3 y4 y5 y6 w) (hp : ∀ (r : Int32) (w : Wd), pb r (prj w) = true → post r w) {x1 : Int32} {x2 : Int32} {x3 : Int32} {x4 : Int32} {x5 : Int32} {x6 : Int32} {x7 : Int32} {w : Wd} (h : zX10_nearest_101 k41b pb  x1 x2 x3 x4 x5 x6 x7 (prj w) = true) : pX10_nearest_101 k41 post  x1 x2 x3 x4 x5 x6 x7 w := by
  unfold pX10_nearest_101
  unfold zX10_nearest_101 at h
  refine fa_i h (fun x7_1 ex7_1 h => ?_)
  exact hk41 _ _ _ _ _ _ _ _ h
def zX10_nearest_78 (k41 : Int32 → Int32 → Int32 → Int32 → Int32 → Int32 → Int32 → Vd → Bool) (post : Int32 → Vd → Bool) (x1 : Int32) (x2 : Int32) (x3 : Int32) (x4 : Int32) (x5 : Int32) (x6 : Int32) (x7 : Int32) (t0 : Int32) (t1 : Int32) (w : Vd) : Bool := zJ6_bitCount_0f7a4 (fun r_1 w_2 => (if x3 ≤ r_1 then zX10_nearest_101 k41 post x1 x2 x3 x4 x5 x6 x7 w_2 else zX10_nearest_101 k41 post x1 x2 r_1 x7 x6 x6 x7 w_2)) (t0 ^^^ t1) w
theorem tX10_nearest_78 {k41 : Int32 → Int32 → Int32 → Int32 → Int32 → Int32 → Int32 → Wd → Prop} {k41b : Int32 → Int32 → Int32 → Int32 → Int32 → Int32 → Int32 → Vd → Bool} {post : Int32 → Wd → Prop} {pb : Int32 → Vd → Bool} (hk41 : ∀ (y0 : Int32) (y1 : Int32) (y2 : Int32) (y3 : Int32) (y4 : Int32) (y5 : Int32) (y6 : Int32) (w : Wd), k41b y0 y1 y2 y3 y4 y5 y6 (prj w) = true → k41 y0 y1 y2 y3 y4 y5 y6 w) (hp : ∀ (r : Int32) (w : Wd), pb r (prj w) = true → post r w) {x1 : Int32} {x2 : Int32} {x3 : Int32} {x4 : Int32} {x5 : Int32} {x6 : Int32} {x7 : Int32} {t0 : Int32} {t1 : Int32} {w : Wd} (h : zX10_nearest_78 k41b pb  x1 x2 x3 x4 x5 x6 x7 t0 t1 (prj w) = true) : pX10_nearest_78 k41 post  x1 x2 x3 x4 x5 x6 x7 t0 t1 w := by
  unfold pX10_nearest_78
  unfold zX10_nearest_78 at h
  refine tJ6_bitCount_0f7a4 (fun r_1 w_2 h => ?_)  h
  refine br_i h (fun c h => ?_) (fun c h => ?_)
  · exact tX10_nearest_101 hk41 hp  h
  · exact tX10_nearest_101 hk41 hp  h
def zX10_nearest_41 (k32 : Int32 → Int32 → Int32 → Int32 → Int32 → Int32 → Vd → Bool) (post : Int32 → Vd → Bool) : Nat → Int32 → Int32 → Int32 → Int32 → Int32 → Int32 → Int32 → Vd → Bool
  | 0, _, _, _, _, _, _, _, _ => false
  | n + 1, x1, x2, x3, x4, x5, x6, x7, w => (if (w.1 160 0) ≤ x7 then fz (x6 + (1 : Int32)) (fun x6_2 => k32 x1 x2 x3 x4 x5 x6_2 w) else (if x6 = 0 then zX10_printOf (fun r_4 w_5 => zX10_nearest_78 (zX10_nearest_41 k32 post n) post x1 x2 x3 x4 x5 x6 x7 x1 r_4 w_5) x7 w else (vb x7 24 && zX10_nearest_78 (zX10_nearest_41 k32 post n) post x1 x2 x3 x4 x5 x6 x7 x1 (w.2.1 162 x7.toNatClampNeg) w)))
theorem tX10_nearest_41 {k32 : Int32 → Int32 → Int32 → Int32 → Int32 → Int32 → Wd → Prop} {k32b : Int32 → Int32 → Int32 → Int32 → Int32 → Int32 → Vd → Bool} {post : Int32 → Wd → Prop} {pb : Int32 → Vd → Bool} (hk32 : ∀ (y0 : Int32) (y1 : Int32) (y2 : Int32) (y3 : Int32) (y4 : Int32) (y5 : Int32) (w : Wd), k32b y0 y1 y2 y3 y4 y5 (prj w) = true → k32 y0 y1 y2 y3 y4 y5 w) (hp : ∀ (r : Int32) (w : Wd), pb r (prj w) = true → post r w) : ∀ (n : Nat) (x1 : Int32) (x2 : Int32) (x3 : Int32) (x4 : Int32) (x5 : Int32) (x6 : Int32) (x7 : Int32) (w : Wd), zX10_nearest_41 k32b pb  n x1 x2 x3 x4 x5 x6 x7 (prj w) = true → pX10_nearest_41 k32 post  n x1 x2 x3 x4 x5 x6 x7 w := by
  intro n
  induction n with
  | zero => intro x1 x2 x3 x4 x5 x6 x7 w h; exact absurd (show false = true from h) (by decide)
  | succ n ih =>
    intro x1 x2 x3 x4 x5 x6 x7 w h
    unfold pX10_nearest_41
    unfold zX10_nearest_41 at h
    refine br_i h (fun c h => ?_) (fun c h => ?_)
    · refine fa_i h (fun x6_2 ex6_2 h => ?_)
      exact hk32 _ _ _ _ _ _ _ h
    · refine br_n h (fun c h => ?_) (fun c h => ?_)
      · refine gd_v h (fun h => ?_)
        exact tX10_nearest_78 ih hp  h
      · refine tX10_printOf (fun r_4 w_5 h => ?_)  h
        exact tX10_nearest_78 ih hp  h
def zX10_nearest_32 (post : Int32 → Vd → Bool) : Nat → Int32 → Int32 → Int32 → Int32 → Int32 → Int32 → Vd → Bool
  | 0, _, _, _, _, _, _, _ => false
  | n + 1, x1, x2, x3, x4, x5, x6, w => (if (2 : Int32) ≤ x6 then (if x2 = 0 then post x3 w else (if x2 = (1 : Int32) then post x4 w else post x5 w)) else zX10_nearest_41 (zX10_nearest_32 post n) post 70000 x1 x2 x3 x4 x5 x6 (0 : Int32) w)
theorem tX10_nearest_32  {post : Int32 → Wd → Prop} {pb : Int32 → Vd → Bool} (hp : ∀ (r : Int32) (w : Wd), pb r (prj w) = true → post r w) : ∀ (n : Nat) (x1 : Int32) (x2 : Int32) (x3 : Int32) (x4 : Int32) (x5 : Int32) (x6 : Int32) (w : Wd), zX10_nearest_32  pb  n x1 x2 x3 x4 x5 x6 (prj w) = true → pX10_nearest_32  post  n x1 x2 x3 x4 x5 x6 w := by
  intro n
  induction n with
  | zero => intro x1 x2 x3 x4 x5 x6 w h; exact absurd (show false = true from h) (by decide)
  | succ n ih =>
    intro x1 x2 x3 x4 x5 x6 w h
    unfold pX10_nearest_32
    unfold zX10_nearest_32 at h
    refine br_i h (fun c h => ?_) (fun c h => ?_)
    · refine br_n h (fun c h => ?_) (fun c h => ?_)
      · refine br_n h (fun c h => ?_) (fun c h => ?_)
        · exact hp _ _ h
        · exact hp _ _ h
      · exact hp _ _ h
    · refine ⟨70000, ?_⟩
      exact tX10_nearest_41 ih hp _ _ _ _ _ _ _ _ _ h
def zX10_nearest (post : Int32 → Vd → Bool) (x1 : Int32) (x2 : Int32) (w : Vd) : Bool := zX10_isRow (fun r_1 w_2 => (if r_1 = 0 then post (-1 : Int32) w_2 else (if x2 < 0 then post (-1 : Int32) w_2 else (if x2 ≤ (2 : Int32) then zX10_nearest_32 post 70000 x1 x2 (1000 : Int32) (-1 : Int32) (0 : Int32) (0 : Int32) w_2 else post (-1 : Int32) w_2)))) x1 w
theorem tX10_nearest  {post : Int32 → Wd → Prop} {pb : Int32 → Vd → Bool} (hp : ∀ (r : Int32) (w : Wd), pb r (prj w) = true → post r w) {x1 : Int32} {x2 : Int32} {w : Wd} (h : zX10_nearest  pb  x1 x2 (prj w) = true) : pX10_nearest  post  x1 x2 w := by
  unfold pX10_nearest
  unfold zX10_nearest at h
  refine tX10_isRow (fun r_1 w_2 h => ?_)  h
  refine br_i h (fun c h => ?_) (fun c h => ?_)
  · exact hp _ _ h
  · refine br_i h (fun c h => ?_) (fun c h => ?_)
    · exact hp _ _ h
    · refine br_i h (fun c h => ?_) (fun c h => ?_)
      · refine ⟨70000, ?_⟩
        exact tX10_nearest_32 hp _ _ _ _ _ _ _ _ h
      · exact hp _ _ h
def zX10_marksOfAllPrints_12 (post : Int32 → Vd → Bool) : Nat → Int32 → Int32 → Vd → Bool
  | 0, _, _, _ => false
  | n + 1, x1, x2, w => (if (w.1 160 6) ≤ x2 then post x1 w else (vb x2 40 && fz ((x1 &&& (w.2.1 168 x2.toNatClampNeg))) (fun x1_2 => fz (x2 + (1 : Int32)) (fun x2_3 => zX10_marksOfAllPrints_12 post n x1_2 x2_3 w))))
theorem tX10_marksOfAllPrints_12  {post : Int32 → Wd → Prop} {pb : Int32 → Vd → Bool} (hp : ∀ (r : Int32) (w : Wd), pb r (prj w) = true → post r w) : ∀ (n : Nat) (x1 : Int32) (x2 : Int32) (w : Wd), zX10_marksOfAllPrints_12  pb  n x1 x2 (prj w) = true → pX10_marksOfAllPrints_12  post  n x1 x2 w := by
  intro n
  induction n with
  | zero => intro x1 x2 w h; exact absurd (show false = true from h) (by decide)
  | succ n ih =>
    intro x1 x2 w h
    unfold pX10_marksOfAllPrints_12
    unfold zX10_marksOfAllPrints_12 at h
    refine br_i h (fun c h => ?_) (fun c h => ?_)
    · exact hp _ _ h
    · refine gd_v h (fun h => ?_)
      refine fa_i h (fun x1_2 ex1_2 h => ?_)
      refine fa_i h (fun x2_3 ex2_3 h => ?_)
      exact ih _ _ _ h
def zX10_marksOfAllPrints (post : Int32 → Vd → Bool)  (w : Vd) : Bool := zX7_rows (fun r_1 w_2 => fz ((r_1 - (1 : Int32))) (fun x1_3 => zX10_marksOfAllPrints_12 post 70000 x1_3 (0 : Int32) w_2)) (w.2.2 0) w
theorem tX10_marksOfAllPrints  {post : Int32 → Wd → Prop} {pb : Int32 → Vd → Bool} (hp : ∀ (r : Int32) (w : Wd), pb r (prj w) = true → post r w) {w : Wd} (h : zX10_marksOfAllPrints  pb   (prj w) = true) : pX10_marksOfAllPrints  post   w := by
  unfold pX10_marksOfAllPrints
  unfold zX10_marksOfAllPrints at h
  refine tX7_rows (fun r_1 w_2 h => ?_)  h
  refine fa_i h (fun x1_3 ex1_3 h => ?_)
  refine ⟨70000, ?_⟩
  exact tX10_marksOfAllPrints_12 hp _ _ _ _ h
def zX10_marksOfAllSeals_12 (post : Int32 → Vd → Bool) : Nat → Int32 → Int32 → Vd → Bool
  | 0, _, _, _ => false
  | n + 1, x1, x2, w => (if (w.1 160 0) ≤ x2 then post x1 w else (vb x2 24 && fz ((x1 &&& (w.2.1 162 x2.toNatClampNeg))) (fun x1_2 => fz (x2 + (1 : Int32)) (fun x2_3 => zX10_marksOfAllSeals_12 post n x1_2 x2_3 w))))
theorem tX10_marksOfAllSeals_12  {post : Int32 → Wd → Prop} {pb : Int32 → Vd → Bool} (hp : ∀ (r : Int32) (w : Wd), pb r (prj w) = true → post r w) : ∀ (n : Nat) (x1 : Int32) (x2 : Int32) (w : Wd), zX10_marksOfAllSeals_12  pb  n x1 x2 (prj w) = true → pX10_marksOfAllSeals_12  post  n x1 x2 w := by
  intro n
  induction n with
  | zero => intro x1 x2 w h; exact absurd (show false = true from h) (by decide)
  | succ n ih =>
    intro x1 x2 w h
    unfold pX10_marksOfAllSeals_12
    unfold zX10_marksOfAllSeals_12 at h
    refine br_i h (fun c h => ?_) (fun c h => ?_)
    · exact hp _ _ h
    · refine gd_v h (fun h => ?_)
      refine fa_i h (fun x1_2 ex1_2 h => ?_)
      refine fa_i h (fun x2_3 ex2_3 h => ?_)
      exact ih _ _ _ h
def zX10_marksOfAllSeals (post : Int32 → Vd → Bool)  (w : Vd) : Bool := zX7_rows (fun r_1 w_2 => fz ((r_1 - (1 : Int32))) (fun x1_3 => zX10_marksOfAllSeals_12 post 70000 x1_3 (0 : Int32) w_2)) (w.2.2 0) w
theorem tX10_marksOfAllSeals  {post : Int32 → Wd → Prop} {pb : Int32 → Vd → Bool} (hp : ∀ (r : Int32) (w : Wd), pb r (prj w) = true → post r w) {w : Wd} (h : zX10_marksOfAllSeals  pb   (prj w) = true) : pX10_marksOfAllSeals  post   w := by
  unfold pX10_marksOfAllSeals
  unfold zX10_marksOfAllSeals at h
  refine tX7_rows (fun r_1 w_2 h => ?_)  h
  refine fa_i h (fun x1_3 ex1_3 h => ?_)
  refine ⟨70000, ?_⟩
  exact tX10_marksOfAllSeals_12 hp _ _ _ _ h
def zX10_marksOfSomeSeals_4 (post : Int32 → Vd → Bool) : Nat → Int32 → Int32 → Vd → Bool
  | 0, _, _, _ => false
  | n + 1, x1, x2, w => (if (w.1 160 0) ≤ x2 then post x1 w else (vb x2 24 && fz ((x1 ||| (w.2.1 162 x2.toNatClampNeg))) (fun x1_2 => fz (x2 + (1 : Int32)) (fun x2_3 => zX10_marksOfSomeSeals_4 post n x1_2 x2_3 w))))
theorem tX10_marksOfSomeSeals_4  {post : Int32 → Wd → Prop} {pb : Int32 → Vd → Bool} (hp : ∀ (r : Int32) (w : Wd), pb r (prj w) = true → post r w) : ∀ (n : Nat) (x1 : Int32) (x2 : Int32) (w : Wd), zX10_marksOfSomeSeals_4  pb  n x1 x2 (prj w) = true → pX10_marksOfSomeSeals_4  post  n x1 x2 w := by
  intro n
  induction n with
  | zero => intro x1 x2 w h; exact absurd (show false = true from h) (by decide)
  | succ n ih =>
    intro x1 x2 w h
    unfold pX10_marksOfSomeSeals_4
    unfold zX10_marksOfSomeSeals_4 at h
    refine br_i h (fun c h => ?_) (fun c h => ?_)
    · exact hp _ _ h
    · refine gd_v h (fun h => ?_)
      refine fa_i h (fun x1_2 ex1_2 h => ?_)
      refine fa_i h (fun x2_3 ex2_3 h => ?_)
      exact ih _ _ _ h
def zX10_marksOfSomeSeals (post : Int32 → Vd → Bool)  (w : Vd) : Bool := zX10_marksOfSomeSeals_4 post 70000 (0 : Int32) (0 : Int32) w
theorem tX10_marksOfSomeSeals  {post : Int32 → Wd → Prop} {pb : Int32 → Vd → Bool} (hp : ∀ (r : Int32) (w : Wd), pb r (prj w) = true → post r w) {w : Wd} (h : zX10_marksOfSomeSeals  pb   (prj w) = true) : pX10_marksOfSomeSeals  post   w := by
  unfold pX10_marksOfSomeSeals
  unfold zX10_marksOfSomeSeals at h
  refine ⟨70000, ?_⟩
  exact tX10_marksOfSomeSeals_4 hp _ _ _ _ h
def zX10_common (post : Int32 → Vd → Bool) (x1 : Int32) (w : Vd) : Bool := (if x1.toInt < 0 ∨ 2 < x1.toInt then post (-1 : Int32) w else (if x1.toInt = 0 then zX10_marksOfAllSeals (fun r_2 w_3 => post r_2 w_3) w else (if x1.toInt = 1 then zX10_marksOfSomeSeals (fun r_4 w_5 => post r_4 w_5) w else (if x1.toInt = 2 then zX10_marksOfAllPrints (fun r_6 w_7 => post r_6 w_7) w else false))))
theorem tX10_common  {post : Int32 → Wd → Prop} {pb : Int32 → Vd → Bool} (hp : ∀ (r : Int32) (w : Wd), pb r (prj w) = true → post r w) {x1 : Int32} {w : Wd} (h : zX10_common  pb  x1 (prj w) = true) : pX10_common  post  x1 w := by
  unfold pX10_common
  unfold zX10_common at h
  refine sw_o h (fun c h => ?_) ?_
  · exact hp _ _ h
  · intro hn
    refine ⟨fun c => ?_, ?_⟩
    · have h := hn (by omega)
      rw [if_pos c] at h
      refine tX10_marksOfAllSeals (fun r_2 w_3 h => ?_)  h
      exact hp _ _ h
    refine ⟨fun c => ?_, ?_⟩
    · have h := hn (by omega)
      rw [if_neg (show ¬ (x1.toInt = 0) by omega)] at h
      rw [if_pos c] at h
      refine tX10_marksOfSomeSeals (fun r_4 w_5 h => ?_)  h
      exact hp _ _ h
    intro c
    have h := hn (by omega)
    rw [if_neg (show ¬ (x1.toInt = 0) by omega)] at h
    rw [if_neg (show ¬ (x1.toInt = 1) by omega)] at h
    rw [if_pos c] at h
    refine tX10_marksOfAllPrints (fun r_6 w_7 h => ?_)  h
    exact hp _ _ h
def zX10_alike_71 (k36 : Int32 → Int32 → Int32 → Vd → Bool) (post : Int32 → Vd → Bool) (x3 : Int32) (x4 : Int32) (x5 : Int32) (w : Vd) : Bool := fz (x5 + (1 : Int32)) (fun x5_1 => k36 x3 x4 x5_1 w)
theorem tX10_alike_71 {k36 : Int32 → Int32 → Int32 → Wd → Prop} {k36b : Int32 → Int32 → Int32 → Vd → Bool} {post : Int32 → Wd → Prop} {pb : Int32 → Vd → Bool} (hk36 : ∀ (y0 : Int32) (y1 : Int32) (y2 : Int32) (w : Wd), k36b y0 y1 y2 (prj w) = true → k36 y0 y1 y2 w) (hp : ∀ (r : Int32) (w : Wd), pb r (prj w) = true → post r w) {x3 : Int32} {x4 : Int32} {x5 : Int32} {w : Wd} (h : zX10_alike_71 k36b pb  x3 x4 x5 (prj w) = true) : pX10_alike_71 k36 post  x3 x4 x5 w := by
  unfold pX10_alike_71
  unfold zX10_alike_71 at h
  refine fa_i h (fun x5_1 ex5_1 h => ?_)
  exact hk36 _ _ _ _ h
def zX10_alike_36 (post : Int32 → Vd → Bool) : Nat → Int32 → Int32 → Int32 → Vd → Bool
  | 0, _, _, _, _ => false
  | n + 1, x3, x4, x5, w => (if (w.1 160 0) ≤ x5 then post x4 w else (vb x5 24 && (if (w.2.1 162 x5.toNatClampNeg) = x3 then fz ((x4 ||| ((1 : Int32) <<< (x5 &&& 31)))) (fun x4_3 => zX10_alike_71 (zX10_alike_36 post n) post x3 x4_3 x5 w) else zX10_alike_71 (zX10_alike_36 post n) post x3 x4 x5 w)))
theorem tX10_alike_36  {post : Int32 → Wd → Prop} {pb : Int32 → Vd → Bool} (hp : ∀ (r : Int32) (w : Wd), pb r (prj w) = true → post r w) : ∀ (n : Nat) (x3 : Int32) (x4 : Int32) (x5 : Int32) (w : Wd), zX10_alike_36  pb  n x3 x4 x5 (prj w) = true → pX10_alike_36  post  n x3 x4 x5 w := by
  intro n
  induction n with
  | zero => intro x3 x4 x5 w h; exact absurd (show false = true from h) (by decide)
  | succ n ih =>
    intro x3 x4 x5 w h
    unfold pX10_alike_36
    unfold zX10_alike_36 at h
    refine br_i h (fun c h => ?_) (fun c h => ?_)
    · exact hp _ _ h
    · refine gd_v h (fun h => ?_)
      refine br_n h (fun c h => ?_) (fun c h => ?_)
      · exact tX10_alike_71 ih hp  h
      · refine fa_i h (fun x4_3 ex4_3 h => ?_)
        exact tX10_alike_71 ih hp  h
def zX10_alike_29 (post : Int32 → Vd → Bool) (t0 : Int32) (w : Vd) : Bool := zX10_alike_36 post 70000 t0 (0 : Int32) (0 : Int32) w
theorem tX10_alike_29  {post : Int32 → Wd → Prop} {pb : Int32 → Vd → Bool} (hp : ∀ (r : Int32) (w : Wd), pb r (prj w) = true → post r w) {t0 : Int32} {w : Wd} (h : zX10_alike_29  pb  t0 (prj w) = true) : pX10_alike_29  post  t0 w := by
  unfold pX10_alike_29
  unfold zX10_alike_29 at h
  refine ⟨70000, ?_⟩
  exact tX10_alike_36 hp _ _ _ _ _ h
def zX10_alike (post : Int32 → Vd → Bool) (x1 : Int32) (x2 : Int32) (w : Vd) : Bool := zX10_isRow (fun r_1 w_2 => (if r_1 = 0 then post (-1 : Int32) w_2 else (if x2 = 0 then zX10_alike_29 post x1 w_2 else zX10_turn (fun r_5 w_6 => zX10_alike_29 post r_5 w_6) x1 (w_2.1 (rl (w_2.2.2 0)) 0) w_2))) x1 w
theorem tX10_alike  {post : Int32 → Wd → Prop} {pb : Int32 → Vd → Bool} (hp : ∀ (r : Int32) (w : Wd), pb r (prj w) = true → post r w) {x1 : Int32} {x2 : Int32} {w : Wd} (h : zX10_alike  pb  x1 x2 (prj w) = true) : pX10_alike  post  x1 x2 w := by
  unfold pX10_alike
  unfold zX10_alike at h
  refine tX10_isRow (fun r_1 w_2 h => ?_)  h
  refine br_n h (fun c h => ?_) (fun c h => ?_)
  · refine br_i h (fun c h => ?_) (fun c h => ?_)
    · exact tX10_alike_29 hp  h
    · refine tX10_turn (fun r_5 w_6 h => ?_)  h
      exact tX10_alike_29 hp  h
  · exact hp _ _ h
def zX10_tellsApart_55 (k15 : Int32 → Int32 → Int32 → Vd → Bool) (post : Int32 → Vd → Bool) (x1 : Int32) (x2 : Int32) (x3 : Int32) (w : Vd) : Bool := fz (x3 + (1 : Int32)) (fun x3_1 => k15 x1 x2 x3_1 w)
theorem tX10_tellsApart_55 {k15 : Int32 → Int32 → Int32 → Wd → Prop} {k15b : Int32 → Int32 → Int32 → Vd → Bool} {post : Int32 → Wd → Prop} {pb : Int32 → Vd → Bool} (hk15 : ∀ (y0 : Int32) (y1 : Int32) (y2 : Int32) (w : Wd), k15b y0 y1 y2 (prj w) = true → k15 y0 y1 y2 w) (hp : ∀ (r : Int32) (w : Wd), pb r (prj w) = true → post r w) {x1 : Int32} {x2 : Int32} {x3 : Int32} {w : Wd} (h : zX10_tellsApart_55 k15b pb  x1 x2 x3 (prj w) = true) : pX10_tellsApart_55 k15 post  x1 x2 x3 w := by
  unfold pX10_tellsApart_55
  unfold zX10_tellsApart_55 at h
  refine fa_i h (fun x3_1 ex3_1 h => ?_)
  exact hk15 _ _ _ _ h
def zX10_tellsApart_15 (k2 : Int32 → Int32 → Vd → Bool) (post : Int32 → Vd → Bool) : Nat → Int32 → Int32 → Int32 → Vd → Bool
  | 0, _, _, _, _ => false
  | n + 1, x1, x2, x3, w => (if x2 ≤ x3 then fz (x2 + (1 : Int32)) (fun x2_2 => k2 x1 x2_2 w) else (vb x2 24 && (vb x3 24 && fz (((w.2.1 162 x2.toNatClampNeg) ^^^ (w.2.1 162 x3.toNatClampNeg))) (fun x4_3 => (if x4_3 = 0 then zX10_tellsApart_55 (zX10_tellsApart_15 k2 post n) post x1 x2 x3 w else (if (x4_3 &&& x1) = 0 then post (0 : Int32) w else zX10_tellsApart_55 (zX10_tellsApart_15 k2 post n) post x1 x2 x3 w))))))
theorem tX10_tellsApart_15 {k2 : Int32 → Int32 → Wd → Prop} {k2b : Int32 → Int32 → Vd → Bool} {post : Int32 → Wd → Prop} {pb : Int32 → Vd → Bool} (hk2 : ∀ (y0 : Int32) (y1 : Int32) (w : Wd), k2b y0 y1 (prj w) = true → k2 y0 y1 w) (hp : ∀ (r : Int32) (w : Wd), pb r (prj w) = true → post r w) : ∀ (n : Nat) (x1 : Int32) (x2 : Int32) (x3 : Int32) (w : Wd), zX10_tellsApart_15 k2b pb  n x1 x2 x3 (prj w) = true → pX10_tellsApart_15 k2 post  n x1 x2 x3 w := by
  intro n
  induction n with
  | zero => intro x1 x2 x3 w h; exact absurd (show false = true from h) (by decide)
  | succ n ih =>
    intro x1 x2 x3 w h
    unfold pX10_tellsApart_15
    unfold zX10_tellsApart_15 at h
    refine br_i h (fun c h => ?_) (fun c h => ?_)
    · refine fa_i h (fun x2_2 ex2_2 h => ?_)
      exact hk2 _ _ _ h
    · refine gd_v h (fun h => ?_)
      refine gd_v h (fun h => ?_)
      refine fa_i h (fun x4_3 ex4_3 h => ?_)
      refine br_i h (fun c h => ?_) (fun c h => ?_)
      · exact tX10_tellsApart_55 ih hp  h
      · refine br_n h (fun c h => ?_) (fun c h => ?_)
        · exact tX10_tellsApart_55 ih hp  h
        · exact hp _ _ h
def zX10_tellsApart_2 (post : Int32 → Vd → Bool) : Nat → Int32 → Int32 → Vd → Bool
  | 0, _, _, _ => false
  | n + 1, x1, x2, w => (if (w.1 160 0) ≤ x2 then post (1 : Int32) w else zX10_tellsApart_15 (zX10_tellsApart_2 post n) post 70000 x1 x2 (0 : Int32) w)
theorem tX10_tellsApart_2  {post : Int32 → Wd → Prop} {pb : Int32 → Vd → Bool} (hp : ∀ (r : Int32) (w : Wd), pb r (prj w) = true → post r w) : ∀ (n : Nat) (x1 : Int32) (x2 : Int32) (w : Wd), zX10_tellsApart_2  pb  n x1 x2 (prj w) = true → pX10_tellsApart_2  post  n x1 x2 w := by
  intro n
  induction n with
  | zero => intro x1 x2 w h; exact absurd (show false = true from h) (by decide)
  | succ n ih =>
    intro x1 x2 w h
    unfold pX10_tellsApart_2
    unfold zX10_tellsApart_2 at h
    refine br_i h (fun c h => ?_) (fun c h => ?_)
    · exact hp _ _ h
    · refine ⟨70000, ?_⟩
      exact tX10_tellsApart_15 ih hp _ _ _ _ _ h
def zX10_tellsApart (post : Int32 → Vd → Bool) (x1 : Int32) (w : Vd) : Bool := zX10_tellsApart_2 post 70000 x1 (1 : Int32) w
theorem tX10_tellsApart  {post : Int32 → Wd → Prop} {pb : Int32 → Vd → Bool} (hp : ∀ (r : Int32) (w : Wd), pb r (prj w) = true → post r w) {x1 : Int32} {w : Wd} (h : zX10_tellsApart  pb  x1 (prj w) = true) : pX10_tellsApart  post  x1 w := by
  unfold pX10_tellsApart
  unfold zX10_tellsApart at h
  refine ⟨70000, ?_⟩
  exact tX10_tellsApart_2 hp _ _ _ _ h
def zX4_lay (post : Vd → Bool) (x1 : Int32) (w : Vd) : Bool := (if (w.1 110 1) < 0 then post w else (if (16 : Int32) ≤ (w.1 110 1) then post w else (vb (w.1 110 1) 16 && fw (vA w 111 (w.1 110 1).toNatClampNeg x1) (fun w_3 => fw (vI w_3 110 1 ((w_3.1 110 1) + (1 : Int32))) (fun w_4 => post w_4)))))
theorem tX4_lay  {post : Wd → Prop} {pb : Vd → Bool} (hp : ∀ (w : Wd), pb (prj w) = true → post w) {x1 : Int32} {w : Wd} (h : zX4_lay  pb  x1 (prj w) = true) : pX4_lay  post  x1 w := by
  unfold pX4_lay
  unfold zX4_lay at h
  refine br_i h (fun c h => ?_) (fun c h => ?_)
  · exact hp _ h
  · refine br_i h (fun c h => ?_) (fun c h => ?_)
    · exact hp _ h
    · refine gd_v h (fun h => ?_)
      refine fa_w rfl h (fun w_3 ew_3 h => ?_)
      refine fa_w rfl h (fun w_4 ew_4 h => ?_)
      exact hp _ h
def zX10_tell_91 (k64 : Int32 → Int32 → Int32 → Vd → Bool) (post : Int32 → Vd → Bool) (x1 : Int32) (x2 : Int32) (x3 : Int32) (w : Vd) : Bool := fz (x3 + (1 : Int32)) (fun x3_1 => k64 x1 x2 x3_1 w)
theorem tX10_tell_91 {k64 : Int32 → Int32 → Int32 → Wd → Prop} {k64b : Int32 → Int32 → Int32 → Vd → Bool} {post : Int32 → Wd → Prop} {pb : Int32 → Vd → Bool} (hk64 : ∀ (y0 : Int32) (y1 : Int32) (y2 : Int32) (w : Wd), k64b y0 y1 y2 (prj w) = true → k64 y0 y1 y2 w) (hp : ∀ (r : Int32) (w : Wd), pb r (prj w) = true → post r w) {x1 : Int32} {x2 : Int32} {x3 : Int32} {w : Wd} (h : zX10_tell_91 k64b pb  x1 x2 x3 (prj w) = true) : pX10_tell_91 k64 post  x1 x2 x3 w := by
  unfold pX10_tell_91
  unfold zX10_tell_91 at h
  refine fa_i h (fun x3_1 ex3_1 h => ?_)
  exact hk64 _ _ _ _ h
def zX10_tell_64 (post : Int32 → Vd → Bool) : Nat → Int32 → Int32 → Int32 → Vd → Bool
  | 0, _, _, _, _ => false
  | n + 1, x1, x2, x3, w => (if (w.1 (rl (w.2.2 0)) 0) ≤ x3 then post x1 w else (if ((x2 >>> (x3 &&& 31)) &&& (1 : Int32)) = 0 then zX10_tell_91 (zX10_tell_64 post n) post x1 x2 x3 w else zX4_lay (fun w_3 => zX10_tell_91 (zX10_tell_64 post n) post x1 x2 x3 w_3) x3 w))
theorem tX10_tell_64  {post : Int32 → Wd → Prop} {pb : Int32 → Vd → Bool} (hp : ∀ (r : Int32) (w : Wd), pb r (prj w) = true → post r w) : ∀ (n : Nat) (x1 : Int32) (x2 : Int32) (x3 : Int32) (w : Wd), zX10_tell_64  pb  n x1 x2 x3 (prj w) = true → pX10_tell_64  post  n x1 x2 x3 w := by
  intro n
  induction n with
  | zero => intro x1 x2 x3 w h; exact absurd (show false = true from h) (by decide)
  | succ n ih =>
    intro x1 x2 x3 w h
    unfold pX10_tell_64
    unfold zX10_tell_64 at h
    refine br_i h (fun c h => ?_) (fun c h => ?_)
    · exact hp _ _ h
    · refine br_i h (fun c h => ?_) (fun c h => ?_)
      · exact tX10_tell_91 ih hp  h
      · refine tX4_lay (fun w_3 h => ?_)  h
        exact tX10_tell_91 ih hp  h
def zX10_tell_48 (k14 : Int32 → Int32 → Int32 → Vd → Bool) (post : Int32 → Vd → Bool) (x1 : Int32) (x2 : Int32) (x3 : Int32) (w : Vd) : Bool := fz (x3 + (1 : Int32)) (fun x3_1 => k14 x1 x2 x3_1 w)
theorem tX10_tell_48 {k14 : Int32 → Int32 → Int32 → Wd → Prop} {k14b : Int32 → Int32 → Int32 → Vd → Bool} {post : Int32 → Wd → Prop} {pb : Int32 → Vd → Bool} (hk14 : ∀ (y0 : Int32) (y1 : Int32) (y2 : Int32) (w : Wd), k14b y0 y1 y2 (prj w) = true → k14 y0 y1 y2 w) (hp : ∀ (r : Int32) (w : Wd), pb r (prj w) = true → post r w) {x1 : Int32} {x2 : Int32} {x3 : Int32} {w : Wd} (h : zX10_tell_48 k14b pb  x1 x2 x3 (prj w) = true) : pX10_tell_48 k14 post  x1 x2 x3 w := by
  unfold pX10_tell_48
  unfold zX10_tell_48 at h
  refine fa_i h (fun x3_1 ex3_1 h => ?_)
  exact hk14 _ _ _ _ h
def zX10_tell_14 (post : Int32 → Vd → Bool) : Nat → Int32 → Int32 → Int32 → Vd → Bool
  | 0, _, _, _, _ => false
  | n + 1, x1, x2, x3, w => zX7_rows (fun r_1 w_2 => (if r_1 ≤ x3 then fw (vI w_2 110 1 (0 : Int32)) (fun w_4 => zX10_tell_64 post 70000 x1 x2 (0 : Int32) w_4) else zJ6_bitCount_0f7a4 (fun r_5 w_6 => (if x1 ≤ r_5 then zX10_tell_48 (zX10_tell_14 post n) post x1 x2 x3 w_6 else zX10_tellsApart (fun r_8 w_9 => (if r_8 = 0 then zX10_tell_48 (zX10_tell_14 post n) post x1 x2 x3 w_9 else zJ6_bitCount_0f7a4 (fun r_11 w_12 => zX10_tell_48 (zX10_tell_14 post n) post r_11 x3 x3 w_12) x3 w_9)) x3 w_6)) x3 w_2)) (w.2.2 0) w
theorem tX10_tell_14  {post : Int32 → Wd → Prop} {pb : Int32 → Vd → Bool} (hp : ∀ (r : Int32) (w : Wd), pb r (prj w) = true → post r w) : ∀ (n : Nat) (x1 : Int32) (x2 : Int32) (x3 : Int32) (w : Wd), zX10_tell_14  pb  n x1 x2 x3 (prj w) = true → pX10_tell_14  post  n x1 x2 x3 w := by
  intro n
  induction n with
  | zero => intro x1 x2 x3 w h; exact absurd (show false = true from h) (by decide)
  | succ n ih =>
    intro x1 x2 x3 w h
    unfold pX10_tell_14
    unfold zX10_tell_14 at h
    refine tX7_rows (fun r_1 w_2 h => ?_)  h
    refine br_i h (fun c h => ?_) (fun c h => ?_)
    · refine fa_w rfl h (fun w_4 ew_4 h => ?_)
      refine ⟨70000, ?_⟩
      exact tX10_tell_64 hp _ _ _ _ _ h
    · refine tJ6_bitCount_0f7a4 (fun r_5 w_6 h => ?_)  h
      refine br_i h (fun c h => ?_) (fun c h => ?_)
      · exact tX10_tell_48 ih hp  h
      · refine tX10_tellsApart (fun r_8 w_9 h => ?_)  h
        refine br_i h (fun c h => ?_) (fun c h => ?_)
        · exact tX10_tell_48 ih hp  h
        · refine tJ6_bitCount_0f7a4 (fun r_11 w_12 h => ?_)  h
          exact tX10_tell_48 ih hp  h
def zX10_tell (post : Int32 → Vd → Bool)  (w : Vd) : Bool := fz (((w.1 (rl (w.2.2 0)) 0) + (1 : Int32))) (fun x1_1 => zX10_tell_14 post 70000 x1_1 (0 : Int32) (0 : Int32) w)
theorem tX10_tell  {post : Int32 → Wd → Prop} {pb : Int32 → Vd → Bool} (hp : ∀ (r : Int32) (w : Wd), pb r (prj w) = true → post r w) {w : Wd} (h : zX10_tell  pb   (prj w) = true) : pX10_tell  post   w := by
  unfold pX10_tell
  unfold zX10_tell at h
  refine fa_i h (fun x1_1 ex1_1 h => ?_)
  refine ⟨70000, ?_⟩
  exact tX10_tell_14 hp _ _ _ _ _ h
def zX10_round (post : Int32 → Vd → Bool) (x1 : Int32) (x2 : Int32) (x3 : Int32) (x4 : Int32) (w : Vd) : Bool := zX10_canCast (fun r_1 w_2 => (if r_1 = 0 then post (-1 : Int32) w_2 else (if x4 < 0 then post (-1 : Int32) w_2 else (if x4 ≤ (1 : Int32) then (vb x1 24 && false) else post (-1 : Int32) w_2)))) x1 x2 x3 w
theorem tX10_round  {post : Int32 → Wd → Prop} {pb : Int32 → Vd → Bool} (hp : ∀ (r : Int32) (w : Wd), pb r (prj w) = true → post r w) {x1 : Int32} {x2 : Int32} {x3 : Int32} {x4 : Int32} {w : Wd} (h : zX10_round  pb  x1 x2 x3 x4 (prj w) = true) : pX10_round  post  x1 x2 x3 x4 w := by
  unfold pX10_round
  unfold zX10_round at h
  refine tX10_canCast (fun r_1 w_2 h => ?_)  h
  refine br_i h (fun c h => ?_) (fun c h => ?_)
  · exact hp _ _ h
  · refine br_i h (fun c h => ?_) (fun c h => ?_)
    · exact hp _ _ h
    · refine br_i h (fun c h => ?_) (fun c h => ?_)
      · refine gd_v h (fun h => ?_)
        exact absurd (show false = true from h) (by decide)
      · exact hp _ _ h
def zX10_steady_145 (k78 : Int32 → Int32 → Int32 → Int32 → Int32 → Vd → Bool) (post : Int32 → Vd → Bool) (x3 : Int32) (x4 : Int32) (x5 : Int32) (x6 : Int32) (x7 : Int32) (w : Vd) : Bool := fz (x7 + (1 : Int32)) (fun x7_1 => k78 x3 x4 x5 x6 x7_1 w)
theorem tX10_steady_145 {k78 : Int32 → Int32 → Int32 → Int32 → Int32 → Wd → Prop} {k78b : Int32 → Int32 → Int32 → Int32 → Int32 → Vd → Bool} {post : Int32 → Wd → Prop} {pb : Int32 → Vd → Bool} (hk78 : ∀ (y0 : Int32) (y1 : Int32) (y2 : Int32) (y3 : Int32) (y4 : Int32) (w : Wd), k78b y0 y1 y2 y3 y4 (prj w) = true → k78 y0 y1 y2 y3 y4 w) (hp : ∀ (r : Int32) (w : Wd), pb r (prj w) = true → post r w) {x3 : Int32} {x4 : Int32} {x5 : Int32} {x6 : Int32} {x7 : Int32} {w : Wd} (h : zX10_steady_145 k78b pb  x3 x4 x5 x6 x7 (prj w) = true) : pX10_steady_145 k78 post  x3 x4 x5 x6 x7 w := by
  unfold pX10_steady_145
  unfold zX10_steady_145 at h
  refine fa_i h (fun x7_1 ex7_1 h => ?_)
  exact hk78 _ _ _ _ _ _ h
def zX10_steady_78 (post : Int32 → Vd → Bool) : Nat → Int32 → Int32 → Int32 → Int32 → Int32 → Vd → Bool
  | 0, _, _, _, _, _, _ => false
  | n + 1, x3, x4, x5, x6, x7, w => zX7_rows (fun r_1 w_2 => (if r_1 ≤ x7 then (if x3 = 0 then post x4 w_2 else post x6 w_2) else (vb x7 4096 && zX10_isRow (fun r_5 w_6 => (if r_5 = 0 then zX10_steady_145 (zX10_steady_78 post n) post x3 x4 x5 x6 x7 w_6 else (vb x7 4096 && (vb (w_6.2.1 13 x7.toNatClampNeg) 4096 && (if (w_6.2.1 13 (w_6.2.1 13 x7.toNatClampNeg).toNatClampNeg) = x7 then fz (x4 + (1 : Int32)) (fun x4_9 => zJ6_bitCount_0f7a4 (fun r_10 w_11 => (if r_10 ≤ x5 then zX10_steady_145 (zX10_steady_78 post n) post x3 x4_9 x5 x6 x7 w_11 else zJ6_bitCount_0f7a4 (fun r_13 w_14 => zX10_steady_145 (zX10_steady_78 post n) post x3 x4_9 r_13 x7 x7 w_14) x7 w_11)) x7 w_6) else zX10_steady_145 (zX10_steady_78 post n) post x3 x4 x5 x6 x7 w_6))))) (w_2.2.1 13 x7.toNatClampNeg) w_2))) (w.2.2 0) w
theorem tX10_steady_78  {post : Int32 → Wd → Prop} {pb : Int32 → Vd → Bool} (hp : ∀ (r : Int32) (w : Wd), pb r (prj w) = true → post r w) : ∀ (n : Nat) (x3 : Int32) (x4 : Int32) (x5 : Int32) (x6 : Int32) (x7 : Int32) (w : Wd), zX10_steady_78  pb  n x3 x4 x5 x6 x7 (prj w) = true → pX10_steady_78  post  n x3 x4 x5 x6 x7 w := by
  intro n
  induction n with
  | zero => intro x3 x4 x5 x6 x7 w h; exact absurd (show false = true from h) (by decide)
  | succ n ih =>
    intro x3 x4 x5 x6 x7 w h
    unfold pX10_steady_78
    unfold zX10_steady_78 at h
    refine tX7_rows (fun r_1 w_2 h => ?_)  h
    refine br_i h (fun c h => ?_) (fun c h => ?_)
    · refine br_n h (fun c h => ?_) (fun c h => ?_)
      · exact hp _ _ h
      · exact hp _ _ h
    · refine gd_v h (fun h => ?_)
      refine tX10_isRow (fun r_5 w_6 h => ?_)  h
      refine br_i h (fun c h => ?_) (fun c h => ?_)
      · exact tX10_steady_145 ih hp  h
      · refine gd_v h (fun h => ?_)
        refine gd_v h (fun h => ?_)
        refine br_n h (fun c h => ?_) (fun c h => ?_)
        · exact tX10_steady_145 ih hp  h
        · refine fa_i h (fun x4_9 ex4_9 h => ?_)
          refine tJ6_bitCount_0f7a4 (fun r_10 w_11 h => ?_)  h
          refine br_i h (fun c h => ?_) (fun c h => ?_)
          · exact tX10_steady_145 ih hp  h
          · refine tJ6_bitCount_0f7a4 (fun r_13 w_14 h => ?_)  h
            exact tX10_steady_145 ih hp  h
def zX10_steady_29 (post : Int32 → Vd → Bool) : Nat → Int32 → Int32 → Int32 → Int32 → Vd → Bool
  | 0, _, _, _, _, _ => false
  | n + 1, x1, x2, x3, x4, w => zX7_rows (fun r_1 w_2 => (if r_1 ≤ x4 then zX10_steady_78 post 70000 x3 (0 : Int32) (-1 : Int32) (-1 : Int32) (0 : Int32) w_2 else false)) (w.2.2 0) w
theorem tX10_steady_29  {post : Int32 → Wd → Prop} {pb : Int32 → Vd → Bool} (hp : ∀ (r : Int32) (w : Wd), pb r (prj w) = true → post r w) : ∀ (n : Nat) (x1 : Int32) (x2 : Int32) (x3 : Int32) (x4 : Int32) (w : Wd), zX10_steady_29  pb  n x1 x2 x3 x4 (prj w) = true → pX10_steady_29  post  n x1 x2 x3 x4 w := by
  intro n
  induction n with
  | zero => intro x1 x2 x3 x4 w h; exact absurd (show false = true from h) (by decide)
  | succ n ih =>
    intro x1 x2 x3 x4 w h
    unfold pX10_steady_29
    unfold zX10_steady_29 at h
    refine tX7_rows (fun r_1 w_2 h => ?_)  h
    refine br_i h (fun c h => ?_) (fun c h => ?_)
    · refine ⟨70000, ?_⟩
      exact tX10_steady_78 hp _ _ _ _ _ _ _ h
    · exact absurd (show false = true from h) (by decide)
def zX10_steady (post : Int32 → Vd → Bool) (x1 : Int32) (x2 : Int32) (x3 : Int32) (w : Vd) : Bool := zX10_isHand (fun r_1 w_2 => (if r_1 = 0 then post (-1 : Int32) w_2 else zX10_isHeat (fun r_4 w_5 => (if r_4 = 0 then post (-1 : Int32) w_5 else (if x3 < 0 then post (-1 : Int32) w_5 else (if x3 ≤ (1 : Int32) then zX10_steady_29 post 70000 x1 x2 x3 (0 : Int32) w_5 else post (-1 : Int32) w_5)))) x2 w_2)) x1 w
theorem tX10_steady  {post : Int32 → Wd → Prop} {pb : Int32 → Vd → Bool} (hp : ∀ (r : Int32) (w : Wd), pb r (prj w) = true → post r w) {x1 : Int32} {x2 : Int32} {x3 : Int32} {w : Wd} (h : zX10_steady  pb  x1 x2 x3 (prj w) = true) : pX10_steady  post  x1 x2 x3 w := by
  unfold pX10_steady
  unfold zX10_steady at h
  refine tX10_isHand (fun r_1 w_2 h => ?_)  h
  refine br_i h (fun c h => ?_) (fun c h => ?_)
  · exact hp _ _ h
  · refine tX10_isHeat (fun r_4 w_5 h => ?_)  h
    refine br_i h (fun c h => ?_) (fun c h => ?_)
    · exact hp _ _ h
    · refine br_i h (fun c h => ?_) (fun c h => ?_)
      · exact hp _ _ h
      · refine br_i h (fun c h => ?_) (fun c h => ?_)
        · refine ⟨70000, ?_⟩
          exact tX10_steady_29 hp _ _ _ _ _ _ h
        · exact hp _ _ h
def zX10_against_31 (post : Int32 → Vd → Bool) : Nat → Int32 → Int32 → Int32 → Int32 → Int32 → Vd → Bool
  | 0, _, _, _, _, _, _ => false
  | n + 1, x1, x2, x3, x4, x5, w => zX7_rows (fun r_1 w_2 => (if r_1 ≤ x5 then post x4 w_2 else false)) (w.2.2 0) w
theorem tX10_against_31  {post : Int32 → Wd → Prop} {pb : Int32 → Vd → Bool} (hp : ∀ (r : Int32) (w : Wd), pb r (prj w) = true → post r w) : ∀ (n : Nat) (x1 : Int32) (x2 : Int32) (x3 : Int32) (x4 : Int32) (x5 : Int32) (w : Wd), zX10_against_31  pb  n x1 x2 x3 x4 x5 (prj w) = true → pX10_against_31  post  n x1 x2 x3 x4 x5 w := by
  intro n
  induction n with
  | zero => intro x1 x2 x3 x4 x5 w h; exact absurd (show false = true from h) (by decide)
  | succ n ih =>
    intro x1 x2 x3 x4 x5 w h
    unfold pX10_against_31
    unfold zX10_against_31 at h
    refine tX7_rows (fun r_1 w_2 h => ?_)  h
    refine br_i h (fun c h => ?_) (fun c h => ?_)
    · exact hp _ _ h
    · exact absurd (show false = true from h) (by decide)
def zX10_against (post : Int32 → Vd → Bool) (x1 : Int32) (x2 : Int32) (x3 : Int32) (w : Vd) : Bool := zX10_isHand (fun r_1 w_2 => (if r_1 = 0 then post (-1 : Int32) w_2 else zX10_isHand (fun r_4 w_5 => (if r_4 = 0 then post (-1 : Int32) w_5 else zX10_isHeat (fun r_7 w_8 => (if r_7 = 0 then post (-1 : Int32) w_8 else zX10_against_31 post 70000 x1 x2 x3 (0 : Int32) (0 : Int32) w_8)) x3 w_5)) x2 w_2)) x1 w
theorem tX10_against  {post : Int32 → Wd → Prop} {pb : Int32 → Vd → Bool} (hp : ∀ (r : Int32) (w : Wd), pb r (prj w) = true → post r w) {x1 : Int32} {x2 : Int32} {x3 : Int32} {w : Wd} (h : zX10_against  pb  x1 x2 x3 (prj w) = true) : pX10_against  post  x1 x2 x3 w := by
  unfold pX10_against
  unfold zX10_against at h
  refine tX10_isHand (fun r_1 w_2 h => ?_)  h
  refine br_i h (fun c h => ?_) (fun c h => ?_)
  · exact hp _ _ h
  · refine tX10_isHand (fun r_4 w_5 h => ?_)  h
    refine br_i h (fun c h => ?_) (fun c h => ?_)
    · exact hp _ _ h
    · refine tX10_isHeat (fun r_7 w_8 h => ?_)  h
      refine br_n h (fun c h => ?_) (fun c h => ?_)
      · refine ⟨70000, ?_⟩
        exact tX10_against_31 hp _ _ _ _ _ _ _ h
      · exact hp _ _ h
def zX3_add (post : Int32 → Vd → Bool) (x1 : Int32) (x2 : Int32) (x3 : Int32) (x4 : Int32) (w : Vd) : Bool := (if (w.1 70 0) < 0 then post (-1 : Int32) w else (if (w.1 70 0) < (40 : Int32) then (vb (w.1 70 0) 40 && fw (vA w 73 (w.1 70 0).toNatClampNeg x1) (fun w_3 => (vb (w_3.1 70 0) 40 && fw (vA w_3 74 (w_3.1 70 0).toNatClampNeg x2) (fun w_4 => (vb (w_4.1 70 0) 40 && fw (vA w_4 75 (w_4.1 70 0).toNatClampNeg x3) (fun w_5 => (vb (w_5.1 70 0) 40 && fw (vA w_5 76 (w_5.1 70 0).toNatClampNeg x4) (fun w_6 => (vb (w_6.1 70 0) 40 && fw (vA w_6 77 (w_6.1 70 0).toNatClampNeg (w_6.1 70 1)) (fun w_7 => (vb (w_7.1 70 0) 40 && fw (vA w_7 78 (w_7.1 70 0).toNatClampNeg (-1 : Int32)) (fun w_8 => fw (vI w_8 70 0 ((w_8.1 70 0) + (1 : Int32))) (fun w_9 => post ((w_9.1 70 0) - (1 : Int32)) w_9))))))))))))) else post (-1 : Int32) w))
theorem tX3_add  {post : Int32 → Wd → Prop} {pb : Int32 → Vd → Bool} (hp : ∀ (r : Int32) (w : Wd), pb r (prj w) = true → post r w) {x1 : Int32} {x2 : Int32} {x3 : Int32} {x4 : Int32} {w : Wd} (h : zX3_add  pb  x1 x2 x3 x4 (prj w) = true) : pX3_add  post  x1 x2 x3 x4 w := by
  unfold pX3_add
  unfold zX3_add at h
  refine br_i h (fun c h => ?_) (fun c h => ?_)
  · exact hp _ _ h
  · refine br_i h (fun c h => ?_) (fun c h => ?_)
    · refine gd_v h (fun h => ?_)
      refine fa_w rfl h (fun w_3 ew_3 h => ?_)
      refine gd_v h (fun h => ?_)
      refine fa_w rfl h (fun w_4 ew_4 h => ?_)
      refine gd_v h (fun h => ?_)
      refine fa_w rfl h (fun w_5 ew_5 h => ?_)
      refine gd_v h (fun h => ?_)
      refine fa_w rfl h (fun w_6 ew_6 h => ?_)
      refine gd_v h (fun h => ?_)
      refine fa_w rfl h (fun w_7 ew_7 h => ?_)
      refine gd_v h (fun h => ?_)
      refine fa_w rfl h (fun w_8 ew_8 h => ?_)
      refine fa_w rfl h (fun w_9 ew_9 h => ?_)
      exact hp _ _ h
    · exact hp _ _ h
def zX10_sample (post : Int32 → Vd → Bool) (x1 : Int32) (x2 : Int32) (w : Vd) : Bool := zX10_isRow (fun r_1 w_2 => (if r_1 = 0 then post (-1 : Int32) w_2 else (if x2 = 0 then zX3_add (fun r_5 w_6 => post r_5 w_6) (0 : Int32) x1 (0 : Int32) (0 : Int32) w_2 else zX3_add (fun r_7 w_8 => post r_7 w_8) (0 : Int32) x1 (0 : Int32) (1 : Int32) w_2))) x1 w
theorem tX10_sample  {post : Int32 → Wd → Prop} {pb : Int32 → Vd → Bool} (hp : ∀ (r : Int32) (w : Wd), pb r (prj w) = true → post r w) {x1 : Int32} {x2 : Int32} {w : Wd} (h : zX10_sample  pb  x1 x2 (prj w) = true) : pX10_sample  post  x1 x2 w := by
  unfold pX10_sample
  unfold zX10_sample at h
  refine tX10_isRow (fun r_1 w_2 h => ?_)  h
  refine br_i h (fun c h => ?_) (fun c h => ?_)
  · exact hp _ _ h
  · refine br_i h (fun c h => ?_) (fun c h => ?_)
    · refine tX3_add (fun r_5 w_6 h => ?_)  h
      exact hp _ _ h
    · refine tX3_add (fun r_7 w_8 h => ?_)  h
      exact hp _ _ h
def zX10_isYear (post : Int32 → Vd → Bool) (x0 : Int32) (w : Vd) : Bool := (if x0 < 0 then post (0 : Int32) w else (if (999 : Int32) < x0 then post (0 : Int32) w else post (1 : Int32) w))
theorem tX10_isYear  {post : Int32 → Wd → Prop} {pb : Int32 → Vd → Bool} (hp : ∀ (r : Int32) (w : Wd), pb r (prj w) = true → post r w) {x0 : Int32} {w : Wd} (h : zX10_isYear  pb  x0 (prj w) = true) : pX10_isYear  post  x0 w := by
  unfold pX10_isYear
  unfold zX10_isYear at h
  refine br_i h (fun c h => ?_) (fun c h => ?_)
  · exact hp _ _ h
  · refine br_i h (fun c h => ?_) (fun c h => ?_)
    · exact hp _ _ h
    · exact hp _ _ h
def zX10_claim (post : Int32 → Vd → Bool) (x1 : Int32) (x2 : Int32) (x3 : Int32) (w : Vd) : Bool := zX10_isRow (fun r_1 w_2 => (if r_1 = 0 then post (-1 : Int32) w_2 else zX10_isSeal (fun r_4 w_5 => (if r_4 = 0 then post (-1 : Int32) w_5 else zX10_isYear (fun r_7 w_8 => (if r_7 = 0 then post (-1 : Int32) w_8 else zX3_add (fun r_10 w_11 => post r_10 w_11) (1 : Int32) x1 x2 x3 w_8)) x3 w_5)) x2 w_2)) x1 w
theorem tX10_claim  {post : Int32 → Wd → Prop} {pb : Int32 → Vd → Bool} (hp : ∀ (r : Int32) (w : Wd), pb r (prj w) = true → post r w) {x1 : Int32} {x2 : Int32} {x3 : Int32} {w : Wd} (h : zX10_claim  pb  x1 x2 x3 (prj w) = true) : pX10_claim  post  x1 x2 x3 w := by
  unfold pX10_claim
  unfold zX10_claim at h
  refine tX10_isRow (fun r_1 w_2 h => ?_)  h
  refine br_i h (fun c h => ?_) (fun c h => ?_)
  · exact hp _ _ h
  · refine tX10_isSeal (fun r_4 w_5 h => ?_)  h
    refine br_i h (fun c h => ?_) (fun c h => ?_)
    · exact hp _ _ h
    · refine tX10_isYear (fun r_7 w_8 h => ?_)  h
      refine br_n h (fun c h => ?_) (fun c h => ?_)
      · refine tX3_add (fun r_10 w_11 h => ?_)  h
        exact hp _ _ h
      · exact hp _ _ h
def zX10_saw (post : Int32 → Vd → Bool) (x1 : Int32) (x2 : Int32) (x3 : Int32) (w : Vd) : Bool := zX10_isMark (fun r_1 w_2 => (if r_1 = 0 then post (-1 : Int32) w_2 else zX10_isYear (fun r_4 w_5 => (if r_4 = 0 then post (-1 : Int32) w_5 else (if x3 = 0 then zX3_add (fun r_8 w_9 => post r_8 w_9) (2 : Int32) x1 x2 (0 : Int32) w_5 else zX3_add (fun r_10 w_11 => post r_10 w_11) (2 : Int32) x1 x2 (1 : Int32) w_5))) x2 w_2)) x1 w
theorem tX10_saw  {post : Int32 → Wd → Prop} {pb : Int32 → Vd → Bool} (hp : ∀ (r : Int32) (w : Wd), pb r (prj w) = true → post r w) {x1 : Int32} {x2 : Int32} {x3 : Int32} {w : Wd} (h : zX10_saw  pb  x1 x2 x3 (prj w) = true) : pX10_saw  post  x1 x2 x3 w := by
  unfold pX10_saw
  unfold zX10_saw at h
  refine tX10_isMark (fun r_1 w_2 h => ?_)  h
  refine br_i h (fun c h => ?_) (fun c h => ?_)
  · exact hp _ _ h
  · refine tX10_isYear (fun r_4 w_5 h => ?_)  h
    refine br_i h (fun c h => ?_) (fun c h => ?_)
    · exact hp _ _ h
    · refine br_i h (fun c h => ?_) (fun c h => ?_)
      · refine tX3_add (fun r_8 w_9 h => ?_)  h
        exact hp _ _ h
      · refine tX3_add (fun r_10 w_11 h => ?_)  h
        exact hp _ _ h
def zX10_isPaper (post : Int32 → Vd → Bool) (x0 : Int32) (w : Vd) : Bool := (if x0 < 0 then post (0 : Int32) w else (if (8 : Int32) ≤ x0 then post (0 : Int32) w else post (1 : Int32) w))
theorem tX10_isPaper  {post : Int32 → Wd → Prop} {pb : Int32 → Vd → Bool} (hp : ∀ (r : Int32) (w : Wd), pb r (prj w) = true → post r w) {x0 : Int32} {w : Wd} (h : zX10_isPaper  pb  x0 (prj w) = true) : pX10_isPaper  post  x0 w := by
  unfold pX10_isPaper
  unfold zX10_isPaper at h
  refine br_i h (fun c h => ?_) (fun c h => ?_)
  · exact hp _ _ h
  · refine br_i h (fun c h => ?_) (fun c h => ?_)
    · exact hp _ _ h
    · exact hp _ _ h
def zX10_link (post : Int32 → Vd → Bool) (x1 : Int32) (x2 : Int32) (x3 : Int32) (w : Vd) : Bool := zX10_isPaper (fun r_1 w_2 => (if r_1 = 0 then post (-1 : Int32) w_2 else zX10_isPaper (fun r_4 w_5 => (if r_4 = 0 then post (-1 : Int32) w_5 else (if x1 = x2 then post (-1 : Int32) w_5 else (if x3 = 0 then zX3_add (fun r_9 w_10 => post r_9 w_10) (3 : Int32) x1 x2 (0 : Int32) w_5 else zX3_add (fun r_11 w_12 => post r_11 w_12) (3 : Int32) x1 x2 (1 : Int32) w_5)))) x2 w_2)) x1 w
theorem tX10_link  {post : Int32 → Wd → Prop} {pb : Int32 → Vd → Bool} (hp : ∀ (r : Int32) (w : Wd), pb r (prj w) = true → post r w) {x1 : Int32} {x2 : Int32} {x3 : Int32} {w : Wd} (h : zX10_link  pb  x1 x2 x3 (prj w) = true) : pX10_link  post  x1 x2 x3 w := by
  unfold pX10_link
  unfold zX10_link at h
  refine tX10_isPaper (fun r_1 w_2 h => ?_)  h
  refine br_i h (fun c h => ?_) (fun c h => ?_)
  · exact hp _ _ h
  · refine tX10_isPaper (fun r_4 w_5 h => ?_)  h
    refine br_i h (fun c h => ?_) (fun c h => ?_)
    · exact hp _ _ h
    · refine br_n h (fun c h => ?_) (fun c h => ?_)
      · refine br_i h (fun c h => ?_) (fun c h => ?_)
        · refine tX3_add (fun r_9 w_10 h => ?_)  h
          exact hp _ _ h
        · refine tX3_add (fun r_11 w_12 h => ?_)  h
          exact hp _ _ h
      · exact hp _ _ h
def zX10_untell (post : Int32 → Vd → Bool) (x1 : Int32) (w : Vd) : Bool := (if x1 < 0 then post (0 : Int32) w else (if (w.1 70 0) ≤ x1 then post (0 : Int32) w else (vb x1 40 && (if (w.2.1 78 x1.toNatClampNeg) = (-1 : Int32) then (vb x1 40 && fw (vA w 78 x1.toNatClampNeg (w.1 70 1)) (fun w_4 => post (1 : Int32) w_4)) else post (0 : Int32) w))))
theorem tX10_untell  {post : Int32 → Wd → Prop} {pb : Int32 → Vd → Bool} (hp : ∀ (r : Int32) (w : Wd), pb r (prj w) = true → post r w) {x1 : Int32} {w : Wd} (h : zX10_untell  pb  x1 (prj w) = true) : pX10_untell  post  x1 w := by
  unfold pX10_untell
  unfold zX10_untell at h
  refine br_i h (fun c h => ?_) (fun c h => ?_)
  · exact hp _ _ h
  · refine br_i h (fun c h => ?_) (fun c h => ?_)
    · exact hp _ _ h
    · refine gd_v h (fun h => ?_)
      refine br_i h (fun c h => ?_) (fun c h => ?_)
      · refine gd_v h (fun h => ?_)
        refine fa_w rfl h (fun w_4 ew_4 h => ?_)
        exact hp _ _ h
      · exact hp _ _ h
def zX10_later (post : Int32 → Vd → Bool) (x1 : Int32) (w : Vd) : Bool := (if x1 < 0 then post (-1 : Int32) w else (if (1000 : Int32) < x1 then post (-1 : Int32) w else (if ((w.1 70 1) + x1) ≤ (100000 : Int32) then fw (vI w 70 1 ((w.1 70 1) + x1)) (fun w_4 => post (w_4.1 70 1) w_4) else post (-1 : Int32) w)))
theorem tX10_later  {post : Int32 → Wd → Prop} {pb : Int32 → Vd → Bool} (hp : ∀ (r : Int32) (w : Wd), pb r (prj w) = true → post r w) {x1 : Int32} {w : Wd} (h : zX10_later  pb  x1 (prj w) = true) : pX10_later  post  x1 w := by
  unfold pX10_later
  unfold zX10_later at h
  refine br_i h (fun c h => ?_) (fun c h => ?_)
  · exact hp _ _ h
  · refine br_i h (fun c h => ?_) (fun c h => ?_)
    · exact hp _ _ h
    · refine br_i h (fun c h => ?_) (fun c h => ?_)
      · refine fa_w rfl h (fun w_4 ew_4 h => ?_)
        exact hp _ _ h
      · exact hp _ _ h
def zX5_gather_84 (k72 : Int32 → Int32 → Vd → Bool) (post : Vd → Bool) : Nat → Int32 → Int32 → Int32 → Vd → Bool
  | 0, _, _, _, _ => false
  | n + 1, x3, x4, x5, w => (if (w.1 90 0) ≤ x5 then fz (x4 + (1 : Int32)) (fun x4_2 => k72 x3 x4_2 w) else (vb x4 7 && (vb x5 7 && false)))
theorem tX5_gather_84 {k72 : Int32 → Int32 → Wd → Prop} {k72b : Int32 → Int32 → Vd → Bool} {post : Wd → Prop} {pb : Vd → Bool} (hk72 : ∀ (y0 : Int32) (y1 : Int32) (w : Wd), k72b y0 y1 (prj w) = true → k72 y0 y1 w) (hp : ∀ (w : Wd), pb (prj w) = true → post w) : ∀ (n : Nat) (x3 : Int32) (x4 : Int32) (x5 : Int32) (w : Wd), zX5_gather_84 k72b pb  n x3 x4 x5 (prj w) = true → pX5_gather_84 k72 post  n x3 x4 x5 w := by
  intro n
  induction n with
  | zero => intro x3 x4 x5 w h; exact absurd (show false = true from h) (by decide)
  | succ n ih =>
    intro x3 x4 x5 w h
    unfold pX5_gather_84
    unfold zX5_gather_84 at h
    refine br_i h (fun c h => ?_) (fun c h => ?_)
    · refine fa_i h (fun x4_2 ex4_2 h => ?_)
      exact hk72 _ _ _ h
    · refine gd_v h (fun h => ?_)
      refine gd_v h (fun h => ?_)
      exact absurd (show false = true from h) (by decide)
def zX5_gather_72 (post : Vd → Bool) : Nat → Int32 → Int32 → Vd → Bool
  | 0, _, _, _ => false
  | n + 1, x3, x4, w => (if (w.1 90 0) ≤ x4 then post w else zX5_gather_84 (zX5_gather_72 post n) post 70000 x3 x4 (0 : Int32) w)
theorem tX5_gather_72  {post : Wd → Prop} {pb : Vd → Bool} (hp : ∀ (w : Wd), pb (prj w) = true → post w) : ∀ (n : Nat) (x3 : Int32) (x4 : Int32) (w : Wd), zX5_gather_72  pb  n x3 x4 (prj w) = true → pX5_gather_72  post  n x3 x4 w := by
  intro n
  induction n with
  | zero => intro x3 x4 w h; exact absurd (show false = true from h) (by decide)
  | succ n ih =>
    intro x3 x4 w h
    unfold pX5_gather_72
    unfold zX5_gather_72 at h
    refine br_i h (fun c h => ?_) (fun c h => ?_)
    · exact hp _ h
    · refine ⟨70000, ?_⟩
      exact tX5_gather_84 ih hp _ _ _ _ _ h
def zX5_gather_69 (post : Vd → Bool) (x3 : Int32) (w : Vd) : Bool := zX5_gather_72 post 70000 x3 (0 : Int32) w
theorem tX5_gather_69  {post : Wd → Prop} {pb : Vd → Bool} (hp : ∀ (w : Wd), pb (prj w) = true → post w) {x3 : Int32} {w : Wd} (h : zX5_gather_69  pb  x3 (prj w) = true) : pX5_gather_69  post  x3 w := by
  unfold pX5_gather_69
  unfold zX5_gather_69 at h
  refine ⟨70000, ?_⟩
  exact tX5_gather_72 hp _ _ _ _ h
def zX5_gather_8 (post : Vd → Bool) : Nat → Int32 → Int32 → Int32 → Vd → Bool
  | 0, _, _, _, _ => false
  | n + 1, x2, x3, x4, w => (if (w.1 70 0) ≤ x4 then zX5_gather_69 post x3 w else (if (7 : Int32) ≤ (w.1 90 0) then zX5_gather_69 post x3 w else false))
theorem tX5_gather_8  {post : Wd → Prop} {pb : Vd → Bool} (hp : ∀ (w : Wd), pb (prj w) = true → post w) : ∀ (n : Nat) (x2 : Int32) (x3 : Int32) (x4 : Int32) (w : Wd), zX5_gather_8  pb  n x2 x3 x4 (prj w) = true → pX5_gather_8  post  n x2 x3 x4 w := by
  intro n
  induction n with
  | zero => intro x2 x3 x4 w h; exact absurd (show false = true from h) (by decide)
  | succ n ih =>
    intro x2 x3 x4 w h
    unfold pX5_gather_8
    unfold zX5_gather_8 at h
    refine br_i h (fun c h => ?_) (fun c h => ?_)
    · exact tX5_gather_69 hp  h
    · refine br_i h (fun c h => ?_) (fun c h => ?_)
      · exact tX5_gather_69 hp  h
      · exact absurd (show false = true from h) (by decide)
def zX5_gather (post : Vd → Bool) (x2 : Int32) (x3 : Int32) (w : Vd) : Bool := fw (vI w 90 0 (0 : Int32)) (fun w_1 => zX5_gather_8 post 70000 x2 x3 (0 : Int32) w_1)
theorem tX5_gather  {post : Wd → Prop} {pb : Vd → Bool} (hp : ∀ (w : Wd), pb (prj w) = true → post w) {x2 : Int32} {x3 : Int32} {w : Wd} (h : zX5_gather  pb  x2 x3 (prj w) = true) : pX5_gather  post  x2 x3 w := by
  unfold pX5_gather
  unfold zX5_gather at h
  refine fa_w rfl h (fun w_1 ew_1 h => ?_)
  refine ⟨70000, ?_⟩
  exact tX5_gather_8 hp _ _ _ _ _ h
def zX10_tree (post : Int32 → Vd → Bool) (x1 : Int32) (x2 : Int32) (x3 : Int32) (w : Vd) : Bool := fw (vI w 110 1 (0 : Int32)) (fun w_1 => zX5_gather (fun w_2 => (if x1 < 0 then post (-1 : Int32) w_2 else (if (w_2.1 90 0) ≤ x1 then post (-1 : Int32) w_2 else (if x2 < 0 then post (-1 : Int32) w_2 else (if x2 ≤ (1 : Int32) then false else post (-1 : Int32) w_2))))) x3 (w_1.1 (rl (w_1.2.2 0)) 0) w_1)
theorem tX10_tree  {post : Int32 → Wd → Prop} {pb : Int32 → Vd → Bool} (hp : ∀ (r : Int32) (w : Wd), pb r (prj w) = true → post r w) {x1 : Int32} {x2 : Int32} {x3 : Int32} {w : Wd} (h : zX10_tree  pb  x1 x2 x3 (prj w) = true) : pX10_tree  post  x1 x2 x3 w := by
  unfold pX10_tree
  unfold zX10_tree at h
  refine fa_w rfl h (fun w_1 ew_1 h => ?_)
  refine tX5_gather (fun w_2 h => ?_)  h
  refine br_i h (fun c h => ?_) (fun c h => ?_)
  · exact hp _ _ h
  · refine br_i h (fun c h => ?_) (fun c h => ?_)
    · exact hp _ _ h
    · refine br_i h (fun c h => ?_) (fun c h => ?_)
      · exact hp _ _ h
      · refine br_i h (fun c h => ?_) (fun c h => ?_)
        · exact absurd (show false = true from h) (by decide)
        · exact hp _ _ h
def zX10_centre_45 (post : Int32 → Vd → Bool) : Nat → Int32 → Int32 → Int32 → Vd → Bool
  | 0, _, _, _, _ => false
  | n + 1, x1, x3, x4, w => (if (w.1 90 0) ≤ x4 then (if x1 = 0 then post x3 w else false) else false)
theorem tX10_centre_45  {post : Int32 → Wd → Prop} {pb : Int32 → Vd → Bool} (hp : ∀ (r : Int32) (w : Wd), pb r (prj w) = true → post r w) : ∀ (n : Nat) (x1 : Int32) (x3 : Int32) (x4 : Int32) (w : Wd), zX10_centre_45  pb  n x1 x3 x4 (prj w) = true → pX10_centre_45  post  n x1 x3 x4 w := by
  intro n
  induction n with
  | zero => intro x1 x3 x4 w h; exact absurd (show false = true from h) (by decide)
  | succ n ih =>
    intro x1 x3 x4 w h
    unfold pX10_centre_45
    unfold zX10_centre_45 at h
    refine br_i h (fun c h => ?_) (fun c h => ?_)
    · refine br_n h (fun c h => ?_) (fun c h => ?_)
      · exact absurd (show false = true from h) (by decide)
      · exact hp _ _ h
    · exact absurd (show false = true from h) (by decide)
def zX10_centre (post : Int32 → Vd → Bool) (x1 : Int32) (x2 : Int32) (w : Vd) : Bool := zX5_gather (fun w_1 => (if (w_1.1 90 0) = 0 then post (-1 : Int32) w_1 else (if x1 < 0 then post (-1 : Int32) w_1 else (if x1 ≤ (1 : Int32) then zX10_centre_45 post 70000 x1 (0 : Int32) (1 : Int32) w_1 else post (-1 : Int32) w_1)))) x2 (w.1 (rl (w.2.2 0)) 0) w
theorem tX10_centre  {post : Int32 → Wd → Prop} {pb : Int32 → Vd → Bool} (hp : ∀ (r : Int32) (w : Wd), pb r (prj w) = true → post r w) {x1 : Int32} {x2 : Int32} {w : Wd} (h : zX10_centre  pb  x1 x2 (prj w) = true) : pX10_centre  post  x1 x2 w := by
  unfold pX10_centre
  unfold zX10_centre at h
  refine tX5_gather (fun w_1 h => ?_)  h
  refine br_i h (fun c h => ?_) (fun c h => ?_)
  · exact hp _ _ h
  · refine br_i h (fun c h => ?_) (fun c h => ?_)
    · exact hp _ _ h
    · refine br_i h (fun c h => ?_) (fun c h => ?_)
      · refine ⟨70000, ?_⟩
        exact tX10_centre_45 hp _ _ _ _ _ h
      · exact hp _ _ h
def zX5_clanCount_28 (k4 : Int32 → Int32 → Vd → Bool) (post : Int32 → Vd → Bool) (x2 : Int32) (t0 : Int32) (t1 : Int32) (w : Vd) : Bool := fz ((t0 + t1)) (fun x1_1 => fz (x2 + (1 : Int32)) (fun x2_2 => k4 x1_1 x2_2 w))
theorem tX5_clanCount_28 {k4 : Int32 → Int32 → Wd → Prop} {k4b : Int32 → Int32 → Vd → Bool} {post : Int32 → Wd → Prop} {pb : Int32 → Vd → Bool} (hk4 : ∀ (y0 : Int32) (y1 : Int32) (w : Wd), k4b y0 y1 (prj w) = true → k4 y0 y1 w) (hp : ∀ (r : Int32) (w : Wd), pb r (prj w) = true → post r w) {x2 : Int32} {t0 : Int32} {t1 : Int32} {w : Wd} (h : zX5_clanCount_28 k4b pb  x2 t0 t1 (prj w) = true) : pX5_clanCount_28 k4 post  x2 t0 t1 w := by
  unfold pX5_clanCount_28
  unfold zX5_clanCount_28 at h
  refine fa_i h (fun x1_1 ex1_1 h => ?_)
  refine fa_i h (fun x2_2 ex2_2 h => ?_)
  exact hk4 _ _ _ h
def zX5_clanCount_4 (post : Int32 → Vd → Bool) : Nat → Int32 → Int32 → Vd → Bool
  | 0, _, _, _ => false
  | n + 1, x1, x2, w => (if (w.1 90 0) ≤ x2 then post x1 w else (vb x2 7 && (if (w.2.1 100 x2.toNatClampNeg) = x2 then zX5_clanCount_28 (zX5_clanCount_4 post n) post x2 x1 (1 : Int32) w else zX5_clanCount_28 (zX5_clanCount_4 post n) post x2 x1 (0 : Int32) w)))
theorem tX5_clanCount_4  {post : Int32 → Wd → Prop} {pb : Int32 → Vd → Bool} (hp : ∀ (r : Int32) (w : Wd), pb r (prj w) = true → post r w) : ∀ (n : Nat) (x1 : Int32) (x2 : Int32) (w : Wd), zX5_clanCount_4  pb  n x1 x2 (prj w) = true → pX5_clanCount_4  post  n x1 x2 w := by
  intro n
  induction n with
  | zero => intro x1 x2 w h; exact absurd (show false = true from h) (by decide)
  | succ n ih =>
    intro x1 x2 w h
    unfold pX5_clanCount_4
    unfold zX5_clanCount_4 at h
    refine br_i h (fun c h => ?_) (fun c h => ?_)
    · exact hp _ _ h
    · refine gd_v h (fun h => ?_)
      refine br_n h (fun c h => ?_) (fun c h => ?_)
      · exact tX5_clanCount_28 ih hp  h
      · exact tX5_clanCount_28 ih hp  h
def zX5_clanCount (post : Int32 → Vd → Bool)  (w : Vd) : Bool := zX5_clanCount_4 post 70000 (0 : Int32) (0 : Int32) w
theorem tX5_clanCount  {post : Int32 → Wd → Prop} {pb : Int32 → Vd → Bool} (hp : ∀ (r : Int32) (w : Wd), pb r (prj w) = true → post r w) {w : Wd} (h : zX5_clanCount  pb   (prj w) = true) : pX5_clanCount  post   w := by
  unfold pX5_clanCount
  unfold zX5_clanCount at h
  refine ⟨70000, ?_⟩
  exact tX5_clanCount_4 hp _ _ _ _ h
def zX5_joinClans_35 (k25 : Int32 → Int32 → Vd → Bool) (post : Vd → Bool) : Nat → Int32 → Int32 → Int32 → Vd → Bool
  | 0, _, _, _, _ => false
  | n + 1, x1, x2, x3, w => (if x2 ≤ x3 then fz (x2 + (1 : Int32)) (fun x2_2 => k25 x1 x2_2 w) else false)
theorem tX5_joinClans_35 {k25 : Int32 → Int32 → Wd → Prop} {k25b : Int32 → Int32 → Vd → Bool} {post : Wd → Prop} {pb : Vd → Bool} (hk25 : ∀ (y0 : Int32) (y1 : Int32) (w : Wd), k25b y0 y1 (prj w) = true → k25 y0 y1 w) (hp : ∀ (w : Wd), pb (prj w) = true → post w) : ∀ (n : Nat) (x1 : Int32) (x2 : Int32) (x3 : Int32) (w : Wd), zX5_joinClans_35 k25b pb  n x1 x2 x3 (prj w) = true → pX5_joinClans_35 k25 post  n x1 x2 x3 w := by
  intro n
  induction n with
  | zero => intro x1 x2 x3 w h; exact absurd (show false = true from h) (by decide)
  | succ n ih =>
    intro x1 x2 x3 w h
    unfold pX5_joinClans_35
    unfold zX5_joinClans_35 at h
    refine br_i h (fun c h => ?_) (fun c h => ?_)
    · refine fa_i h (fun x2_2 ex2_2 h => ?_)
      exact hk25 _ _ _ h
    · exact absurd (show false = true from h) (by decide)
def zX5_joinClans_25 (post : Vd → Bool) : Nat → Int32 → Int32 → Vd → Bool
  | 0, _, _, _ => false
  | n + 1, x1, x2, w => (if (w.1 90 0) ≤ x2 then post w else zX5_joinClans_35 (zX5_joinClans_25 post n) post 70000 x1 x2 (0 : Int32) w)
theorem tX5_joinClans_25  {post : Wd → Prop} {pb : Vd → Bool} (hp : ∀ (w : Wd), pb (prj w) = true → post w) : ∀ (n : Nat) (x1 : Int32) (x2 : Int32) (w : Wd), zX5_joinClans_25  pb  n x1 x2 (prj w) = true → pX5_joinClans_25  post  n x1 x2 w := by
  intro n
  induction n with
  | zero => intro x1 x2 w h; exact absurd (show false = true from h) (by decide)
  | succ n ih =>
    intro x1 x2 w h
    unfold pX5_joinClans_25
    unfold zX5_joinClans_25 at h
    refine br_i h (fun c h => ?_) (fun c h => ?_)
    · exact hp _ h
    · refine ⟨70000, ?_⟩
      exact tX5_joinClans_35 ih hp _ _ _ _ _ h
def zX5_joinClans_2 (post : Vd → Bool) : Nat → Int32 → Int32 → Vd → Bool
  | 0, _, _, _ => false
  | n + 1, x1, x2, w => (if (w.1 90 0) ≤ x2 then zX5_joinClans_25 post 70000 x1 (0 : Int32) w else (vb x2 7 && fw (vA w 100 x2.toNatClampNeg x2) (fun w_2 => fz (x2 + (1 : Int32)) (fun x2_3 => zX5_joinClans_2 post n x1 x2_3 w_2))))
theorem tX5_joinClans_2  {post : Wd → Prop} {pb : Vd → Bool} (hp : ∀ (w : Wd), pb (prj w) = true → post w) : ∀ (n : Nat) (x1 : Int32) (x2 : Int32) (w : Wd), zX5_joinClans_2  pb  n x1 x2 (prj w) = true → pX5_joinClans_2  post  n x1 x2 w := by
  intro n
  induction n with
  | zero => intro x1 x2 w h; exact absurd (show false = true from h) (by decide)
  | succ n ih =>
    intro x1 x2 w h
    unfold pX5_joinClans_2
    unfold zX5_joinClans_2 at h
    refine br_i h (fun c h => ?_) (fun c h => ?_)
    · refine ⟨70000, ?_⟩
      exact tX5_joinClans_25 hp _ _ _ _ h
    · refine gd_v h (fun h => ?_)
      refine fa_w rfl h (fun w_2 ew_2 h => ?_)
      refine fa_i h (fun x2_3 ex2_3 h => ?_)
      exact ih _ _ _ h
def zX5_joinClans (post : Vd → Bool) (x1 : Int32) (w : Vd) : Bool := zX5_joinClans_2 post 70000 x1 (0 : Int32) w
theorem tX5_joinClans  {post : Wd → Prop} {pb : Vd → Bool} (hp : ∀ (w : Wd), pb (prj w) = true → post w) {x1 : Int32} {w : Wd} (h : zX5_joinClans  pb  x1 (prj w) = true) : pX5_joinClans  post  x1 w := by
  unfold pX5_joinClans
  unfold zX5_joinClans at h
  refine ⟨70000, ?_⟩
  exact tX5_joinClans_2 hp _ _ _ _ h
def zX5_largestClan_43 (k17 : Int32 → Int32 → Int32 → Int32 → Vd → Bool) (post : Int32 → Vd → Bool) (x1 : Int32) (x2 : Int32) (x4 : Int32) (t0 : Int32) (t1 : Int32) (w : Vd) : Bool := fz ((t0 + t1)) (fun x3_1 => fz (x4 + (1 : Int32)) (fun x4_2 => k17 x1 x2 x3_1 x4_2 w))
theorem tX5_largestClan_43 {k17 : Int32 → Int32 → Int32 → Int32 → Wd → Prop} {k17b : Int32 → Int32 → Int32 → Int32 → Vd → Bool} {post : Int32 → Wd → Prop} {pb : Int32 → Vd → Bool} (hk17 : ∀ (y0 : Int32) (y1 : Int32) (y2 : Int32) (y3 : Int32) (w : Wd), k17b y0 y1 y2 y3 (prj w) = true → k17 y0 y1 y2 y3 w) (hp : ∀ (r : Int32) (w : Wd), pb r (prj w) = true → post r w) {x1 : Int32} {x2 : Int32} {x4 : Int32} {t0 : Int32} {t1 : Int32} {w : Wd} (h : zX5_largestClan_43 k17b pb  x1 x2 x4 t0 t1 (prj w) = true) : pX5_largestClan_43 k17 post  x1 x2 x4 t0 t1 w := by
  unfold pX5_largestClan_43
  unfold zX5_largestClan_43 at h
  refine fa_i h (fun x3_1 ex3_1 h => ?_)
  refine fa_i h (fun x4_2 ex4_2 h => ?_)
  exact hk17 _ _ _ _ _ h
def zX5_largestClan_17 (k4 : Int32 → Int32 → Vd → Bool) (post : Int32 → Vd → Bool) : Nat → Int32 → Int32 → Int32 → Int32 → Vd → Bool
  | 0, _, _, _, _, _ => false
  | n + 1, x1, x2, x3, x4, w => (if (w.1 90 0) ≤ x4 then fz ((if x1 < x3 then x3 else x1)) (fun x1_2 => fz (x2 + (1 : Int32)) (fun x2_3 => k4 x1_2 x2_3 w)) else (vb x4 7 && (if (w.2.1 100 x4.toNatClampNeg) = x2 then zX5_largestClan_43 (zX5_largestClan_17 k4 post n) post x1 x2 x4 x3 (1 : Int32) w else zX5_largestClan_43 (zX5_largestClan_17 k4 post n) post x1 x2 x4 x3 (0 : Int32) w)))
theorem tX5_largestClan_17 {k4 : Int32 → Int32 → Wd → Prop} {k4b : Int32 → Int32 → Vd → Bool} {post : Int32 → Wd → Prop} {pb : Int32 → Vd → Bool} (hk4 : ∀ (y0 : Int32) (y1 : Int32) (w : Wd), k4b y0 y1 (prj w) = true → k4 y0 y1 w) (hp : ∀ (r : Int32) (w : Wd), pb r (prj w) = true → post r w) : ∀ (n : Nat) (x1 : Int32) (x2 : Int32) (x3 : Int32) (x4 : Int32) (w : Wd), zX5_largestClan_17 k4b pb  n x1 x2 x3 x4 (prj w) = true → pX5_largestClan_17 k4 post  n x1 x2 x3 x4 w := by
  intro n
  induction n with
  | zero => intro x1 x2 x3 x4 w h; exact absurd (show false = true from h) (by decide)
  | succ n ih =>
    intro x1 x2 x3 x4 w h
    unfold pX5_largestClan_17
    unfold zX5_largestClan_17 at h
    refine br_i h (fun c h => ?_) (fun c h => ?_)
    · refine fa_i h (fun x1_2 ex1_2 h => ?_)
      refine fa_i h (fun x2_3 ex2_3 h => ?_)
      exact hk4 _ _ _ h
    · refine gd_v h (fun h => ?_)
      refine br_n h (fun c h => ?_) (fun c h => ?_)
      · exact tX5_largestClan_43 ih hp  h
      · exact tX5_largestClan_43 ih hp  h
def zX5_largestClan_4 (post : Int32 → Vd → Bool) : Nat → Int32 → Int32 → Vd → Bool
  | 0, _, _, _ => false
  | n + 1, x1, x2, w => (if (w.1 90 0) ≤ x2 then post x1 w else zX5_largestClan_17 (zX5_largestClan_4 post n) post 70000 x1 x2 (0 : Int32) (0 : Int32) w)
theorem tX5_largestClan_4  {post : Int32 → Wd → Prop} {pb : Int32 → Vd → Bool} (hp : ∀ (r : Int32) (w : Wd), pb r (prj w) = true → post r w) : ∀ (n : Nat) (x1 : Int32) (x2 : Int32) (w : Wd), zX5_largestClan_4  pb  n x1 x2 (prj w) = true → pX5_largestClan_4  post  n x1 x2 w := by
  intro n
  induction n with
  | zero => intro x1 x2 w h; exact absurd (show false = true from h) (by decide)
  | succ n ih =>
    intro x1 x2 w h
    unfold pX5_largestClan_4
    unfold zX5_largestClan_4 at h
    refine br_i h (fun c h => ?_) (fun c h => ?_)
    · exact hp _ _ h
    · refine ⟨70000, ?_⟩
      exact tX5_largestClan_17 ih hp _ _ _ _ _ _ h
def zX5_largestClan (post : Int32 → Vd → Bool)  (w : Vd) : Bool := zX5_largestClan_4 post 70000 (0 : Int32) (0 : Int32) w
theorem tX5_largestClan  {post : Int32 → Wd → Prop} {pb : Int32 → Vd → Bool} (hp : ∀ (r : Int32) (w : Wd), pb r (prj w) = true → post r w) {w : Wd} (h : zX5_largestClan  pb   (prj w) = true) : pX5_largestClan  post   w := by
  unfold pX5_largestClan
  unfold zX5_largestClan at h
  refine ⟨70000, ?_⟩
  exact tX5_largestClan_4 hp _ _ _ _ h
def zX10_clans (post : Int32 → Vd → Bool) (x1 : Int32) (x2 : Int32) (x3 : Int32) (w : Vd) : Bool := (if x1 < 0 then post (-1 : Int32) w else (if (24 : Int32) < x1 then post (-1 : Int32) w else (if x2 < 0 then post (-1 : Int32) w else (if x2 ≤ (1 : Int32) then zX5_gather (fun w_5 => zX5_joinClans (fun w_6 => (if x2 = 0 then zX5_clanCount (fun r_10 w_11 => post r_10 w_11) w_6 else zX5_largestClan (fun r_8 w_9 => post r_8 w_9) w_6)) x1 w_5) x3 (w.1 (rl (w.2.2 0)) 0) w else post (-1 : Int32) w))))
theorem tX10_clans  {post : Int32 → Wd → Prop} {pb : Int32 → Vd → Bool} (hp : ∀ (r : Int32) (w : Wd), pb r (prj w) = true → post r w) {x1 : Int32} {x2 : Int32} {x3 : Int32} {w : Wd} (h : zX10_clans  pb  x1 x2 x3 (prj w) = true) : pX10_clans  post  x1 x2 x3 w := by
  unfold pX10_clans
  unfold zX10_clans at h
  refine br_i h (fun c h => ?_) (fun c h => ?_)
  · exact hp _ _ h
  · refine br_i h (fun c h => ?_) (fun c h => ?_)
    · exact hp _ _ h
    · refine br_i h (fun c h => ?_) (fun c h => ?_)
      · exact hp _ _ h
      · refine br_i h (fun c h => ?_) (fun c h => ?_)
        · refine tX5_gather (fun w_5 h => ?_)  h
          refine tX5_joinClans (fun w_6 h => ?_)  h
          refine br_n h (fun c h => ?_) (fun c h => ?_)
          · refine tX5_largestClan (fun r_8 w_9 h => ?_)  h
            exact hp _ _ h
          · refine tX5_clanCount (fun r_10 w_11 h => ?_)  h
            exact hp _ _ h
        · exact hp _ _ h
def zX10_samplesWith_6 (post : Int32 → Vd → Bool) : Nat → Int32 → Int32 → Int32 → Int32 → Int32 → Vd → Bool
  | 0, _, _, _, _, _, _ => false
  | n + 1, x1, x2, x3, x4, x5, w => (if (w.1 70 0) ≤ x5 then post x4 w else false)
theorem tX10_samplesWith_6  {post : Int32 → Wd → Prop} {pb : Int32 → Vd → Bool} (hp : ∀ (r : Int32) (w : Wd), pb r (prj w) = true → post r w) : ∀ (n : Nat) (x1 : Int32) (x2 : Int32) (x3 : Int32) (x4 : Int32) (x5 : Int32) (w : Wd), zX10_samplesWith_6  pb  n x1 x2 x3 x4 x5 (prj w) = true → pX10_samplesWith_6  post  n x1 x2 x3 x4 x5 w := by
  intro n
  induction n with
  | zero => intro x1 x2 x3 x4 x5 w h; exact absurd (show false = true from h) (by decide)
  | succ n ih =>
    intro x1 x2 x3 x4 x5 w h
    unfold pX10_samplesWith_6
    unfold zX10_samplesWith_6 at h
    refine br_i h (fun c h => ?_) (fun c h => ?_)
    · exact hp _ _ h
    · exact absurd (show false = true from h) (by decide)
def zX10_samplesWith (post : Int32 → Vd → Bool) (x1 : Int32) (x2 : Int32) (x3 : Int32) (w : Vd) : Bool := zX10_samplesWith_6 post 70000 x1 x2 x3 (0 : Int32) (0 : Int32) w
theorem tX10_samplesWith  {post : Int32 → Wd → Prop} {pb : Int32 → Vd → Bool} (hp : ∀ (r : Int32) (w : Wd), pb r (prj w) = true → post r w) {x1 : Int32} {x2 : Int32} {x3 : Int32} {w : Wd} (h : zX10_samplesWith  pb  x1 x2 x3 (prj w) = true) : pX10_samplesWith  post  x1 x2 x3 w := by
  unfold pX10_samplesWith
  unfold zX10_samplesWith at h
  refine ⟨70000, ?_⟩
  exact tX10_samplesWith_6 hp _ _ _ _ _ _ _ h
def zX10_origin_67 (k19 : Int32 → Int32 → Int32 → Int32 → Int32 → Vd → Bool) (post : Int32 → Vd → Bool) (x1 : Int32) (x2 : Int32) (x3 : Int32) (x4 : Int32) (x5 : Int32) (x6 : Int32) (x7 : Int32) (w : Vd) : Bool := fz ((x4 + (if ((2 : Int32) * x7) < x6 then ((2 : Int32) * x7) else x6))) (fun x4_1 => fz (x5 + (1 : Int32)) (fun x5_2 => k19 x1 x2 x3 x4_1 x5_2 w))
theorem tX10_origin_67 {k19 : Int32 → Int32 → Int32 → Int32 → Int32 → Wd → Prop} {k19b : Int32 → Int32 → Int32 → Int32 → Int32 → Vd → Bool} {post : Int32 → Wd → Prop} {pb : Int32 → Vd → Bool} (hk19 : ∀ (y0 : Int32) (y1 : Int32) (y2 : Int32) (y3 : Int32) (y4 : Int32) (w : Wd), k19b y0 y1 y2 y3 y4 (prj w) = true → k19 y0 y1 y2 y3 y4 w) (hp : ∀ (r : Int32) (w : Wd), pb r (prj w) = true → post r w) {x1 : Int32} {x2 : Int32} {x3 : Int32} {x4 : Int32} {x5 : Int32} {x6 : Int32} {x7 : Int32} {w : Wd} (h : zX10_origin_67 k19b pb  x1 x2 x3 x4 x5 x6 x7 (prj w) = true) : pX10_origin_67 k19 post  x1 x2 x3 x4 x5 x6 x7 w := by
  unfold pX10_origin_67
  unfold zX10_origin_67 at h
  refine fa_i h (fun x4_1 ex4_1 h => ?_)
  refine fa_i h (fun x5_2 ex5_2 h => ?_)
  exact hk19 _ _ _ _ _ _ h
def zX10_origin_19 (post : Int32 → Vd → Bool) : Nat → Int32 → Int32 → Int32 → Int32 → Int32 → Vd → Bool
  | 0, _, _, _, _, _, _ => false
  | n + 1, x1, x2, x3, x4, x5, w => (if (w.1 (rl (w.2.2 0)) 0) ≤ x5 then (if x1 = 0 then post x3 w else post x4 w) else zX10_samplesWith (fun r_3 w_4 => zX10_samplesWith (fun r_5 w_6 => (if ((2 : Int32) * r_5) ≤ r_3 then zX10_origin_67 (zX10_origin_19 post n) post x1 x2 x3 x4 x5 r_3 r_5 w_6 else fz ((x3 ||| ((1 : Int32) <<< (x5 &&& 31)))) (fun x3_8 => zX10_origin_67 (zX10_origin_19 post n) post x1 x2 x3_8 x4 x5 r_3 r_5 w_6))) x5 (1 : Int32) x2 w_4) x5 (0 : Int32) x2 w)
theorem tX10_origin_19  {post : Int32 → Wd → Prop} {pb : Int32 → Vd → Bool} (hp : ∀ (r : Int32) (w : Wd), pb r (prj w) = true → post r w) : ∀ (n : Nat) (x1 : Int32) (x2 : Int32) (x3 : Int32) (x4 : Int32) (x5 : Int32) (w : Wd), zX10_origin_19  pb  n x1 x2 x3 x4 x5 (prj w) = true → pX10_origin_19  post  n x1 x2 x3 x4 x5 w := by
  intro n
  induction n with
  | zero => intro x1 x2 x3 x4 x5 w h; exact absurd (show false = true from h) (by decide)
  | succ n ih =>
    intro x1 x2 x3 x4 x5 w h
    unfold pX10_origin_19
    unfold zX10_origin_19 at h
    refine br_i h (fun c h => ?_) (fun c h => ?_)
    · refine br_n h (fun c h => ?_) (fun c h => ?_)
      · exact hp _ _ h
      · exact hp _ _ h
    · refine tX10_samplesWith (fun r_3 w_4 h => ?_)  h
      refine tX10_samplesWith (fun r_5 w_6 h => ?_)  h
      refine br_i h (fun c h => ?_) (fun c h => ?_)
      · exact tX10_origin_67 ih hp  h
      · refine fa_i h (fun x3_8 ex3_8 h => ?_)
        exact tX10_origin_67 ih hp  h
def zX10_origin (post : Int32 → Vd → Bool) (x1 : Int32) (x2 : Int32) (w : Vd) : Bool := (if x1 < 0 then post (-1 : Int32) w else (if x1 ≤ (1 : Int32) then zX10_origin_19 post 70000 x1 x2 (0 : Int32) (0 : Int32) (0 : Int32) w else post (-1 : Int32) w))
theorem tX10_origin  {post : Int32 → Wd → Prop} {pb : Int32 → Vd → Bool} (hp : ∀ (r : Int32) (w : Wd), pb r (prj w) = true → post r w) {x1 : Int32} {x2 : Int32} {w : Wd} (h : zX10_origin  pb  x1 x2 (prj w) = true) : pX10_origin  post  x1 x2 w := by
  unfold pX10_origin
  unfold zX10_origin at h
  refine br_i h (fun c h => ?_) (fun c h => ?_)
  · exact hp _ _ h
  · refine br_i h (fun c h => ?_) (fun c h => ?_)
    · refine ⟨70000, ?_⟩
      exact tX10_origin_19 hp _ _ _ _ _ _ _ h
    · exact hp _ _ h
def zX10_falses_12 (post : Int32 → Vd → Bool) : Nat → Int32 → Int32 → Int32 → Vd → Bool
  | 0, _, _, _, _ => false
  | n + 1, x1, x2, x3, w => (if (w.1 70 0) ≤ x3 then post x2 w else false)
theorem tX10_falses_12  {post : Int32 → Wd → Prop} {pb : Int32 → Vd → Bool} (hp : ∀ (r : Int32) (w : Wd), pb r (prj w) = true → post r w) : ∀ (n : Nat) (x1 : Int32) (x2 : Int32) (x3 : Int32) (w : Wd), zX10_falses_12  pb  n x1 x2 x3 (prj w) = true → pX10_falses_12  post  n x1 x2 x3 w := by
  intro n
  induction n with
  | zero => intro x1 x2 x3 w h; exact absurd (show false = true from h) (by decide)
  | succ n ih =>
    intro x1 x2 x3 w h
    unfold pX10_falses_12
    unfold zX10_falses_12 at h
    refine br_i h (fun c h => ?_) (fun c h => ?_)
    · exact hp _ _ h
    · exact absurd (show false = true from h) (by decide)
def zX10_falses (post : Int32 → Vd → Bool) (x1 : Int32) (w : Vd) : Bool := fw (vI w 110 1 (0 : Int32)) (fun w_1 => zX10_falses_12 post 70000 x1 (0 : Int32) (0 : Int32) w_1)
theorem tX10_falses  {post : Int32 → Wd → Prop} {pb : Int32 → Vd → Bool} (hp : ∀ (r : Int32) (w : Wd), pb r (prj w) = true → post r w) {x1 : Int32} {w : Wd} (h : zX10_falses  pb  x1 (prj w) = true) : pX10_falses  post  x1 w := by
  unfold pX10_falses
  unfold zX10_falses at h
  refine fa_w rfl h (fun w_1 ew_1 h => ?_)
  refine ⟨70000, ?_⟩
  exact tX10_falses_12 hp _ _ _ _ _ h
def zX10_span_30 (post : Int32 → Vd → Bool) : Nat → Int32 → Int32 → Int32 → Int32 → Int32 → Int32 → Vd → Bool
  | 0, _, _, _, _, _, _, _ => false
  | n + 1, x1, x2, x3, x4, x5, x6, w => (if (w.1 70 0) ≤ x6 then (if x2 = (2 : Int32) then post (if (0 : Int32) < ((x5 - x4) + (1 : Int32)) then ((x5 - x4) + (1 : Int32)) else (0 : Int32)) w else (if x4 ≤ x5 then (if x2 = 0 then post x4 w else post x5 w) else post (-1 : Int32) w)) else false)
theorem tX10_span_30  {post : Int32 → Wd → Prop} {pb : Int32 → Vd → Bool} (hp : ∀ (r : Int32) (w : Wd), pb r (prj w) = true → post r w) : ∀ (n : Nat) (x1 : Int32) (x2 : Int32) (x3 : Int32) (x4 : Int32) (x5 : Int32) (x6 : Int32) (w : Wd), zX10_span_30  pb  n x1 x2 x3 x4 x5 x6 (prj w) = true → pX10_span_30  post  n x1 x2 x3 x4 x5 x6 w := by
  intro n
  induction n with
  | zero => intro x1 x2 x3 x4 x5 x6 w h; exact absurd (show false = true from h) (by decide)
  | succ n ih =>
    intro x1 x2 x3 x4 x5 x6 w h
    unfold pX10_span_30
    unfold zX10_span_30 at h
    refine br_i h (fun c h => ?_) (fun c h => ?_)
    · refine br_n h (fun c h => ?_) (fun c h => ?_)
      · refine br_i h (fun c h => ?_) (fun c h => ?_)
        · refine br_n h (fun c h => ?_) (fun c h => ?_)
          · exact hp _ _ h
          · exact hp _ _ h
        · exact hp _ _ h
      · exact hp _ _ h
    · exact absurd (show false = true from h) (by decide)
def zX10_span (post : Int32 → Vd → Bool) (x1 : Int32) (x2 : Int32) (x3 : Int32) (w : Vd) : Bool := zX10_isMark (fun r_1 w_2 => (if r_1 = 0 then post (-1 : Int32) w_2 else (if x2 < 0 then post (-1 : Int32) w_2 else (if x2 ≤ (2 : Int32) then zX10_span_30 post 70000 x1 x2 x3 (0 : Int32) (999 : Int32) (0 : Int32) w_2 else post (-1 : Int32) w_2)))) x1 w
theorem tX10_span  {post : Int32 → Wd → Prop} {pb : Int32 → Vd → Bool} (hp : ∀ (r : Int32) (w : Wd), pb r (prj w) = true → post r w) {x1 : Int32} {x2 : Int32} {x3 : Int32} {w : Wd} (h : zX10_span  pb  x1 x2 x3 (prj w) = true) : pX10_span  post  x1 x2 x3 w := by
  unfold pX10_span
  unfold zX10_span at h
  refine tX10_isMark (fun r_1 w_2 h => ?_)  h
  refine br_i h (fun c h => ?_) (fun c h => ?_)
  · exact hp _ _ h
  · refine br_i h (fun c h => ?_) (fun c h => ?_)
    · exact hp _ _ h
    · refine br_i h (fun c h => ?_) (fun c h => ?_)
      · refine ⟨70000, ?_⟩
        exact tX10_span_30 hp _ _ _ _ _ _ _ _ h
      · exact hp _ _ h
def zX3_sideOf_42 (post : Int32 → Vd → Bool) : Nat → Int32 → Int32 → Int32 → Vd → Bool
  | 0, _, _, _, _ => false
  | n + 1, x1, x2, x3, w => (if (w.1 70 0) ≤ x3 then (vb x1 8 && (if (w.2.1 79 x1.toNatClampNeg) = (w.2.1 79 (0 : Int32).toNatClampNeg) then (vb x1 8 && post ((w.2.1 80 x1.toNatClampNeg) ^^^ (w.2.1 80 (0 : Int32).toNatClampNeg)) w) else post (-1 : Int32) w)) else false)
theorem tX3_sideOf_42  {post : Int32 → Wd → Prop} {pb : Int32 → Vd → Bool} (hp : ∀ (r : Int32) (w : Wd), pb r (prj w) = true → post r w) : ∀ (n : Nat) (x1 : Int32) (x2 : Int32) (x3 : Int32) (w : Wd), zX3_sideOf_42  pb  n x1 x2 x3 (prj w) = true → pX3_sideOf_42  post  n x1 x2 x3 w := by
  intro n
  induction n with
  | zero => intro x1 x2 x3 w h; exact absurd (show false = true from h) (by decide)
  | succ n ih =>
    intro x1 x2 x3 w h
    unfold pX3_sideOf_42
    unfold zX3_sideOf_42 at h
    refine br_i h (fun c h => ?_) (fun c h => ?_)
    · refine gd_v h (fun h => ?_)
      refine br_n h (fun c h => ?_) (fun c h => ?_)
      · exact hp _ _ h
      · refine gd_v h (fun h => ?_)
        exact hp _ _ h
    · exact absurd (show false = true from h) (by decide)
def zX3_sideOf_14 (post : Int32 → Vd → Bool) : Nat → Int32 → Int32 → Int32 → Vd → Bool
  | 0, _, _, _, _ => false
  | n + 1, x1, x2, x3, w => (if (8 : Int32) ≤ x3 then zX3_sideOf_42 post 70000 x1 x2 (0 : Int32) w else (vb x3 8 && fw (vA w 79 x3.toNatClampNeg x3) (fun w_2 => (vb x3 8 && fw (vA w_2 80 x3.toNatClampNeg (0 : Int32)) (fun w_3 => fz (x3 + (1 : Int32)) (fun x3_4 => zX3_sideOf_14 post n x1 x2 x3_4 w_3))))))
theorem tX3_sideOf_14  {post : Int32 → Wd → Prop} {pb : Int32 → Vd → Bool} (hp : ∀ (r : Int32) (w : Wd), pb r (prj w) = true → post r w) : ∀ (n : Nat) (x1 : Int32) (x2 : Int32) (x3 : Int32) (w : Wd), zX3_sideOf_14  pb  n x1 x2 x3 (prj w) = true → pX3_sideOf_14  post  n x1 x2 x3 w := by
  intro n
  induction n with
  | zero => intro x1 x2 x3 w h; exact absurd (show false = true from h) (by decide)
  | succ n ih =>
    intro x1 x2 x3 w h
    unfold pX3_sideOf_14
    unfold zX3_sideOf_14 at h
    refine br_i h (fun c h => ?_) (fun c h => ?_)
    · refine ⟨70000, ?_⟩
      exact tX3_sideOf_42 hp _ _ _ _ _ h
    · refine gd_v h (fun h => ?_)
      refine fa_w rfl h (fun w_2 ew_2 h => ?_)
      refine gd_v h (fun h => ?_)
      refine fa_w rfl h (fun w_3 ew_3 h => ?_)
      refine fa_i h (fun x3_4 ex3_4 h => ?_)
      exact ih _ _ _ _ h
def zX3_sideOf (post : Int32 → Vd → Bool) (x1 : Int32) (x2 : Int32) (w : Vd) : Bool := (if x1 < 0 then post (-1 : Int32) w else (if x1 < (8 : Int32) then zX3_sideOf_14 post 70000 x1 x2 (0 : Int32) w else post (-1 : Int32) w))
theorem tX3_sideOf  {post : Int32 → Wd → Prop} {pb : Int32 → Vd → Bool} (hp : ∀ (r : Int32) (w : Wd), pb r (prj w) = true → post r w) {x1 : Int32} {x2 : Int32} {w : Wd} (h : zX3_sideOf  pb  x1 x2 (prj w) = true) : pX3_sideOf  post  x1 x2 w := by
  unfold pX3_sideOf
  unfold zX3_sideOf at h
  refine br_i h (fun c h => ?_) (fun c h => ?_)
  · exact hp _ _ h
  · refine br_i h (fun c h => ?_) (fun c h => ?_)
    · refine ⟨70000, ?_⟩
      exact tX3_sideOf_14 hp _ _ _ _ _ h
    · exact hp _ _ h
def zX10_backward (post : Int32 → Vd → Bool) (x1 : Int32) (x2 : Int32) (w : Vd) : Bool := zX10_isPaper (fun r_1 w_2 => (if r_1 = 0 then post (-1 : Int32) w_2 else zX3_sideOf (fun r_4 w_5 => post r_4 w_5) x1 x2 w_2)) x1 w
theorem tX10_backward  {post : Int32 → Wd → Prop} {pb : Int32 → Vd → Bool} (hp : ∀ (r : Int32) (w : Wd), pb r (prj w) = true → post r w) {x1 : Int32} {x2 : Int32} {w : Wd} (h : zX10_backward  pb  x1 x2 (prj w) = true) : pX10_backward  post  x1 x2 w := by
  unfold pX10_backward
  unfold zX10_backward at h
  refine tX10_isPaper (fun r_1 w_2 h => ?_)  h
  refine br_i h (fun c h => ?_) (fun c h => ?_)
  · exact hp _ _ h
  · refine tX3_sideOf (fun r_4 w_5 h => ?_)  h
    exact hp _ _ h
def zX10_lies (post : Int32 → Vd → Bool) (x1 : Int32) (w : Vd) : Bool := (if x1 < 0 then post (-2 : Int32) w else (if x1 < (w.1 110 1) then (vb x1 16 && post (w.2.1 111 x1.toNatClampNeg) w) else post (-2 : Int32) w))
theorem tX10_lies  {post : Int32 → Wd → Prop} {pb : Int32 → Vd → Bool} (hp : ∀ (r : Int32) (w : Wd), pb r (prj w) = true → post r w) {x1 : Int32} {w : Wd} (h : zX10_lies  pb  x1 (prj w) = true) : pX10_lies  post  x1 w := by
  unfold pX10_lies
  unfold zX10_lies at h
  refine br_i h (fun c h => ?_) (fun c h => ?_)
  · exact hp _ _ h
  · refine br_i h (fun c h => ?_) (fun c h => ?_)
    · refine gd_v h (fun h => ?_)
      exact hp _ _ h
    · exact hp _ _ h
def zX10_about (post : Int32 → Vd → Bool) (x1 : Int32) (w : Vd) : Bool := (if x1.toInt < 0 ∨ 13 < x1.toInt then post (-1 : Int32) w else (if x1.toInt = 0 then post (w.1 (rl (w.2.2 0)) 2) w else (if x1.toInt = 1 then post (w.1 (rl (w.2.2 0)) 0) w else (if x1.toInt = 2 then post (w.1 160 0) w else (if x1.toInt = 3 then post (w.1 160 6) w else (if x1.toInt = 4 then post (w.1 160 11) w else (if x1.toInt = 5 then post (w.1 160 12) w else (if x1.toInt = 6 then post (w.1 160 13) w else (if x1.toInt = 7 then post (w.1 50 7) w else (if x1.toInt = 8 then post (w.1 50 8) w else (if x1.toInt = 9 then post (w.1 70 0) w else (if x1.toInt = 10 then post (w.1 70 1) w else (if x1.toInt = 11 then post (w.1 0 13) w else (if x1.toInt = 12 then post (w.1 (rl (w.2.2 0)) 5) w else (if x1.toInt = 13 then post (w.1 110 1) w else false)))))))))))))))
theorem tX10_about  {post : Int32 → Wd → Prop} {pb : Int32 → Vd → Bool} (hp : ∀ (r : Int32) (w : Wd), pb r (prj w) = true → post r w) {x1 : Int32} {w : Wd} (h : zX10_about  pb  x1 (prj w) = true) : pX10_about  post  x1 w := by
  unfold pX10_about
  unfold zX10_about at h
  refine sw_o h (fun c h => ?_) ?_
  · exact hp _ _ h
  · intro hn
    refine ⟨fun c => ?_, ?_⟩
    · have h := hn (by omega)
      rw [if_pos c] at h
      exact hp _ _ h
    refine ⟨fun c => ?_, ?_⟩
    · have h := hn (by omega)
      rw [if_neg (show ¬ (x1.toInt = 0) by omega)] at h
      rw [if_pos c] at h
      exact hp _ _ h
    refine ⟨fun c => ?_, ?_⟩
    · have h := hn (by omega)
      rw [if_neg (show ¬ (x1.toInt = 0) by omega)] at h
      rw [if_neg (show ¬ (x1.toInt = 1) by omega)] at h
      rw [if_pos c] at h
      exact hp _ _ h
    refine ⟨fun c => ?_, ?_⟩
    · have h := hn (by omega)
      rw [if_neg (show ¬ (x1.toInt = 0) by omega)] at h
      rw [if_neg (show ¬ (x1.toInt = 1) by omega)] at h
      rw [if_neg (show ¬ (x1.toInt = 2) by omega)] at h
      rw [if_pos c] at h
      exact hp _ _ h
    refine ⟨fun c => ?_, ?_⟩
    · have h := hn (by omega)
      rw [if_neg (show ¬ (x1.toInt = 0) by omega)] at h
      rw [if_neg (show ¬ (x1.toInt = 1) by omega)] at h
      rw [if_neg (show ¬ (x1.toInt = 2) by omega)] at h
      rw [if_neg (show ¬ (x1.toInt = 3) by omega)] at h
      rw [if_pos c] at h
      exact hp _ _ h
    refine ⟨fun c => ?_, ?_⟩
    · have h := hn (by omega)
      rw [if_neg (show ¬ (x1.toInt = 0) by omega)] at h
      rw [if_neg (show ¬ (x1.toInt = 1) by omega)] at h
      rw [if_neg (show ¬ (x1.toInt = 2) by omega)] at h
      rw [if_neg (show ¬ (x1.toInt = 3) by omega)] at h
      rw [if_neg (show ¬ (x1.toInt = 4) by omega)] at h
      rw [if_pos c] at h
      exact hp _ _ h
    refine ⟨fun c => ?_, ?_⟩
    · have h := hn (by omega)
      rw [if_neg (show ¬ (x1.toInt = 0) by omega)] at h
      rw [if_neg (show ¬ (x1.toInt = 1) by omega)] at h
      rw [if_neg (show ¬ (x1.toInt = 2) by omega)] at h
      rw [if_neg (show ¬ (x1.toInt = 3) by omega)] at h
      rw [if_neg (show ¬ (x1.toInt = 4) by omega)] at h
      rw [if_neg (show ¬ (x1.toInt = 5) by omega)] at h
      rw [if_pos c] at h
      exact hp _ _ h
    refine ⟨fun c => ?_, ?_⟩
    · have h := hn (by omega)
      rw [if_neg (show ¬ (x1.toInt = 0) by omega)] at h
      rw [if_neg (show ¬ (x1.toInt = 1) by omega)] at h
      rw [if_neg (show ¬ (x1.toInt = 2) by omega)] at h
      rw [if_neg (show ¬ (x1.toInt = 3) by omega)] at h
      rw [if_neg (show ¬ (x1.toInt = 4) by omega)] at h
      rw [if_neg (show ¬ (x1.toInt = 5) by omega)] at h
      rw [if_neg (show ¬ (x1.toInt = 6) by omega)] at h
      rw [if_pos c] at h
      exact hp _ _ h
    refine ⟨fun c => ?_, ?_⟩
    · have h := hn (by omega)
      rw [if_neg (show ¬ (x1.toInt = 0) by omega)] at h
      rw [if_neg (show ¬ (x1.toInt = 1) by omega)] at h
      rw [if_neg (show ¬ (x1.toInt = 2) by omega)] at h
      rw [if_neg (show ¬ (x1.toInt = 3) by omega)] at h
      rw [if_neg (show ¬ (x1.toInt = 4) by omega)] at h
      rw [if_neg (show ¬ (x1.toInt = 5) by omega)] at h
      rw [if_neg (show ¬ (x1.toInt = 6) by omega)] at h
      rw [if_neg (show ¬ (x1.toInt = 7) by omega)] at h
      rw [if_pos c] at h
      exact hp _ _ h
    refine ⟨fun c => ?_, ?_⟩
    · have h := hn (by omega)
      rw [if_neg (show ¬ (x1.toInt = 0) by omega)] at h
      rw [if_neg (show ¬ (x1.toInt = 1) by omega)] at h
      rw [if_neg (show ¬ (x1.toInt = 2) by omega)] at h
      rw [if_neg (show ¬ (x1.toInt = 3) by omega)] at h
      rw [if_neg (show ¬ (x1.toInt = 4) by omega)] at h
      rw [if_neg (show ¬ (x1.toInt = 5) by omega)] at h
      rw [if_neg (show ¬ (x1.toInt = 6) by omega)] at h
      rw [if_neg (show ¬ (x1.toInt = 7) by omega)] at h
      rw [if_neg (show ¬ (x1.toInt = 8) by omega)] at h
      rw [if_pos c] at h
      exact hp _ _ h
    refine ⟨fun c => ?_, ?_⟩
    · have h := hn (by omega)
      rw [if_neg (show ¬ (x1.toInt = 0) by omega)] at h
      rw [if_neg (show ¬ (x1.toInt = 1) by omega)] at h
      rw [if_neg (show ¬ (x1.toInt = 2) by omega)] at h
      rw [if_neg (show ¬ (x1.toInt = 3) by omega)] at h
      rw [if_neg (show ¬ (x1.toInt = 4) by omega)] at h
      rw [if_neg (show ¬ (x1.toInt = 5) by omega)] at h
      rw [if_neg (show ¬ (x1.toInt = 6) by omega)] at h
      rw [if_neg (show ¬ (x1.toInt = 7) by omega)] at h
      rw [if_neg (show ¬ (x1.toInt = 8) by omega)] at h
      rw [if_neg (show ¬ (x1.toInt = 9) by omega)] at h
      rw [if_pos c] at h
      exact hp _ _ h
    refine ⟨fun c => ?_, ?_⟩
    · have h := hn (by omega)
      rw [if_neg (show ¬ (x1.toInt = 0) by omega)] at h
      rw [if_neg (show ¬ (x1.toInt = 1) by omega)] at h
      rw [if_neg (show ¬ (x1.toInt = 2) by omega)] at h
      rw [if_neg (show ¬ (x1.toInt = 3) by omega)] at h
      rw [if_neg (show ¬ (x1.toInt = 4) by omega)] at h
      rw [if_neg (show ¬ (x1.toInt = 5) by omega)] at h
      rw [if_neg (show ¬ (x1.toInt = 6) by omega)] at h
      rw [if_neg (show ¬ (x1.toInt = 7) by omega)] at h
      rw [if_neg (show ¬ (x1.toInt = 8) by omega)] at h
      rw [if_neg (show ¬ (x1.toInt = 9) by omega)] at h
      rw [if_neg (show ¬ (x1.toInt = 10) by omega)] at h
      rw [if_pos c] at h
      exact hp _ _ h
    refine ⟨fun c => ?_, ?_⟩
    · have h := hn (by omega)
      rw [if_neg (show ¬ (x1.toInt = 0) by omega)] at h
      rw [if_neg (show ¬ (x1.toInt = 1) by omega)] at h
      rw [if_neg (show ¬ (x1.toInt = 2) by omega)] at h
      rw [if_neg (show ¬ (x1.toInt = 3) by omega)] at h
      rw [if_neg (show ¬ (x1.toInt = 4) by omega)] at h
      rw [if_neg (show ¬ (x1.toInt = 5) by omega)] at h
      rw [if_neg (show ¬ (x1.toInt = 6) by omega)] at h
      rw [if_neg (show ¬ (x1.toInt = 7) by omega)] at h
      rw [if_neg (show ¬ (x1.toInt = 8) by omega)] at h
      rw [if_neg (show ¬ (x1.toInt = 9) by omega)] at h
      rw [if_neg (show ¬ (x1.toInt = 10) by omega)] at h
      rw [if_neg (show ¬ (x1.toInt = 11) by omega)] at h
      rw [if_pos c] at h
      exact hp _ _ h
    intro c
    have h := hn (by omega)
    rw [if_neg (show ¬ (x1.toInt = 0) by omega)] at h
    rw [if_neg (show ¬ (x1.toInt = 1) by omega)] at h
    rw [if_neg (show ¬ (x1.toInt = 2) by omega)] at h
    rw [if_neg (show ¬ (x1.toInt = 3) by omega)] at h
    rw [if_neg (show ¬ (x1.toInt = 4) by omega)] at h
    rw [if_neg (show ¬ (x1.toInt = 5) by omega)] at h
    rw [if_neg (show ¬ (x1.toInt = 6) by omega)] at h
    rw [if_neg (show ¬ (x1.toInt = 7) by omega)] at h
    rw [if_neg (show ¬ (x1.toInt = 8) by omega)] at h
    rw [if_neg (show ¬ (x1.toInt = 9) by omega)] at h
    rw [if_neg (show ¬ (x1.toInt = 10) by omega)] at h
    rw [if_neg (show ¬ (x1.toInt = 11) by omega)] at h
    rw [if_neg (show ¬ (x1.toInt = 12) by omega)] at h
    rw [if_pos c] at h
    exact hp _ _ h
