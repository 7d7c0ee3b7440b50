/-! ===== the law's states: what holds of both objects between calls ===== -/
def JX (k : Nat) (T : Int) (w : Wd) : Prop := ∃ D : Int, IX k T D w
def JM (T : Int) (w : Wd) : Prop := ∃ W H P S M : Int, IM T W H P S M w
theorem nb_f {a b : Nat} (h : a ≠ b) : Nat.beq a b = false := Bool.eq_false_iff.mpr (fun q => h (Nat.eq_of_beq_eq_true q))
set_option maxRecDepth 100000 in
theorem ix_fresh (f : Nat → Int64) : IX 0 0 0 (wFX f) := by
  refine ⟨⟨by decide, by decide, by decide⟩, ⟨?_, ?_⟩, ⟨?_, ?_⟩, ?_, ⟨?_, ?_⟩, ?_, ⟨?_, ?_⟩, ⟨?_, ?_⟩, ⟨?_, ?_⟩, ?_, ?_, ?_⟩
  · show (0 : Int) ≤ (0 : Int32).toInt; decide
  · show (0 : Int32).toInt ≤ 1600; decide
  · show (0 : Int) ≤ (0 : Int32).toInt; decide
  · show (0 : Int32).toInt ≤ 1602; decide
  · show (0 : Int32).toInt = 0; decide
  · show (0 : Int) ≤ (0 : Int32).toInt; decide
  · show (0 : Int32).toInt ≤ 40; decide
  · show (0 : Int32).toInt = 0; decide
  · show (0 : Int) ≤ (0 : Int32).toInt; decide
  · show (0 : Int32).toInt ≤ 7; decide
  · show (0 : Int) ≤ (0 : Int32).toInt; decide
  · show (0 : Int32).toInt ≤ 4096; decide
  · show (0 : Int) ≤ (0 : Int32).toInt; decide
  · show (0 : Int32).toInt ≤ 16; decide
  · intro b
    cases b
    · refine ⟨⟨?_, ?_⟩, ⟨?_, ?_⟩, ⟨?_, ?_⟩⟩
      · show (1 : Int) ≤ (8 : Int32).toInt; decide
      · show (8 : Int32).toInt ≤ 12; decide
      · show (0 : Int) ≤ (0 : Int32).toInt; decide
      · show (0 : Int32).toInt ≤ 4; decide
      · show (0 : Int) ≤ (0 : Int32).toInt; decide
      · show (0 : Int32).toInt ≤ 1600; decide
    · refine ⟨⟨?_, ?_⟩, ⟨?_, ?_⟩, ⟨?_, ?_⟩⟩
      · show (1 : Int) ≤ (8 : Int32).toInt; decide
      · show (8 : Int32).toInt ≤ 12; decide
      · show (0 : Int) ≤ (0 : Int32).toInt; decide
      · show (0 : Int32).toInt ≤ 4; decide
      · show (0 : Int) ≤ (0 : Int32).toInt; decide
      · show (0 : Int32).toInt ≤ 1600; decide
  · intro c
    have z0 : ∀ i : Nat, i ≠ 15 → i ≠ 3 → (w0X f).1 (160 + 20 * c) i = 0 := by
      intro i h15 h3
      show (bif Nat.beq (160 + 20 * c) 0 && Nat.beq i 15 then (-1 : Int32) else bif (Nat.beq (160 + 20 * c) 120 || Nat.beq (160 + 20 * c) 140) && Nat.beq i 0 then 8 else bif (Nat.beq (160 + 20 * c) 120 || Nat.beq (160 + 20 * c) 140) && Nat.beq i 3 then 100 else 0) = 0
      rw [nb_f (show 160 + 20 * c ≠ 0 by omega), nb_f (show 160 + 20 * c ≠ 120 by omega), nb_f (show 160 + 20 * c ≠ 140 by omega)]
      rfl
    have e0 : (wFX f).1 (160 + 20 * c) 0 = if c = 0 then 1 else 0 := by
      unfold wFX
      rw [sI_ne (by omega), sI_ne (by omega)]
      by_cases hc : c = 0
      · subst hc; rw [if_pos rfl]; exact sI_at
      · rw [if_neg hc, sI_ne (by omega)]
        exact z0 0 (by decide) (by decide)
    have e6 : (wFX f).1 (160 + 20 * c) 6 = 0 := by
      unfold wFX
      rw [sI_ne (by omega), sI_ne (by omega), sI_ne (by omega)]
      exact z0 6 (by decide) (by decide)
    rw [e0, e6]
    refine ⟨?_, ⟨by decide, by decide⟩⟩
    by_cases hc : c = 0
    · rw [if_pos hc]; exact ⟨by decide, by decide⟩
    · rw [if_neg hc]; exact ⟨by decide, by decide⟩
  · intro i
    exact ⟨by show (-1 : Int) ≤ (0 : Int32).toInt; decide, by show (0 : Int32).toInt ≤ 6; decide⟩
set_option maxRecDepth 100000 in
theorem im_fresh : IM 0 8 0 256 1 0 wFM := by
  have e42 : (wFM.1 300 42).toInt = 0 := by decide +kernel
  have e43 : (wFM.1 300 43).toInt = 0 := by decide +kernel
  have e58 : (wFM.1 300 58).toInt = 0 := by decide +kernel
  have e216 : (wFM.2.1 341 216).toInt = 1 := by decide +kernel
  refine ⟨by decide +kernel, ⟨by decide +kernel, by decide +kernel⟩, ⟨by decide +kernel, by decide +kernel⟩, ⟨by decide +kernel, by decide +kernel⟩, ⟨by decide +kernel, by decide +kernel⟩, by decide +kernel, by decide +kernel, by decide +kernel, by decide +kernel, by decide +kernel, fun r hr => absurd hr (by omega), ⟨⟨⟨by decide +kernel, by decide +kernel⟩, ⟨by decide +kernel, by decide +kernel⟩, fun k hk => ?_⟩, e216⟩, fun j hj => absurd hj (by omega), fun b _ hz => absurd rfl hz, fun n hn => absurd hn (by omega), fun i => ⟨by show (0 : Int32) = vp_nar .boolean 0; decide, by show (0 : Int32) = vp_nar .boolean 0; decide⟩⟩
  rw [show 0 + 216 = 216 from rfl, e216] at hk
  have hk0 : k = 0 := by omega
  subst hk0
  exact ⟨⟨by decide +kernel, by decide +kernel⟩, fun h => absurd h (by omega)⟩
/-- the time behind later -/
def ltr (T x : Int) : Int := if 0 ≤ x ∧ x ≤ 1000 ∧ T + x ≤ 100000 then T + x else T
theorem ltr_rng {T x : Int} (h : 0 ≤ T ∧ T ≤ 100000) : 0 ≤ ltr T x ∧ ltr T x ≤ 100000 := by
  unfold ltr
  split <;> omega
theorem hl_later {k : Nat} {T : Int} {w w2 : Wd} {x1 : Int32} (h : JX k T w) (h2 : JM T w2) (hk : k < 1000) (hT : 0 ≤ T ∧ T ≤ 100000) : pX10_later (fun r w1 => pX11_later (fun r2 w3 => r2 = r ∧ JX (k + 1) (ltr T x1.toInt) w1 ∧ JM (ltr T x1.toInt) w3) x1 w2) x1 w := by
  obtain ⟨D, hI⟩ := h
  obtain ⟨W, H, P, S, M, hI2⟩ := h2
  refine sX10_later (zx1 := x1.toInt) rfl hI hT (fun r zr w9 T9 tr i9 q9 => ?_)
  refine sX11_later (zx1 := x1.toInt) rfl hI2 hT (fun r2 zr2 w3 T3 tr2 i3 q3 => ?_)
  have e9 : T9 = ltr T x1.toInt := by unfold ltr; split <;> omega
  have e3 : T3 = ltr T x1.toInt := by unfold ltr; split <;> omega
  subst e9
  subst e3
  exact ⟨cq_eq tr2 tr (by omega), ⟨D, ix_up i9 hk⟩, ⟨W, H, P, S, M, i3⟩⟩
theorem hx_feed {k : Nat} {T : Int} {w : Wd} {x1 : Int32} {x2 : Int32} {x3 : Int32} {x4 : Int32} {x5 : Int32} (h : JX k T w) (hk : k < 1000) : pX10_feed (fun _ w1 => JX (k + 1) T w1) x1 x2 x3 x4 x5 w := by
  obtain ⟨D, hI⟩ := h
  exact sX10_feed (tx1 := rfl) (tx2 := rfl) (tx3 := rfl) (tx4 := rfl) (tx5 := rfl) (hI := hI) (hp := fun r zr w9  t i => ⟨_, ix_up i hk⟩)
theorem hm_feed {T : Int} {w : Wd} {x1 : Int32} {x2 : Int32} {x3 : Int32} {x4 : Int32} {x5 : Int32} (h : JM T w) : pX11_feed (fun _ w1 => JM T w1) x1 x2 x3 x4 x5 w := by
  obtain ⟨W, H, P, S, M, hI⟩ := h
  exact sX11_feed (tx1 := rfl) (tx2 := rfl) (tx3 := rfl) (tx4 := rfl) (tx5 := rfl) (hI := hI) (hp := fun r zr w9  t i => ⟨_, _, _, _, _, i⟩)
theorem hx_end {k : Nat} {T : Int} {w : Wd} {x1 : Int32} (h : JX k T w) (hk : k < 1000) : pX10_end (fun _ w1 => JX (k + 1) T w1) x1 w := by
  obtain ⟨D, hI⟩ := h
  exact sX10_end (tx1 := rfl) (hI := hI) (hp := fun r zr w9  t i => ⟨_, ix_up i hk⟩)
theorem hm_end {T : Int} {w : Wd} {x1 : Int32} (h : JM T w) : pX11_end (fun _ w1 => JM T w1) x1 w := by
  obtain ⟨W, H, P, S, M, hI⟩ := h
  exact sX11_end (tx1 := rfl) (hI := hI) (hp := fun r zr w9  t i => ⟨_, _, _, _, _, i⟩)
theorem hx_chancery {k : Nat} {T : Int} {w : Wd}  (h : JX k T w) (hk : k < 1000) : pX10_chancery (fun _ w1 => JX (k + 1) T w1)  w := by
  obtain ⟨D, hI⟩ := h
  exact sX10_chancery  (hI := hI) (hp := fun r zr w9 D9 t i => ⟨_, ix_up i hk⟩)
theorem hm_chancery {T : Int} {w : Wd}  (h : JM T w) : pX11_chancery (fun _ w1 => JM T w1)  w := by
  obtain ⟨W, H, P, S, M, hI⟩ := h
  exact sX11_chancery hI (fun r w9 W9 H9 P9 S9 i => ⟨_, _, _, _, _, i⟩)
theorem hx_fault {k : Nat} {T : Int} {w : Wd} {x1 : Int32} (h : JX k T w) (hk : k < 1000) : pX10_fault (fun _ w1 => JX (k + 1) T w1) x1 w := by
  obtain ⟨D, hI⟩ := h
  exact sX10_fault (tx1 := rfl) (hI := hI) (hp := fun r zr t => ⟨D, ix_up hI hk⟩)
theorem hm_fault {T : Int} {w : Wd} {x1 : Int32} (h : JM T w) : pX11_fault (fun _ w1 => JM T w1) x1 w := by
  obtain ⟨W, H, P, S, M, hI⟩ := h
  exact sX11_fault (tx1 := rfl) (hI := hI) (hp := fun r zr t => ⟨_, _, _, _, _, hI⟩)
theorem hx_seal {k : Nat} {T : Int} {w : Wd} {x1 : Int32} {x2 : Int32} (h : JX k T w) (hk : k < 1000) : pX10_seal (fun _ w1 => JX (k + 1) T w1) x1 x2 w := by
  obtain ⟨D, hI⟩ := h
  exact sX10_seal (tx1 := rfl) (tx2 := rfl) (hI := hI) (hp := fun r zr t => ⟨D, ix_up hI hk⟩)
theorem hm_seal {T : Int} {w : Wd} {x1 : Int32} {x2 : Int32} (h : JM T w) : pX11_seal (fun _ w1 => JM T w1) x1 x2 w := by
  obtain ⟨W, H, P, S, M, hI⟩ := h
  exact sX11_seal (tx1 := rfl) (tx2 := rfl) (hI := hI) (hp := fun r zr t => ⟨_, _, _, _, _, hI⟩)
theorem hx_shown {k : Nat} {T : Int} {w : Wd} {x1 : Int32} {x2 : Int32} (h : JX k T w) (hk : k < 1000) : pX10_shown (fun _ w1 => JX (k + 1) T w1) x1 x2 w := by
  obtain ⟨D, hI⟩ := h
  exact sX10_shown (tx1 := rfl) (tx2 := rfl) (hI := hI) (hp := fun r zr t => ⟨D, ix_up hI hk⟩)
theorem hm_shown {T : Int} {w : Wd} {x1 : Int32} {x2 : Int32} (h : JM T w) : pX11_shown (fun _ w1 => JM T w1) x1 x2 w := by
  obtain ⟨W, H, P, S, M, hI⟩ := h
  exact sX11_shown (tx1 := rfl) (tx2 := rfl) (hI := hI) (hp := fun r zr t => ⟨_, _, _, _, _, hI⟩)
theorem hx_prints {k : Nat} {T : Int} {w : Wd} {x1 : Int32} {x2 : Int32} (h : JX k T w) (hk : k < 1000) : pX10_prints (fun _ w1 => JX (k + 1) T w1) x1 x2 w := by
  obtain ⟨D, hI⟩ := h
  exact sX10_prints (tx1 := rfl) (tx2 := rfl) (hI := hI) (hp := fun r zr t => ⟨D, ix_up hI hk⟩)
theorem hm_prints {T : Int} {w : Wd} {x1 : Int32} {x2 : Int32} (h : JM T w) : pX11_prints (fun _ w1 => JM T w1) x1 x2 w := by
  obtain ⟨W, H, P, S, M, hI⟩ := h
  exact sX11_prints (tx1 := rfl) (tx2 := rfl) (hI := hI) (hp := fun r zr t => ⟨_, _, _, _, _, hI⟩)
theorem hx_turned {k : Nat} {T : Int} {w : Wd} {x1 : Int32} (h : JX k T w) (hk : k < 1000) : pX10_turned (fun _ w1 => JX (k + 1) T w1) x1 w := by
  obtain ⟨D, hI⟩ := h
  exact sX10_turned (tx1 := rfl) (hI := hI) (hp := fun r zr t => ⟨D, ix_up hI hk⟩)
theorem hm_turned {T : Int} {w : Wd} {x1 : Int32} (h : JM T w) : pX11_turned (fun _ w1 => JM T w1) x1 w := by
  obtain ⟨W, H, P, S, M, hI⟩ := h
  exact sX11_turned (tx1 := rfl) (hI := hI) (hp := fun r zr t => ⟨_, _, _, _, _, hI⟩)
theorem hx_would {k : Nat} {T : Int} {w : Wd} {x1 : Int32} {x2 : Int32} {x3 : Int32} {x4 : Int32} (h : JX k T w) (hk : k < 1000) : pX10_would (fun _ w1 => JX (k + 1) T w1) x1 x2 x3 x4 w := by
  obtain ⟨D, hI⟩ := h
  exact sX10_would (tx1 := rfl) (tx2 := rfl) (tx3 := rfl) (tx4 := rfl) (hI := hI) (hp := fun r zr w9  t i => ⟨_, ix_up i hk⟩)
theorem hm_would {T : Int} {w : Wd} {x1 : Int32} {x2 : Int32} {x3 : Int32} {x4 : Int32} (h : JM T w) : pX11_would (fun _ w1 => JM T w1) x1 x2 x3 x4 w := by
  obtain ⟨W, H, P, S, M, hI⟩ := h
  exact sX11_would (tx1 := rfl) (tx2 := rfl) (tx3 := rfl) (tx4 := rfl) (hI := hI) (hp := fun r zr w9  t i => ⟨_, _, _, _, _, i⟩)
theorem hx_cast {k : Nat} {T : Int} {w : Wd} {x1 : Int32} {x2 : Int32} {x3 : Int32} (h : JX k T w) (hk : k < 1000) : pX10_cast (fun _ w1 => JX (k + 1) T w1) x1 x2 x3 w := by
  obtain ⟨D, hI⟩ := h
  exact sX10_cast (tx1 := rfl) (tx2 := rfl) (tx3 := rfl) (hI := hI) (hp := fun r zr w9 D9 t i => ⟨_, ix_up i hk⟩)
theorem hm_cast {T : Int} {w : Wd} {x1 : Int32} {x2 : Int32} {x3 : Int32} (h : JM T w) : pX11_cast (fun _ w1 => JM T w1) x1 x2 x3 w := by
  obtain ⟨W, H, P, S, M, hI⟩ := h
  exact sX11_cast (tx1 := rfl) (tx2 := rfl) (tx3 := rfl) (hI := hI) (hp := fun r zr w9 S9 t i => ⟨_, _, _, _, _, i⟩)
theorem hx_print {k : Nat} {T : Int} {w : Wd} {x1 : Int32} (h : JX k T w) (hk : k < 1000) : pX10_print (fun _ w1 => JX (k + 1) T w1) x1 w := by
  obtain ⟨D, hI⟩ := h
  exact sX10_print (tx1 := rfl) (hI := hI) (hp := fun r zr w9 D9 t i => ⟨_, ix_up i hk⟩)
theorem hm_print {T : Int} {w : Wd} {x1 : Int32} (h : JM T w) : pX11_print (fun _ w1 => JM T w1) x1 w := by
  obtain ⟨W, H, P, S, M, hI⟩ := h
  exact sX11_print (tx1 := rfl) (hI := hI) (hp := fun r zr w9  t i => ⟨_, _, _, _, _, i⟩)
theorem hx_crack {k : Nat} {T : Int} {w : Wd} {x1 : Int32} {x2 : Int32} (h : JX k T w) (hk : k < 1000) : pX10_crack (fun _ w1 => JX (k + 1) T w1) x1 x2 w := by
  obtain ⟨D, hI⟩ := h
  exact sX10_crack (tx1 := rfl) (tx2 := rfl) (hI := hI) (hp := fun r zr w9 D9 t i => ⟨_, ix_up i hk⟩)
theorem hm_crack {T : Int} {w : Wd} {x1 : Int32} {x2 : Int32} (h : JM T w) : pX11_crack (fun _ w1 => JM T w1) x1 x2 w := by
  obtain ⟨W, H, P, S, M, hI⟩ := h
  exact sX11_crack (tx1 := rfl) (tx2 := rfl) (hI := hI) (hp := fun r zr w9  t i => ⟨_, _, _, _, _, i⟩)
theorem hx_year {k : Nat} {T : Int} {w : Wd}  (h : JX k T w) (hk : k < 1000) : pX10_year (fun _ w1 => JX (k + 1) T w1)  w := by
  obtain ⟨D, hI⟩ := h
  exact sX10_year  (hI := hI) (hp := fun r zr w9 D9 t i => ⟨_, ix_up i hk⟩)
theorem hm_year {T : Int} {w : Wd}  (h : JM T w) : pX11_year (fun _ w1 => JM T w1)  w := by
  obtain ⟨W, H, P, S, M, hI⟩ := h
  exact sX11_year  (hI := hI) (hp := fun r zr w9  t i => ⟨_, _, _, _, _, i⟩)
theorem hx_undo {k : Nat} {T : Int} {w : Wd}  (h : JX k T w) (hk : k < 1000) : pX10_undo (fun _ w1 => JX (k + 1) T w1)  w := by
  obtain ⟨D, hI⟩ := h
  exact sX10_undo hI hk (fun r zr w9 D9 t i => ⟨_, i⟩)
theorem hm_undo {T : Int} {w : Wd}  (h : JM T w) : pX11_undo (fun _ w1 => JM T w1)  w := by
  obtain ⟨W, H, P, S, M, hI⟩ := h
  exact sX11_undo  (hI := hI) (hp := fun r zr w9 S9 t i => ⟨_, _, _, _, _, i⟩)
theorem hx_redo {k : Nat} {T : Int} {w : Wd}  (h : JX k T w) (hk : k < 1000) : pX10_redo (fun _ w1 => JX (k + 1) T w1)  w := by
  obtain ⟨D, hI⟩ := h
  exact sX10_redo  (hI := hI) (hp := fun r zr w9 D9 t i => ⟨_, ix_up i hk⟩)
theorem hm_redo {T : Int} {w : Wd}  (h : JM T w) : pX11_redo (fun _ w1 => JM T w1)  w := by
  obtain ⟨W, H, P, S, M, hI⟩ := h
  exact sX11_redo  (hI := hI) (hp := fun r zr w9 S9 t i => ⟨_, _, _, _, _, i⟩)
theorem hx_whose {k : Nat} {T : Int} {w : Wd} {x1 : Int32} {x2 : Int32} {x3 : Int32} (h : JX k T w) (hk : k < 1000) : pX10_whose (fun _ w1 => JX (k + 1) T w1) x1 x2 x3 w := by
  obtain ⟨D, hI⟩ := h
  exact sX10_whose (tx1 := rfl) (tx2 := rfl) (tx3 := rfl) (hI := hI) (hp := fun r zr w9  t i => ⟨_, ix_up i hk⟩)
theorem hm_whose {T : Int} {w : Wd} {x1 : Int32} {x2 : Int32} {x3 : Int32} (h : JM T w) : pX11_whose (fun _ w1 => JM T w1) x1 x2 x3 w := by
  obtain ⟨W, H, P, S, M, hI⟩ := h
  exact sX11_whose (tx1 := rfl) (tx2 := rfl) (tx3 := rfl) (hI := hI) (hp := fun r zr w9  t i => ⟨_, _, _, _, _, i⟩)
theorem hx_made {k : Nat} {T : Int} {w : Wd} {x1 : Int32} {x2 : Int32} (h : JX k T w) (hk : k < 1000) : pX10_made (fun _ w1 => JX (k + 1) T w1) x1 x2 w := by
  obtain ⟨D, hI⟩ := h
  exact sX10_made (tx1 := rfl) (tx2 := rfl) (hI := hI) (hp := fun r zr t => ⟨D, ix_up hI hk⟩)
theorem hm_made {T : Int} {w : Wd} {x1 : Int32} {x2 : Int32} (h : JM T w) : pX11_made (fun _ w1 => JM T w1) x1 x2 w := by
  obtain ⟨W, H, P, S, M, hI⟩ := h
  exact sX11_made (tx1 := rfl) (tx2 := rfl) (hI := hI) (hp := fun r zr t => ⟨_, _, _, _, _, hI⟩)
theorem hx_apart {k : Nat} {T : Int} {w : Wd} {x1 : Int32} {x2 : Int32} {x3 : Int32} (h : JX k T w) (hk : k < 1000) : pX10_apart (fun _ w1 => JX (k + 1) T w1) x1 x2 x3 w := by
  obtain ⟨D, hI⟩ := h
  exact sX10_apart (tx1 := rfl) (tx2 := rfl) (tx3 := rfl) (hI := hI) (hp := fun r zr t => ⟨D, ix_up hI hk⟩)
theorem hm_apart {T : Int} {w : Wd} {x1 : Int32} {x2 : Int32} {x3 : Int32} (h : JM T w) : pX11_apart (fun _ w1 => JM T w1) x1 x2 x3 w := by
  obtain ⟨W, H, P, S, M, hI⟩ := h
  exact sX11_apart (tx1 := rfl) (tx2 := rfl) (tx3 := rfl) (hI := hI) (hp := fun r zr t => ⟨_, _, _, _, _, hI⟩)
theorem hx_heats {k : Nat} {T : Int} {w : Wd} {x1 : Int32} {x2 : Int32} {x3 : Int32} (h : JX k T w) (hk : k < 1000) : pX10_heats (fun _ w1 => JX (k + 1) T w1) x1 x2 x3 w := by
  obtain ⟨D, hI⟩ := h
  exact sX10_heats (tx1 := rfl) (tx2 := rfl) (tx3 := rfl) (hI := hI) (hp := fun r zr w9  t i => ⟨_, ix_up i hk⟩)
theorem hm_heats {T : Int} {w : Wd} {x1 : Int32} {x2 : Int32} {x3 : Int32} (h : JM T w) : pX11_heats (fun _ w1 => JM T w1) x1 x2 x3 w := by
  obtain ⟨W, H, P, S, M, hI⟩ := h
  exact sX11_heats (tx1 := rfl) (tx2 := rfl) (tx3 := rfl) (hI := hI) (hp := fun r zr w9  t i => ⟨_, _, _, _, _, i⟩)
theorem hx_luck {k : Nat} {T : Int} {w : Wd} {x1 : Int32} {x2 : Int32} {x3 : Int32} {x4 : Int32} (h : JX k T w) (hk : k < 1000) : pX10_luck (fun _ w1 => JX (k + 1) T w1) x1 x2 x3 x4 w := by
  obtain ⟨D, hI⟩ := h
  exact sX10_luck (tx1 := rfl) (tx2 := rfl) (tx3 := rfl) (tx4 := rfl) (hI := hI) (hp := fun r zr w9  t i => ⟨_, ix_up i hk⟩)
theorem hm_luck {T : Int} {w : Wd} {x1 : Int32} {x2 : Int32} {x3 : Int32} {x4 : Int32} (h : JM T w) : pX11_luck (fun _ w1 => JM T w1) x1 x2 x3 x4 w := by
  obtain ⟨W, H, P, S, M, hI⟩ := h
  exact sX11_luck (tx1 := rfl) (tx2 := rfl) (tx3 := rfl) (tx4 := rfl) (hI := hI) (hp := fun r zr w9  t i => ⟨_, _, _, _, _, i⟩)
theorem hx_likely {k : Nat} {T : Int} {w : Wd} {x1 : Int32} {x2 : Int32} {x3 : Int32} {x4 : Int32} (h : JX k T w) (hk : k < 1000) : pX10_likely (fun _ w1 => JX (k + 1) T w1) x1 x2 x3 x4 w := by
  obtain ⟨D, hI⟩ := h
  exact sX10_likely (tx1 := rfl) (tx2 := rfl) (tx3 := rfl) (tx4 := rfl) (hI := hI) (hp := fun r zr w9  t i => ⟨_, ix_up i hk⟩)
theorem hm_likely {T : Int} {w : Wd} {x1 : Int32} {x2 : Int32} {x3 : Int32} {x4 : Int32} (h : JM T w) : pX11_likely (fun _ w1 => JM T w1) x1 x2 x3 x4 w := by
  obtain ⟨W, H, P, S, M, hI⟩ := h
  exact sX11_likely (tx1 := rfl) (tx2 := rfl) (tx3 := rfl) (tx4 := rfl) (hI := hI) (hp := fun r zr w9  t i => ⟨_, _, _, _, _, i⟩)
theorem hx_fades {k : Nat} {T : Int} {w : Wd} {x1 : Int32} {x2 : Int32} {x3 : Int32} (h : JX k T w) (hk : k < 1000) : pX10_fades (fun _ w1 => JX (k + 1) T w1) x1 x2 x3 w := by
  obtain ⟨D, hI⟩ := h
  exact sX10_fades (tx1 := rfl) (tx2 := rfl) (tx3 := rfl) (hI := hI) (hp := fun r zr w9  t i => ⟨_, ix_up i hk⟩)
theorem hm_fades {T : Int} {w : Wd} {x1 : Int32} {x2 : Int32} {x3 : Int32} (h : JM T w) : pX11_fades (fun _ w1 => JM T w1) x1 x2 x3 w := by
  obtain ⟨W, H, P, S, M, hI⟩ := h
  exact sX11_fades (tx1 := rfl) (tx2 := rfl) (tx3 := rfl) (hI := hI) (hp := fun r zr w9  t i => ⟨_, _, _, _, _, i⟩)
theorem hx_kin {k : Nat} {T : Int} {w : Wd} {x1 : Int32} {x2 : Int32} {x3 : Int32} (h : JX k T w) (hk : k < 1000) : pX10_kin (fun _ w1 => JX (k + 1) T w1) x1 x2 x3 w := by
  obtain ⟨D, hI⟩ := h
  exact sX10_kin (tx1 := rfl) (tx2 := rfl) (tx3 := rfl) (hI := hI) (hp := fun r zr t => ⟨D, ix_up hI hk⟩)
theorem hm_kin {T : Int} {w : Wd} {x1 : Int32} {x2 : Int32} {x3 : Int32} (h : JM T w) : pX11_kin (fun _ w1 => JM T w1) x1 x2 x3 w := by
  obtain ⟨W, H, P, S, M, hI⟩ := h
  exact sX11_kin (tx1 := rfl) (tx2 := rfl) (tx3 := rfl) (hI := hI) (hp := fun r zr t => ⟨_, _, _, _, _, hI⟩)
theorem hx_thumb {k : Nat} {T : Int} {w : Wd} {x1 : Int32} {x2 : Int32} (h : JX k T w) (hk : k < 1000) : pX10_thumb (fun _ w1 => JX (k + 1) T w1) x1 x2 w := by
  obtain ⟨D, hI⟩ := h
  exact sX10_thumb (tx1 := rfl) (tx2 := rfl) (hI := hI) (hp := fun r zr t => ⟨D, ix_up hI hk⟩)
theorem hm_thumb {T : Int} {w : Wd} {x1 : Int32} {x2 : Int32} (h : JM T w) : pX11_thumb (fun _ w1 => JM T w1) x1 x2 w := by
  obtain ⟨W, H, P, S, M, hI⟩ := h
  exact sX11_thumb (tx1 := rfl) (tx2 := rfl) (hI := hI) (hp := fun r zr t => ⟨_, _, _, _, _, hI⟩)
theorem hx_share {k : Nat} {T : Int} {w : Wd} {x1 : Int32} {x2 : Int32} {x3 : Int32} (h : JX k T w) (hk : k < 1000) : pX10_share (fun _ w1 => JX (k + 1) T w1) x1 x2 x3 w := by
  obtain ⟨D, hI⟩ := h
  exact sX10_share (tx1 := rfl) (tx2 := rfl) (tx3 := rfl) (hI := hI) (hp := fun r zr t => ⟨D, ix_up hI hk⟩)
theorem hm_share {T : Int} {w : Wd} {x1 : Int32} {x2 : Int32} {x3 : Int32} (h : JM T w) : pX11_share (fun _ w1 => JM T w1) x1 x2 x3 w := by
  obtain ⟨W, H, P, S, M, hI⟩ := h
  exact sX11_share (tx1 := rfl) (tx2 := rfl) (tx3 := rfl) (hI := hI) (hp := fun r zr w9  t i => ⟨_, _, _, _, _, i⟩)
theorem hx_forge {k : Nat} {T : Int} {w : Wd} {x1 : Int32} {x2 : Int32} {x3 : Int32} {x4 : Int32} {x5 : Int32} (h : JX k T w) (hk : k < 1000) : pX10_forge (fun _ w1 => JX (k + 1) T w1) x1 x2 x3 x4 x5 w := by
  obtain ⟨D, hI⟩ := h
  exact sX10_forge (tx1 := rfl) (tx2 := rfl) (tx3 := rfl) (tx4 := rfl) (tx5 := rfl) (hI := hI) (hp := fun r zr w9  t i => ⟨_, ix_up i hk⟩)
theorem hm_forge {T : Int} {w : Wd} {x1 : Int32} {x2 : Int32} {x3 : Int32} {x4 : Int32} {x5 : Int32} (h : JM T w) : pX11_forge (fun _ w1 => JM T w1) x1 x2 x3 x4 x5 w := by
  obtain ⟨W, H, P, S, M, hI⟩ := h
  exact sX11_forge (tx1 := rfl) (tx2 := rfl) (tx3 := rfl) (tx4 := rfl) (tx5 := rfl) (hI := hI) (hp := fun r zr w9  t i => ⟨_, _, _, _, _, i⟩)
theorem hx_nearest {k : Nat} {T : Int} {w : Wd} {x1 : Int32} {x2 : Int32} (h : JX k T w) (hk : k < 1000) : pX10_nearest (fun _ w1 => JX (k + 1) T w1) x1 x2 w := by
  obtain ⟨D, hI⟩ := h
  exact sX10_nearest (tx1 := rfl) (tx2 := rfl) (hI := hI) (hp := fun r zr t => ⟨D, ix_up hI hk⟩)
theorem hm_nearest {T : Int} {w : Wd} {x1 : Int32} {x2 : Int32} (h : JM T w) : pX11_nearest (fun _ w1 => JM T w1) x1 x2 w := by
  obtain ⟨W, H, P, S, M, hI⟩ := h
  exact sX11_nearest (tx1 := rfl) (tx2 := rfl) (hI := hI) (hp := fun r zr t => ⟨_, _, _, _, _, hI⟩)
theorem hx_common {k : Nat} {T : Int} {w : Wd} {x1 : Int32} (h : JX k T w) (hk : k < 1000) : pX10_common (fun _ w1 => JX (k + 1) T w1) x1 w := by
  obtain ⟨D, hI⟩ := h
  exact sX10_common (tx1 := rfl) (hI := hI) (hp := fun r zr t => ⟨D, ix_up hI hk⟩)
theorem hm_common {T : Int} {w : Wd} {x1 : Int32} (h : JM T w) : pX11_common (fun _ w1 => JM T w1) x1 w := by
  obtain ⟨W, H, P, S, M, hI⟩ := h
  exact sX11_common (tx1 := rfl) (hI := hI) (hp := fun r zr t => ⟨_, _, _, _, _, hI⟩)
theorem hx_alike {k : Nat} {T : Int} {w : Wd} {x1 : Int32} {x2 : Int32} (h : JX k T w) (hk : k < 1000) : pX10_alike (fun _ w1 => JX (k + 1) T w1) x1 x2 w := by
  obtain ⟨D, hI⟩ := h
  exact sX10_alike (tx1 := rfl) (tx2 := rfl) (hI := hI) (hp := fun r zr t => ⟨D, ix_up hI hk⟩)
theorem hm_alike {T : Int} {w : Wd} {x1 : Int32} {x2 : Int32} (h : JM T w) : pX11_alike (fun _ w1 => JM T w1) x1 x2 w := by
  obtain ⟨W, H, P, S, M, hI⟩ := h
  exact sX11_alike (tx1 := rfl) (tx2 := rfl) (hI := hI) (hp := fun r zr t => ⟨_, _, _, _, _, hI⟩)
theorem hx_tell {k : Nat} {T : Int} {w : Wd}  (h : JX k T w) (hk : k < 1000) : pX10_tell (fun _ w1 => JX (k + 1) T w1)  w := by
  obtain ⟨D, hI⟩ := h
  exact sX10_tell  (hI := hI) (hp := fun r zr w9  t i => ⟨_, ix_up i hk⟩)
theorem hm_tell {T : Int} {w : Wd}  (h : JM T w) : pX11_tell (fun _ w1 => JM T w1)  w := by
  obtain ⟨W, H, P, S, M, hI⟩ := h
  exact sX11_tell  (hI := hI) (hp := fun r zr w9  t i => ⟨_, _, _, _, _, i⟩)
theorem hx_round {k : Nat} {T : Int} {w : Wd} {x1 : Int32} {x2 : Int32} {x3 : Int32} {x4 : Int32} (h : JX k T w) (hk : k < 1000) : pX10_round (fun _ w1 => JX (k + 1) T w1) x1 x2 x3 x4 w := by
  obtain ⟨D, hI⟩ := h
  exact sX10_round (tx1 := rfl) (tx2 := rfl) (tx3 := rfl) (tx4 := rfl) (hI := hI) (hp := fun r zr w9  t i => ⟨_, ix_up i hk⟩)
theorem hm_round {T : Int} {w : Wd} {x1 : Int32} {x2 : Int32} {x3 : Int32} {x4 : Int32} (h : JM T w) : pX11_round (fun _ w1 => JM T w1) x1 x2 x3 x4 w := by
  obtain ⟨W, H, P, S, M, hI⟩ := h
  exact sX11_round (tx1 := rfl) (tx2 := rfl) (tx3 := rfl) (tx4 := rfl) (hI := hI) (hp := fun r zr w9  t i => ⟨_, _, _, _, _, i⟩)
theorem hx_steady {k : Nat} {T : Int} {w : Wd} {x1 : Int32} {x2 : Int32} {x3 : Int32} (h : JX k T w) (hk : k < 1000) : pX10_steady (fun _ w1 => JX (k + 1) T w1) x1 x2 x3 w := by
  obtain ⟨D, hI⟩ := h
  exact sX10_steady (tx1 := rfl) (tx2 := rfl) (tx3 := rfl) (hI := hI) (hp := fun r zr w9  t i => ⟨_, ix_up i hk⟩)
theorem hm_steady {T : Int} {w : Wd} {x1 : Int32} {x2 : Int32} {x3 : Int32} (h : JM T w) : pX11_steady (fun _ w1 => JM T w1) x1 x2 x3 w := by
  obtain ⟨W, H, P, S, M, hI⟩ := h
  exact sX11_steady (tx1 := rfl) (tx2 := rfl) (tx3 := rfl) (hI := hI) (hp := fun r zr w9  t i => ⟨_, _, _, _, _, i⟩)
theorem hx_against {k : Nat} {T : Int} {w : Wd} {x1 : Int32} {x2 : Int32} {x3 : Int32} (h : JX k T w) (hk : k < 1000) : pX10_against (fun _ w1 => JX (k + 1) T w1) x1 x2 x3 w := by
  obtain ⟨D, hI⟩ := h
  exact sX10_against (tx1 := rfl) (tx2 := rfl) (tx3 := rfl) (hI := hI) (hp := fun r zr w9  t i => ⟨_, ix_up i hk⟩)
theorem hm_against {T : Int} {w : Wd} {x1 : Int32} {x2 : Int32} {x3 : Int32} (h : JM T w) : pX11_against (fun _ w1 => JM T w1) x1 x2 x3 w := by
  obtain ⟨W, H, P, S, M, hI⟩ := h
  exact sX11_against (tx1 := rfl) (tx2 := rfl) (tx3 := rfl) (hI := hI) (hp := fun r zr w9  t i => ⟨_, _, _, _, _, i⟩)
theorem hx_wax {k : Nat} {T : Int} {w : Wd} {x1 : Int32} (h : JX k T w) (hk : k < 1000) : pX10_wax (fun _ w1 => JX (k + 1) T w1) x1 w := by
  obtain ⟨D, hI⟩ := h
  exact sX10_wax (tx1 := rfl) (hI := hI) (hp := fun r zr w9  t i => ⟨_, ix_up i hk⟩)
theorem hm_wax {T : Int} {w : Wd} {x1 : Int32} (h : JM T w) : pX11_wax (fun _ w1 => JM T w1) x1 w := by
  obtain ⟨W, H, P, S, M, hI⟩ := h
  exact sX11_wax (tx1 := rfl) (hI := hI) (hp := fun r zr w9  t i => ⟨_, _, _, _, _, i⟩)
theorem hx_sample {k : Nat} {T : Int} {w : Wd} {x1 : Int32} {x2 : Int32} (h : JX k T w) (hk : k < 1000) : pX10_sample (fun _ w1 => JX (k + 1) T w1) x1 x2 w := by
  obtain ⟨D, hI⟩ := h
  exact sX10_sample (tx1 := rfl) (tx2 := rfl) (hI := hI) (hp := fun r zr w9  t i => ⟨_, ix_up i hk⟩)
theorem hm_sample {T : Int} {w : Wd} {x1 : Int32} {x2 : Int32} (h : JM T w) : pX11_sample (fun _ w1 => JM T w1) x1 x2 w := by
  obtain ⟨W, H, P, S, M, hI⟩ := h
  exact sX11_sample (tx1 := rfl) (tx2 := rfl) (hI := hI) (hp := fun r zr w9  t i => ⟨_, _, _, _, _, i⟩)
theorem hx_claim {k : Nat} {T : Int} {w : Wd} {x1 : Int32} {x2 : Int32} {x3 : Int32} (h : JX k T w) (hk : k < 1000) : pX10_claim (fun _ w1 => JX (k + 1) T w1) x1 x2 x3 w := by
  obtain ⟨D, hI⟩ := h
  exact sX10_claim (tx1 := rfl) (tx2 := rfl) (tx3 := rfl) (hI := hI) (hp := fun r zr w9  t i => ⟨_, ix_up i hk⟩)
theorem hm_claim {T : Int} {w : Wd} {x1 : Int32} {x2 : Int32} {x3 : Int32} (h : JM T w) : pX11_claim (fun _ w1 => JM T w1) x1 x2 x3 w := by
  obtain ⟨W, H, P, S, M, hI⟩ := h
  exact sX11_claim (tx1 := rfl) (tx2 := rfl) (tx3 := rfl) (hI := hI) (hp := fun r zr w9  t i => ⟨_, _, _, _, _, i⟩)
theorem hx_saw {k : Nat} {T : Int} {w : Wd} {x1 : Int32} {x2 : Int32} {x3 : Int32} (h : JX k T w) (hk : k < 1000) : pX10_saw (fun _ w1 => JX (k + 1) T w1) x1 x2 x3 w := by
  obtain ⟨D, hI⟩ := h
  exact sX10_saw (tx1 := rfl) (tx2 := rfl) (tx3 := rfl) (hI := hI) (hp := fun r zr w9  t i => ⟨_, ix_up i hk⟩)
theorem hm_saw {T : Int} {w : Wd} {x1 : Int32} {x2 : Int32} {x3 : Int32} (h : JM T w) : pX11_saw (fun _ w1 => JM T w1) x1 x2 x3 w := by
  obtain ⟨W, H, P, S, M, hI⟩ := h
  exact sX11_saw (tx1 := rfl) (tx2 := rfl) (tx3 := rfl) (hI := hI) (hp := fun r zr w9  t i => ⟨_, _, _, _, _, i⟩)
theorem hx_link {k : Nat} {T : Int} {w : Wd} {x1 : Int32} {x2 : Int32} {x3 : Int32} (h : JX k T w) (hk : k < 1000) : pX10_link (fun _ w1 => JX (k + 1) T w1) x1 x2 x3 w := by
  obtain ⟨D, hI⟩ := h
  exact sX10_link (tx1 := rfl) (tx2 := rfl) (tx3 := rfl) (hI := hI) (hp := fun r zr w9  t i => ⟨_, ix_up i hk⟩)
theorem hm_link {T : Int} {w : Wd} {x1 : Int32} {x2 : Int32} {x3 : Int32} (h : JM T w) : pX11_link (fun _ w1 => JM T w1) x1 x2 x3 w := by
  obtain ⟨W, H, P, S, M, hI⟩ := h
  exact sX11_link (tx1 := rfl) (tx2 := rfl) (tx3 := rfl) (hI := hI) (hp := fun r zr w9  t i => ⟨_, _, _, _, _, i⟩)
theorem hx_untell {k : Nat} {T : Int} {w : Wd} {x1 : Int32} (h : JX k T w) (hk : k < 1000) : pX10_untell (fun _ w1 => JX (k + 1) T w1) x1 w := by
  obtain ⟨D, hI⟩ := h
  exact sX10_untell (tx1 := rfl) (hI := hI) (hp := fun r zr w9  t i => ⟨_, ix_up i hk⟩)
theorem hm_untell {T : Int} {w : Wd} {x1 : Int32} (h : JM T w) : pX11_untell (fun _ w1 => JM T w1) x1 w := by
  obtain ⟨W, H, P, S, M, hI⟩ := h
  exact sX11_untell (tx1 := rfl) (hI := hI) (hp := fun r zr w9  t i => ⟨_, _, _, _, _, i⟩)
theorem hx_tree {k : Nat} {T : Int} {w : Wd} {x1 : Int32} {x2 : Int32} {x3 : Int32} (h : JX k T w) (hk : k < 1000) : pX10_tree (fun _ w1 => JX (k + 1) T w1) x1 x2 x3 w := by
  obtain ⟨D, hI⟩ := h
  exact sX10_tree (tx1 := rfl) (tx2 := rfl) (tx3 := rfl) (hI := hI) (hp := fun r zr w9  t i => ⟨_, ix_up i hk⟩)
theorem hm_tree {T : Int} {w : Wd} {x1 : Int32} {x2 : Int32} {x3 : Int32} (h : JM T w) : pX11_tree (fun _ w1 => JM T w1) x1 x2 x3 w := by
  obtain ⟨W, H, P, S, M, hI⟩ := h
  exact sX11_tree (tx1 := rfl) (tx2 := rfl) (tx3 := rfl) (hI := hI) (hp := fun r zr w9 M9 t i => ⟨_, _, _, _, _, i⟩)
theorem hx_centre {k : Nat} {T : Int} {w : Wd} {x1 : Int32} {x2 : Int32} (h : JX k T w) (hk : k < 1000) : pX10_centre (fun _ w1 => JX (k + 1) T w1) x1 x2 w := by
  obtain ⟨D, hI⟩ := h
  exact sX10_centre (tx1 := rfl) (tx2 := rfl) (hI := hI) (hp := fun r zr w9  t i => ⟨_, ix_up i hk⟩)
theorem hm_centre {T : Int} {w : Wd} {x1 : Int32} {x2 : Int32} (h : JM T w) : pX11_centre (fun _ w1 => JM T w1) x1 x2 w := by
  obtain ⟨W, H, P, S, M, hI⟩ := h
  exact sX11_centre (tx1 := rfl) (tx2 := rfl) (hI := hI) (hp := fun r zr w9 M9 t i => ⟨_, _, _, _, _, i⟩)
theorem hx_clans {k : Nat} {T : Int} {w : Wd} {x1 : Int32} {x2 : Int32} {x3 : Int32} (h : JX k T w) (hk : k < 1000) : pX10_clans (fun _ w1 => JX (k + 1) T w1) x1 x2 x3 w := by
  obtain ⟨D, hI⟩ := h
  exact sX10_clans (tx1 := rfl) (tx2 := rfl) (tx3 := rfl) (hI := hI) (hp := fun r zr w9  t i => ⟨_, ix_up i hk⟩)
theorem hm_clans {T : Int} {w : Wd} {x1 : Int32} {x2 : Int32} {x3 : Int32} (h : JM T w) : pX11_clans (fun _ w1 => JM T w1) x1 x2 x3 w := by
  obtain ⟨W, H, P, S, M, hI⟩ := h
  exact sX11_clans (tx1 := rfl) (tx2 := rfl) (tx3 := rfl) (hI := hI) (hp := fun r zr w9 M9 t i => ⟨_, _, _, _, _, i⟩)
theorem hx_origin {k : Nat} {T : Int} {w : Wd} {x1 : Int32} {x2 : Int32} (h : JX k T w) (hk : k < 1000) : pX10_origin (fun _ w1 => JX (k + 1) T w1) x1 x2 w := by
  obtain ⟨D, hI⟩ := h
  exact sX10_origin (tx1 := rfl) (tx2 := rfl) (hI := hI) (hp := fun r zr t => ⟨D, ix_up hI hk⟩)
theorem hm_origin {T : Int} {w : Wd} {x1 : Int32} {x2 : Int32} (h : JM T w) : pX11_origin (fun _ w1 => JM T w1) x1 x2 w := by
  obtain ⟨W, H, P, S, M, hI⟩ := h
  exact sX11_origin (tx1 := rfl) (tx2 := rfl) (hI := hI) (hp := fun r zr t => ⟨_, _, _, _, _, hI⟩)
theorem hx_falses {k : Nat} {T : Int} {w : Wd} {x1 : Int32} (h : JX k T w) (hk : k < 1000) : pX10_falses (fun _ w1 => JX (k + 1) T w1) x1 w := by
  obtain ⟨D, hI⟩ := h
  exact sX10_falses (tx1 := rfl) (hI := hI) (hp := fun r zr w9  t i => ⟨_, ix_up i hk⟩)
theorem hm_falses {T : Int} {w : Wd} {x1 : Int32} (h : JM T w) : pX11_falses (fun _ w1 => JM T w1) x1 w := by
  obtain ⟨W, H, P, S, M, hI⟩ := h
  exact sX11_falses (tx1 := rfl) (hI := hI) (hp := fun r zr w9  t i => ⟨_, _, _, _, _, i⟩)
theorem hx_span {k : Nat} {T : Int} {w : Wd} {x1 : Int32} {x2 : Int32} {x3 : Int32} (h : JX k T w) (hk : k < 1000) : pX10_span (fun _ w1 => JX (k + 1) T w1) x1 x2 x3 w := by
  obtain ⟨D, hI⟩ := h
  exact sX10_span (tx1 := rfl) (tx2 := rfl) (tx3 := rfl) (hI := hI) (hp := fun r zr t => ⟨D, ix_up hI hk⟩)
theorem hm_span {T : Int} {w : Wd} {x1 : Int32} {x2 : Int32} {x3 : Int32} (h : JM T w) : pX11_span (fun _ w1 => JM T w1) x1 x2 x3 w := by
  obtain ⟨W, H, P, S, M, hI⟩ := h
  exact sX11_span (tx1 := rfl) (tx2 := rfl) (tx3 := rfl) (hI := hI) (hp := fun r zr t => ⟨_, _, _, _, _, hI⟩)
theorem hx_backward {k : Nat} {T : Int} {w : Wd} {x1 : Int32} {x2 : Int32} (h : JX k T w) (hk : k < 1000) : pX10_backward (fun _ w1 => JX (k + 1) T w1) x1 x2 w := by
  obtain ⟨D, hI⟩ := h
  exact sX10_backward (tx1 := rfl) (tx2 := rfl) (hI := hI) (hp := fun r zr w9  t i => ⟨_, ix_up i hk⟩)
theorem hm_backward {T : Int} {w : Wd} {x1 : Int32} {x2 : Int32} (h : JM T w) : pX11_backward (fun _ w1 => JM T w1) x1 x2 w := by
  obtain ⟨W, H, P, S, M, hI⟩ := h
  exact sX11_backward (tx1 := rfl) (tx2 := rfl) (hI := hI) (hp := fun r zr w9  t i => ⟨_, _, _, _, _, i⟩)
theorem hx_lies {k : Nat} {T : Int} {w : Wd} {x1 : Int32} (h : JX k T w) (hk : k < 1000) : pX10_lies (fun _ w1 => JX (k + 1) T w1) x1 w := by
  obtain ⟨D, hI⟩ := h
  exact sX10_lies (tx1 := rfl) (hI := hI) (hp := fun r zr t => ⟨D, ix_up hI hk⟩)
theorem hm_lies {T : Int} {w : Wd} {x1 : Int32} (h : JM T w) : pX11_lies (fun _ w1 => JM T w1) x1 w := by
  obtain ⟨W, H, P, S, M, hI⟩ := h
  exact sX11_lies (tx1 := rfl) (hI := hI) (hp := fun r zr t => ⟨_, _, _, _, _, hI⟩)
theorem hx_image {k : Nat} {T : Int} {w : Wd} {x1 : Int32} (h : JX k T w) (hk : k < 1000) : pX10_image (fun _ w1 => JX (k + 1) T w1) x1 w := by
  obtain ⟨D, hI⟩ := h
  exact sX10_image (tx1 := rfl) (hI := hI) (hp := fun r zr w9  t i => ⟨_, ix_up i hk⟩)
theorem hm_image {T : Int} {w : Wd} {x1 : Int32} (h : JM T w) : pX11_image (fun _ w1 => JM T w1) x1 w := by
  obtain ⟨W, H, P, S, M, hI⟩ := h
  exact sX11_image (tx1 := rfl) (hI := hI) (hp := fun r zr w9  t i => ⟨_, _, _, _, _, i⟩)
theorem hx_back {k : Nat} {T : Int} {w : Wd} {x1 : Int32} (h : JX k T w) (hk : k < 1000) : pX10_back (fun _ w1 => JX (k + 1) T w1) x1 w := by
  obtain ⟨D, hI⟩ := h
  exact sX10_back (tx1 := rfl) (hI := hI) (hp := fun r zr w9 D9 t i => ⟨_, ix_up i hk⟩)
theorem hm_back {T : Int} {w : Wd} {x1 : Int32} (h : JM T w) : pX11_back (fun _ w1 => JM T w1) x1 w := by
  obtain ⟨W, H, P, S, M, hI⟩ := h
  exact sX11_back (tx1 := rfl) (hI := hI) (hp := fun r zr w9 S9 t i => ⟨_, _, _, _, _, i⟩)
theorem hx_about {k : Nat} {T : Int} {w : Wd} {x1 : Int32} (h : JX k T w) (hk : k < 1000) : pX10_about (fun _ w1 => JX (k + 1) T w1) x1 w := by
  obtain ⟨D, hI⟩ := h
  exact sX10_about (tx1 := rfl) (hI := hI) (hp := fun r zr t => ⟨D, ix_up hI hk⟩)
theorem hm_about {T : Int} {w : Wd} {x1 : Int32} (h : JM T w) : pX11_about (fun _ w1 => JM T w1) x1 w := by
  obtain ⟨W, H, P, S, M, hI⟩ := h
  exact sX11_about (tx1 := rfl) (hI := hI) (hp := fun r zr t => ⟨_, _, _, _, _, hI⟩)
