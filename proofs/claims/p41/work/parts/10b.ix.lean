/-! ===== what holds of the class between calls and at every call inside ===== -/
def Rg (x : Int32) (a b : Int) : Prop := a ≤ x.toInt ∧ x.toInt ≤ b
theorem Rg.g {x : Int32} {a b z : Int} (h : Rg x a b) (t : Ti x z) : a ≤ z ∧ z ≤ b := by
  have t : x.toInt = z := t
  rw [← t]; exact h
theorem Rg.m {x : Int32} {a b z : Int} (t : Ti x z) (h1 : a ≤ z) (h2 : z ≤ b) : Rg x a b := by
  have t : x.toInt = z := t
  unfold Rg; rw [t]; exact ⟨h1, h2⟩
def IX (k : Nat) (T D : Int) (w : Wd) : Prop := (k ≤ 1000 ∧ 0 ≤ D ∧ D ≤ 40) ∧ Rg (w.1 0 13) 0 1600 ∧ Rg (w.1 20 3) 0 1602 ∧ (w.1 50 7).toInt = D ∧ Rg (w.1 70 0) 0 40 ∧ (w.1 70 1).toInt = T ∧ Rg (w.1 90 0) 0 7 ∧ Rg (w.1 60 4) 0 4096 ∧ Rg (w.1 110 1) 0 16 ∧ (∀ b : Bool, Rg (w.1 (rl b) 0) 1 12 ∧ Rg (w.1 (rl b) 2) 0 4 ∧ Rg (w.1 (rl b) 9) 0 1600) ∧ (∀ c : Nat, Rg (w.1 (160 + 20 * c) 0) (-(k : Int)) 24 ∧ Rg (w.1 (160 + 20 * c) 6) (-(k : Int)) 40) ∧ (∀ i : Nat, Rg (w.2.1 98 i) (-1) 6)
theorem ix_k {k : Nat} {T D : Int} {w : Wd} (h : IX k T D w) : (k : Int) ≤ 1000 ∧ 0 ≤ D ∧ D ≤ 40 := ⟨by have := h.1.1; omega, h.1.2⟩
theorem ixg_0_13 {k : Nat} {T D : Int} {w : Wd} {z : Int} (h : IX k T D w) (t : Ti (w.1 0 13) z) : 0 ≤ z ∧ z ≤ 1600 := Rg.g h.2.1 t
theorem ixs_0_13 {k : Nat} {T D : Int} {w w9 : Wd} {v : Int32} {z : Int} (h : IX k T D w) (e : w9 = sI w 0 13 v) (t : Ti v z) (h1 : 0 ≤ z) (h2 : z ≤ 1600) : IX k T D w9 := by
  obtain ⟨a0, a1, a2, a3, a4, a5, a6, a7, a8, a9, a10, a11⟩ := h
  subst e
  refine ⟨a0, ?_, ?_, ?_, ?_, ?_, ?_, ?_, ?_, ?_, ?_, ?_⟩
  · rw [sI_at]; exact Rg.m t h1 h2
  · rw [sI_ne (by omega)]; exact a2
  · rw [sI_ne (by omega)]; exact a3
  · rw [sI_ne (by omega)]; exact a4
  · rw [sI_ne (by omega)]; exact a5
  · rw [sI_ne (by omega)]; exact a6
  · rw [sI_ne (by omega)]; exact a7
  · rw [sI_ne (by omega)]; exact a8
  · intro b
    have q := rl_or b
    rw [sI_ne (by omega), sI_ne (by omega), sI_ne (by omega)]; exact a9 b
  · intro c
    rw [sI_ne (by omega), sI_ne (by omega)]; exact a10 c
  · exact a11
theorem ixg_20_3 {k : Nat} {T D : Int} {w : Wd} {z : Int} (h : IX k T D w) (t : Ti (w.1 20 3) z) : 0 ≤ z ∧ z ≤ 1602 := Rg.g h.2.2.1 t
theorem ixs_20_3 {k : Nat} {T D : Int} {w w9 : Wd} {v : Int32} {z : Int} (h : IX k T D w) (e : w9 = sI w 20 3 v) (t : Ti v z) (h1 : 0 ≤ z) (h2 : z ≤ 1602) : IX k T D w9 := by
  obtain ⟨a0, a1, a2, a3, a4, a5, a6, a7, a8, a9, a10, a11⟩ := h
  subst e
  refine ⟨a0, ?_, ?_, ?_, ?_, ?_, ?_, ?_, ?_, ?_, ?_, ?_⟩
  · rw [sI_ne (by omega)]; exact a1
  · rw [sI_at]; exact Rg.m t h1 h2
  · rw [sI_ne (by omega)]; exact a3
  · rw [sI_ne (by omega)]; exact a4
  · rw [sI_ne (by omega)]; exact a5
  · rw [sI_ne (by omega)]; exact a6
  · rw [sI_ne (by omega)]; exact a7
  · rw [sI_ne (by omega)]; exact a8
  · intro b
    have q := rl_or b
    rw [sI_ne (by omega), sI_ne (by omega), sI_ne (by omega)]; exact a9 b
  · intro c
    rw [sI_ne (by omega), sI_ne (by omega)]; exact a10 c
  · exact a11
theorem ixg_70_0 {k : Nat} {T D : Int} {w : Wd} {z : Int} (h : IX k T D w) (t : Ti (w.1 70 0) z) : 0 ≤ z ∧ z ≤ 40 := Rg.g h.2.2.2.2.1 t
theorem ixs_70_0 {k : Nat} {T D : Int} {w w9 : Wd} {v : Int32} {z : Int} (h : IX k T D w) (e : w9 = sI w 70 0 v) (t : Ti v z) (h1 : 0 ≤ z) (h2 : z ≤ 40) : IX k T D w9 := by
  obtain ⟨a0, a1, a2, a3, a4, a5, a6, a7, a8, a9, a10, a11⟩ := h
  subst e
  refine ⟨a0, ?_, ?_, ?_, ?_, ?_, ?_, ?_, ?_, ?_, ?_, ?_⟩
  · rw [sI_ne (by omega)]; exact a1
  · rw [sI_ne (by omega)]; exact a2
  · rw [sI_ne (by omega)]; exact a3
  · rw [sI_at]; exact Rg.m t h1 h2
  · rw [sI_ne (by omega)]; exact a5
  · rw [sI_ne (by omega)]; exact a6
  · rw [sI_ne (by omega)]; exact a7
  · rw [sI_ne (by omega)]; exact a8
  · intro b
    have q := rl_or b
    rw [sI_ne (by omega), sI_ne (by omega), sI_ne (by omega)]; exact a9 b
  · intro c
    rw [sI_ne (by omega), sI_ne (by omega)]; exact a10 c
  · exact a11
theorem ixg_90_0 {k : Nat} {T D : Int} {w : Wd} {z : Int} (h : IX k T D w) (t : Ti (w.1 90 0) z) : 0 ≤ z ∧ z ≤ 7 := Rg.g h.2.2.2.2.2.2.1 t
theorem ixs_90_0 {k : Nat} {T D : Int} {w w9 : Wd} {v : Int32} {z : Int} (h : IX k T D w) (e : w9 = sI w 90 0 v) (t : Ti v z) (h1 : 0 ≤ z) (h2 : z ≤ 7) : IX k T D w9 := by
  obtain ⟨a0, a1, a2, a3, a4, a5, a6, a7, a8, a9, a10, a11⟩ := h
  subst e
  refine ⟨a0, ?_, ?_, ?_, ?_, ?_, ?_, ?_, ?_, ?_, ?_, ?_⟩
  · rw [sI_ne (by omega)]; exact a1
  · rw [sI_ne (by omega)]; exact a2
  · rw [sI_ne (by omega)]; exact a3
  · rw [sI_ne (by omega)]; exact a4
  · rw [sI_ne (by omega)]; exact a5
  · rw [sI_at]; exact Rg.m t h1 h2
  · rw [sI_ne (by omega)]; exact a7
  · rw [sI_ne (by omega)]; exact a8
  · intro b
    have q := rl_or b
    rw [sI_ne (by omega), sI_ne (by omega), sI_ne (by omega)]; exact a9 b
  · intro c
    rw [sI_ne (by omega), sI_ne (by omega)]; exact a10 c
  · exact a11
theorem ixg_60_4 {k : Nat} {T D : Int} {w : Wd} {z : Int} (h : IX k T D w) (t : Ti (w.1 60 4) z) : 0 ≤ z ∧ z ≤ 4096 := Rg.g h.2.2.2.2.2.2.2.1 t
theorem ixs_60_4 {k : Nat} {T D : Int} {w w9 : Wd} {v : Int32} {z : Int} (h : IX k T D w) (e : w9 = sI w 60 4 v) (t : Ti v z) (h1 : 0 ≤ z) (h2 : z ≤ 4096) : IX k T D w9 := by
  obtain ⟨a0, a1, a2, a3, a4, a5, a6, a7, a8, a9, a10, a11⟩ := h
  subst e
  refine ⟨a0, ?_, ?_, ?_, ?_, ?_, ?_, ?_, ?_, ?_, ?_, ?_⟩
  · rw [sI_ne (by omega)]; exact a1
  · rw [sI_ne (by omega)]; exact a2
  · rw [sI_ne (by omega)]; exact a3
  · rw [sI_ne (by omega)]; exact a4
  · rw [sI_ne (by omega)]; exact a5
  · rw [sI_ne (by omega)]; exact a6
  · rw [sI_at]; exact Rg.m t h1 h2
  · rw [sI_ne (by omega)]; exact a8
  · intro b
    have q := rl_or b
    rw [sI_ne (by omega), sI_ne (by omega), sI_ne (by omega)]; exact a9 b
  · intro c
    rw [sI_ne (by omega), sI_ne (by omega)]; exact a10 c
  · exact a11
theorem ixg_110_1 {k : Nat} {T D : Int} {w : Wd} {z : Int} (h : IX k T D w) (t : Ti (w.1 110 1) z) : 0 ≤ z ∧ z ≤ 16 := Rg.g h.2.2.2.2.2.2.2.2.1 t
theorem ixs_110_1 {k : Nat} {T D : Int} {w w9 : Wd} {v : Int32} {z : Int} (h : IX k T D w) (e : w9 = sI w 110 1 v) (t : Ti v z) (h1 : 0 ≤ z) (h2 : z ≤ 16) : IX k T D w9 := by
  obtain ⟨a0, a1, a2, a3, a4, a5, a6, a7, a8, a9, a10, a11⟩ := h
  subst e
  refine ⟨a0, ?_, ?_, ?_, ?_, ?_, ?_, ?_, ?_, ?_, ?_, ?_⟩
  · rw [sI_ne (by omega)]; exact a1
  · rw [sI_ne (by omega)]; exact a2
  · rw [sI_ne (by omega)]; exact a3
  · rw [sI_ne (by omega)]; exact a4
  · rw [sI_ne (by omega)]; exact a5
  · rw [sI_ne (by omega)]; exact a6
  · rw [sI_ne (by omega)]; exact a7
  · rw [sI_at]; exact Rg.m t h1 h2
  · intro b
    have q := rl_or b
    rw [sI_ne (by omega), sI_ne (by omega), sI_ne (by omega)]; exact a9 b
  · intro c
    rw [sI_ne (by omega), sI_ne (by omega)]; exact a10 c
  · exact a11
theorem ixg_50_7 {k : Nat} {T D : Int} {w : Wd} {z : Int} (h : IX k T D w) (t : Ti (w.1 50 7) z) : z = D := (show _ = z from t).symm.trans h.2.2.2.1
theorem ixg_70_1 {k : Nat} {T D : Int} {w : Wd} {z : Int} (h : IX k T D w) (t : Ti (w.1 70 1) z) : z = T := (show _ = z from t).symm.trans h.2.2.2.2.2.1
theorem ixs_50_7 {k : Nat} {T D : Int} {w w9 : Wd} {v : Int32} {z : Int} (h : IX k T D w) (e : w9 = sI w 50 7 v) (t : Ti v z) (h1 : 0 ≤ z) (h2 : z ≤ 40) : IX k T z w9 := by
  obtain ⟨a0, a1, a2, a3, a4, a5, a6, a7, a8, a9, a10, a11⟩ := h
  subst e
  refine ⟨⟨a0.1, h1, h2⟩, ?_, ?_, ?_, ?_, ?_, ?_, ?_, ?_, ?_, ?_, ?_⟩
  · rw [sI_ne (by omega)]; exact a1
  · rw [sI_ne (by omega)]; exact a2
  · rw [sI_at]; exact t
  · rw [sI_ne (by omega)]; exact a4
  · rw [sI_ne (by omega)]; exact a5
  · rw [sI_ne (by omega)]; exact a6
  · rw [sI_ne (by omega)]; exact a7
  · rw [sI_ne (by omega)]; exact a8
  · intro b
    have q := rl_or b
    rw [sI_ne (by omega), sI_ne (by omega), sI_ne (by omega)]; exact a9 b
  · intro c
    rw [sI_ne (by omega), sI_ne (by omega)]; exact a10 c
  · exact a11
theorem ixs_70_1 {k : Nat} {T D : Int} {w w9 : Wd} {v : Int32} {z : Int} (h : IX k T D w) (e : w9 = sI w 70 1 v) (t : Ti v z) : IX k z D w9 := by
  obtain ⟨a0, a1, a2, a3, a4, a5, a6, a7, a8, a9, a10, a11⟩ := h
  subst e
  refine ⟨a0, ?_, ?_, ?_, ?_, ?_, ?_, ?_, ?_, ?_, ?_, ?_⟩
  · rw [sI_ne (by omega)]; exact a1
  · rw [sI_ne (by omega)]; exact a2
  · rw [sI_ne (by omega)]; exact a3
  · rw [sI_ne (by omega)]; exact a4
  · rw [sI_at]; exact t
  · rw [sI_ne (by omega)]; exact a6
  · rw [sI_ne (by omega)]; exact a7
  · rw [sI_ne (by omega)]; exact a8
  · intro b
    have q := rl_or b
    rw [sI_ne (by omega), sI_ne (by omega), sI_ne (by omega)]; exact a9 b
  · intro c
    rw [sI_ne (by omega), sI_ne (by omega)]; exact a10 c
  · exact a11
theorem ixg_r0 {k : Nat} {T D : Int} {w : Wd} {b : Bool} {z : Int} (h : IX k T D w) (t : Ti (w.1 (rl b) 0) z) : 1 ≤ z ∧ z ≤ 12 := Rg.g (h.2.2.2.2.2.2.2.2.2.1 b).1 t
theorem ixs_r0 {k : Nat} {T D : Int} {w w9 : Wd} {v : Int32} {z : Int} {b : Bool} (h : IX k T D w) (e : w9 = sI w (rl b) 0 v) (t : Ti v z) (h1 : 1 ≤ z) (h2 : z ≤ 12) : IX k T D w9 := by
  have q := rl_or b
  obtain ⟨a0, a1, a2, a3, a4, a5, a6, a7, a8, a9, a10, a11⟩ := h
  subst e
  refine ⟨a0, ?_, ?_, ?_, ?_, ?_, ?_, ?_, ?_, ?_, ?_, ?_⟩
  · rw [sI_ne (by omega)]; exact a1
  · rw [sI_ne (by omega)]; exact a2
  · rw [sI_ne (by omega)]; exact a3
  · rw [sI_ne (by omega)]; exact a4
  · rw [sI_ne (by omega)]; exact a5
  · rw [sI_ne (by omega)]; exact a6
  · rw [sI_ne (by omega)]; exact a7
  · rw [sI_ne (by omega)]; exact a8
  · intro b1
    have q1 := rl_or b1
    by_cases z9 : rl b1 = rl b
    · rw [z9]
      have z2 : b1 = b := by cases b1 <;> cases b <;> simp [rl] at z9 ⊢
      subst z2
      refine ⟨by rw [sI_at]; exact Rg.m t h1 h2, by rw [sI_ne (by omega)]; exact (a9 b1).2.1, by rw [sI_ne (by omega)]; exact (a9 b1).2.2⟩
    · rw [sI_ne (by omega), sI_ne (by omega), sI_ne (by omega)]; exact a9 b1
  · intro c
    rw [sI_ne (by omega), sI_ne (by omega)]; exact a10 c
  · exact a11
theorem ixg_r2 {k : Nat} {T D : Int} {w : Wd} {b : Bool} {z : Int} (h : IX k T D w) (t : Ti (w.1 (rl b) 2) z) : 0 ≤ z ∧ z ≤ 4 := Rg.g (h.2.2.2.2.2.2.2.2.2.1 b).2.1 t
theorem ixs_r2 {k : Nat} {T D : Int} {w w9 : Wd} {v : Int32} {z : Int} {b : Bool} (h : IX k T D w) (e : w9 = sI w (rl b) 2 v) (t : Ti v z) (h1 : 0 ≤ z) (h2 : z ≤ 4) : IX k T D w9 := by
  have q := rl_or b
  obtain ⟨a0, a1, a2, a3, a4, a5, a6, a7, a8, a9, a10, a11⟩ := h
  subst e
  refine ⟨a0, ?_, ?_, ?_, ?_, ?_, ?_, ?_, ?_, ?_, ?_, ?_⟩
  · rw [sI_ne (by omega)]; exact a1
  · rw [sI_ne (by omega)]; exact a2
  · rw [sI_ne (by omega)]; exact a3
  · rw [sI_ne (by omega)]; exact a4
  · rw [sI_ne (by omega)]; exact a5
  · rw [sI_ne (by omega)]; exact a6
  · rw [sI_ne (by omega)]; exact a7
  · rw [sI_ne (by omega)]; exact a8
  · intro b1
    have q1 := rl_or b1
    by_cases z9 : rl b1 = rl b
    · rw [z9]
      have z2 : b1 = b := by cases b1 <;> cases b <;> simp [rl] at z9 ⊢
      subst z2
      refine ⟨by rw [sI_ne (by omega)]; exact (a9 b1).1, by rw [sI_at]; exact Rg.m t h1 h2, by rw [sI_ne (by omega)]; exact (a9 b1).2.2⟩
    · rw [sI_ne (by omega), sI_ne (by omega), sI_ne (by omega)]; exact a9 b1
  · intro c
    rw [sI_ne (by omega), sI_ne (by omega)]; exact a10 c
  · exact a11
theorem ixg_r9 {k : Nat} {T D : Int} {w : Wd} {b : Bool} {z : Int} (h : IX k T D w) (t : Ti (w.1 (rl b) 9) z) : 0 ≤ z ∧ z ≤ 1600 := Rg.g (h.2.2.2.2.2.2.2.2.2.1 b).2.2 t
theorem ixs_r9 {k : Nat} {T D : Int} {w w9 : Wd} {v : Int32} {z : Int} {b : Bool} (h : IX k T D w) (e : w9 = sI w (rl b) 9 v) (t : Ti v z) (h1 : 0 ≤ z) (h2 : z ≤ 1600) : IX k T D w9 := by
  have q := rl_or b
  obtain ⟨a0, a1, a2, a3, a4, a5, a6, a7, a8, a9, a10, a11⟩ := h
  subst e
  refine ⟨a0, ?_, ?_, ?_, ?_, ?_, ?_, ?_, ?_, ?_, ?_, ?_⟩
  · rw [sI_ne (by omega)]; exact a1
  · rw [sI_ne (by omega)]; exact a2
  · rw [sI_ne (by omega)]; exact a3
  · rw [sI_ne (by omega)]; exact a4
  · rw [sI_ne (by omega)]; exact a5
  · rw [sI_ne (by omega)]; exact a6
  · rw [sI_ne (by omega)]; exact a7
  · rw [sI_ne (by omega)]; exact a8
  · intro b1
    have q1 := rl_or b1
    by_cases z9 : rl b1 = rl b
    · rw [z9]
      have z2 : b1 = b := by cases b1 <;> cases b <;> simp [rl] at z9 ⊢
      subst z2
      refine ⟨by rw [sI_ne (by omega)]; exact (a9 b1).1, by rw [sI_ne (by omega)]; exact (a9 b1).2.1, by rw [sI_at]; exact Rg.m t h1 h2⟩
    · rw [sI_ne (by omega), sI_ne (by omega), sI_ne (by omega)]; exact a9 b1
  · intro c
    rw [sI_ne (by omega), sI_ne (by omega)]; exact a10 c
  · exact a11
theorem ixg_c0 {k : Nat} {T D : Int} {w : Wd} {z : Int} (h : IX k T D w) (t : Ti (w.1 160 0) z) : -(k : Int) ≤ z ∧ z ≤ 24 := Rg.g (h.2.2.2.2.2.2.2.2.2.2.1 0).1 t
theorem ixs_c0 {k : Nat} {T D : Int} {w w9 : Wd} {v : Int32} {z : Int} {c : Nat} (h : IX k T D w) (e : w9 = sI w (160 + 20 * c) 0 v) (t : Ti v z) (h1 : -(k : Int) ≤ z) (h2 : z ≤ 24) : IX k T D w9 := by
  obtain ⟨a0, a1, a2, a3, a4, a5, a6, a7, a8, a9, a10, a11⟩ := h
  subst e
  refine ⟨a0, ?_, ?_, ?_, ?_, ?_, ?_, ?_, ?_, ?_, ?_, ?_⟩
  · rw [sI_ne (by omega)]; exact a1
  · rw [sI_ne (by omega)]; exact a2
  · rw [sI_ne (by omega)]; exact a3
  · rw [sI_ne (by omega)]; exact a4
  · rw [sI_ne (by omega)]; exact a5
  · rw [sI_ne (by omega)]; exact a6
  · rw [sI_ne (by omega)]; exact a7
  · rw [sI_ne (by omega)]; exact a8
  · intro b
    have q := rl_or b
    rw [sI_ne (by omega), sI_ne (by omega), sI_ne (by omega)]; exact a9 b
  · intro c1
    by_cases z9 : c1 = c
    · subst z9
      refine ⟨by rw [sI_at]; exact Rg.m t h1 h2, by rw [sI_ne (by omega)]; exact (a10 c1).2⟩
    · rw [sI_ne (by omega), sI_ne (by omega)]; exact a10 c1
  · exact a11
theorem ixg_c6 {k : Nat} {T D : Int} {w : Wd} {z : Int} (h : IX k T D w) (t : Ti (w.1 160 6) z) : -(k : Int) ≤ z ∧ z ≤ 40 := Rg.g (h.2.2.2.2.2.2.2.2.2.2.1 0).2 t
theorem ixs_c6 {k : Nat} {T D : Int} {w w9 : Wd} {v : Int32} {z : Int} {c : Nat} (h : IX k T D w) (e : w9 = sI w (160 + 20 * c) 6 v) (t : Ti v z) (h1 : -(k : Int) ≤ z) (h2 : z ≤ 40) : IX k T D w9 := by
  obtain ⟨a0, a1, a2, a3, a4, a5, a6, a7, a8, a9, a10, a11⟩ := h
  subst e
  refine ⟨a0, ?_, ?_, ?_, ?_, ?_, ?_, ?_, ?_, ?_, ?_, ?_⟩
  · rw [sI_ne (by omega)]; exact a1
  · rw [sI_ne (by omega)]; exact a2
  · rw [sI_ne (by omega)]; exact a3
  · rw [sI_ne (by omega)]; exact a4
  · rw [sI_ne (by omega)]; exact a5
  · rw [sI_ne (by omega)]; exact a6
  · rw [sI_ne (by omega)]; exact a7
  · rw [sI_ne (by omega)]; exact a8
  · intro b
    have q := rl_or b
    rw [sI_ne (by omega), sI_ne (by omega), sI_ne (by omega)]; exact a9 b
  · intro c1
    by_cases z9 : c1 = c
    · subst z9
      refine ⟨by rw [sI_ne (by omega)]; exact (a10 c1).1, by rw [sI_at]; exact Rg.m t h1 h2⟩
    · rw [sI_ne (by omega), sI_ne (by omega)]; exact a10 c1
  · exact a11
def nX (o f : Nat) : Prop := ¬ (o = 0 ∧ f = 13) ∧ ¬ (o = 20 ∧ f = 3) ∧ ¬ (o = 50 ∧ f = 7) ∧ ¬ (o = 70 ∧ f ≤ 1) ∧ ¬ (o = 90 ∧ f = 0) ∧ ¬ (o = 60 ∧ f = 4) ∧ ¬ (o = 110 ∧ f = 1) ∧ ¬ ((o = 120 ∨ o = 140) ∧ (f = 0 ∨ f = 2 ∨ f = 9)) ∧ ¬ (160 ≤ o ∧ (f = 0 ∨ f = 6))
theorem ixs_n {k : Nat} {T D : Int} {w w9 : Wd} {v : Int32} {o f : Nat} (h : IX k T D w) (e : w9 = sI w o f v) (hn : nX o f) : IX k T D w9 := by
  obtain ⟨n1, n2, n3, n4, n5, n6, n7, n8, n9⟩ := hn
  obtain ⟨a0, a1, a2, a3, a4, a5, a6, a7, a8, a9, a10, a11⟩ := h
  subst e
  refine ⟨a0, ?_, ?_, ?_, ?_, ?_, ?_, ?_, ?_, ?_, ?_, ?_⟩
  · rw [sI_ne (by omega)]; exact a1
  · rw [sI_ne (by omega)]; exact a2
  · rw [sI_ne (by omega)]; exact a3
  · rw [sI_ne (by omega)]; exact a4
  · rw [sI_ne (by omega)]; exact a5
  · rw [sI_ne (by omega)]; exact a6
  · rw [sI_ne (by omega)]; exact a7
  · rw [sI_ne (by omega)]; exact a8
  · intro b
    have q := rl_or b
    rw [sI_ne (by omega), sI_ne (by omega), sI_ne (by omega)]; exact a9 b
  · intro c
    rw [sI_ne (by omega), sI_ne (by omega)]; exact a10 c
  · exact a11
theorem ix_1 {k : Nat} {T D : Int} {w w1 : Wd} (h : IX k T D w) (e1 : w1.1 = w.1) (e2 : w1.2.1 98 = w.2.1 98) : IX k T D w1 := by
  obtain ⟨a0, a1, a2, a3, a4, a5, a6, a7, a8, a9, a10, a11⟩ := h
  refine ⟨a0, ?_, ?_, ?_, ?_, ?_, ?_, ?_, ?_, ?_, ?_, ?_⟩
  all_goals (try rw [e1])
  · exact a1
  · exact a2
  · exact a3
  · exact a4
  · exact a5
  · exact a6
  · exact a7
  · exact a8
  · exact a9
  · exact a10
  · intro i; rw [e2]; exact a11 i
theorem ixs_A {k : Nat} {T D : Int} {w w9 : Wd} {v : Int32} {o i : Nat} (h : IX k T D w) (e : w9 = sA w o i v) (ho : 98 ≠ o) : IX k T D w9 := ix_1 h (by rw [e]; rfl) (by rw [e]; exact sA_ne ho)
theorem ixs_C {k : Nat} {T D : Int} {w w9 : Wd} {g : Nat → Int32} {o : Nat} (h : IX k T D w) (e : w9 = sC w o g) (ho : 98 ≠ o) : IX k T D w9 := ix_1 h (by rw [e]; rfl) (by rw [e]; exact sC_ne ho)
theorem ixs_J {k : Nat} {T D : Int} {w w9 : Wd} {v : Int64} {o i : Nat} (h : IX k T D w) (e : w9 = sJ w o i v) : IX k T D w9 := ix_1 h (by rw [e]; rfl) (by rw [e]; rfl)
theorem ixs_B {k : Nat} {T D : Int} {w w9 : Wd} {v : Int64} {o i : Nat} (h : IX k T D w) (e : w9 = sB w o i v) : IX k T D w9 := ix_1 h (by rw [e]; rfl) (by rw [e]; rfl)
theorem ixs_R {k : Nat} {T D : Int} {w w9 : Wd} {v : Bool} {o : Nat} (h : IX k T D w) (e : w9 = sR w o v) : IX k T D w9 := ix_1 h (by rw [e]; rfl) (by rw [e]; rfl)
theorem ixg_98 {k : Nat} {T D : Int} {w : Wd} {i : Nat} {z : Int} (h : IX k T D w) (t : Ti (w.2.1 98 i) z) : -1 ≤ z ∧ z ≤ 6 := Rg.g (h.2.2.2.2.2.2.2.2.2.2.2 i) t
theorem ixs_98 {k : Nat} {T D : Int} {w w9 : Wd} {v : Int32} {z : Int} {i : Nat} (h : IX k T D w) (e : w9 = sA w 98 i v) (t : Ti v z) (h1 : -1 ≤ z) (h2 : z ≤ 6) : IX k T D w9 := by
  subst e
  obtain ⟨a0, a1, a2, a3, a4, a5, a6, a7, a8, a9, a10, a11⟩ := h
  refine ⟨a0, a1, a2, a3, a4, a5, a6, a7, a8, a9, a10, ?_⟩
  intro j
  rw [sA_eq]
  by_cases z9 : j = i
  · rw [z9, pk_us]; exact Rg.m t h1 h2
  · rw [pk_un z9]; exact a11 j
theorem ix_up {k : Nat} {T D : Int} {w : Wd} (h : IX k T D w) (hk : k < 1000) : IX (k + 1) T D w := by
  obtain ⟨a0, a1, a2, a3, a4, a5, a6, a7, a8, a9, a10, a11⟩ := h
  refine ⟨⟨by omega, a0.2⟩, a1, a2, a3, a4, a5, a6, a7, a8, a9, ?_, a11⟩
  intro c
  obtain ⟨⟨b1, b2⟩, b3, b4⟩ := a10 c
  exact ⟨⟨by omega, b2⟩, by omega, b4⟩
