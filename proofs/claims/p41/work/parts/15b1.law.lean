theorem m0 : (Cond.classLink RL 7 RX10) ∈ wsL_law := rin1 _ (List.mem_of_getElem? (i := 0) (by decide +kernel))
theorem m1 : (Cond.instantiable RX10 18) ∈ wsL_law := rin1 _ (List.mem_of_getElem? (i := 1) (by decide +kernel))
theorem m3 : (Cond.classLink RL 10 RX11) ∈ wsL_law := rin1 _ (List.mem_of_getElem? (i := 3) (by decide +kernel))
theorem m4 : (Cond.instantiable RX11 69) ∈ wsL_law := rin1 _ (List.mem_of_getElem? (i := 4) (by decide +kernel))
theorem m6 : (Cond.methodLink RL 9 yX10_init) ∈ wsL_law := rin1 _ (List.mem_of_getElem? (i := 6) (by decide +kernel))
theorem m7 : (Cond.instanceMethod yX10_init) ∈ wsL_law := rin1 _ (List.mem_of_getElem? (i := 7) (by decide +kernel))
theorem m8 : (Cond.code yX10_init cX10_init 2 none) ∈ wsL_law := rin1 _ (List.mem_of_getElem? (i := 8) (by decide +kernel))
theorem m249 : (Cond.methodLink RL 12 yX11_init) ∈ wsL_law := rin11 _ (List.mem_of_getElem? (i := 9) (by decide +kernel))
theorem m250 : (Cond.instanceMethod yX11_init) ∈ wsL_law := rin11 _ (List.mem_of_getElem? (i := 10) (by decide +kernel))
theorem m251 : (Cond.code yX11_init cX11_init 1 none) ∈ wsL_law := rin11 _ (List.mem_of_getElem? (i := 11) (by decide +kernel))
theorem ysX11_init : Ys yX11_init 0 := by decide +kernel
theorem ysX10_init : Ys yX10_init 0 := by decide +kernel
/-! ===== the law: what its start gives ===== -/
theorem bz01 (v : Int32) : bz v = 0 ∨ bz v = 1 := by
  unfold bz
  by_cases h : v = 0
  · rw [if_pos h]; exact Or.inl rfl
  · rw [if_neg h]; exact Or.inr rfl
theorem law_arr {args : Array Value} {s : State} {ty : FieldType} (h : (Cond.arrayClass ty).before args s = true) : ∃ cA : ClassId, ArrOfT s cA ty ∧ s.vm.findClass ("[" ++ ty.toString) = some cA := by
  obtain ⟨c, k, comp, h1, h2, h3⟩ := Cond.arrayClass_spec h
  exact ⟨c, fun n z => ⟨fun _ h => (by cases h), k, h2, comp, h3⟩, h1⟩
theorem law_g {b : Nat} {s : State} (hts : ∀ w ∈ lw_tbl, w.before #[Value.ref b] s = true) : ∃ g : Gw, KW g s := by
  have hw : ∀ w ∈ wsL_law, w.before #[Value.ref b] s = true := fun w h => hts w (wsL_law_in w h)
  obtain ⟨c0, i0, k0⟩ := u_known (C := RX0) (T := TX0) (N := 9) (n := 9) hw inlX0 (hw _ m36)
  obtain ⟨c1, i1, k1⟩ := u_known (C := RX1) (T := TX1) (N := 6) (n := 6) hw inlX1 (hw _ m32)
  obtain ⟨c2, i2, k2⟩ := u_known (C := RX2) (T := TX2) (N := 14) (n := 14) hw inlX2 (hw _ m28)
  obtain ⟨c3, i3, k3⟩ := u_known (C := RX3) (T := TX3) (N := 10) (n := 10) hw inlX3 (hw _ m44)
  obtain ⟨c4, i4, k4⟩ := u_known (C := RX4) (T := TX4) (N := 2) (n := 2) hw inlX4 (hw _ m52)
  obtain ⟨c5, i5, k5⟩ := u_known (C := RX5) (T := TX5) (N := 10) (n := 10) hw inlX5 (hw _ m48)
  obtain ⟨c6, i6, k6⟩ := u_known (C := RX6) (T := TX6) (N := 9) (n := 9) hw inlX6 (hw _ m24)
  obtain ⟨c7, i7, k7⟩ := u_known (C := RX7) (T := TX7) (N := 13) (n := 13) hw inlX7 (hw _ m19)
  obtain ⟨c8, i8, k8⟩ := u_known (C := RX8) (T := TX8) (N := 5) (n := 5) hw inlX8 (hw _ m15)
  obtain ⟨c9, i9, k9⟩ := u_known (C := RX9) (T := TX9) (N := 6) (n := 6) hw inlX9 (hw _ m40)
  obtain ⟨c10, i10, k10⟩ := u_known (C := RX10) (T := TX10) (N := 18) (n := 18) hw inlX10 (hw _ m1)
  obtain ⟨c11, i11, k11⟩ := u_known (C := RX11) (T := TX11) (N := 69) (n := 69) hw inlX11 (hw _ m4)
  obtain ⟨a0, b0, d0⟩ := law_arr (hw _ m58)
  obtain ⟨a1, b1, d1⟩ := law_arr (hw _ m12)
  obtain ⟨a2, b2, d2⟩ := law_arr (hw _ m56)
  obtain ⟨a3, b3, d3⟩ := law_arr (hw _ m67)
  obtain ⟨comp, a4, kA, e1, e2, e3, e4, e5⟩ := Cond.arrayOver_spec (hts _ tq_ao)
  refine ⟨((fun k => if k = 0 then c0 else if k = 1 then c1 else if k = 2 then c2 else if k = 3 then c3 else if k = 4 then c4 else if k = 5 then c5 else if k = 6 then c6 else if k = 7 then c7 else if k = 8 then c8 else if k = 9 then c9 else if k = 10 then c10 else c11, fun k => if k = 0 then i0 else if k = 1 then i1 else if k = 2 then i2 else if k = 3 then i3 else if k = 4 then i4 else if k = 5 then i5 else if k = 6 then i6 else if k = 7 then i7 else if k = 8 then i8 else if k = 9 then i9 else if k = 10 then i10 else i11), (fun k => if k = 0 then a0 else if k = 1 then a1 else if k = 2 then a2 else if k = 3 then a3 else a4), fun _ => 0), ⟨⟨?_, ?_⟩, hts _ tq_n1, hts _ tq_n2, hts _ tq_n3, hts _ tq_n4⟩⟩
  · intro k q hq
    match k, hq with
    | 0, hq => cases hq; exact k0
    | 1, hq => cases hq; exact k1
    | 2, hq => cases hq; exact k2
    | 3, hq => cases hq; exact k3
    | 4, hq => cases hq; exact k4
    | 5, hq => cases hq; exact k5
    | 6, hq => cases hq; exact k6
    | 7, hq => cases hq; exact k7
    | 8, hq => cases hq; exact k8
    | 9, hq => cases hq; exact k9
    | 10, hq => cases hq; exact k10
    | 11, hq => cases hq; exact k11
    | k + 12, hq => simp [vwCl] at hq
  · intro k q hq
    match k, hq with
    | 0, hq => cases hq; exact ⟨b0, d0⟩
    | 1, hq => cases hq; exact ⟨b1, d1⟩
    | 2, hq => cases hq; exact ⟨b2, d2⟩
    | 3, hq => cases hq; exact ⟨b3, d3⟩
    | 4, hq => cases hq; exact ⟨fun n z => ⟨fun _ h => (by cases h), kA, e3, comp, e4⟩, ⟨kA, comp, e3, e4, e1, e5⟩⟩
    | k + 5, hq => simp [tyl] at hq
