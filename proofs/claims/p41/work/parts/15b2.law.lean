def sBy : List Int32 := [109, 97, 114, 107, 32, 104, 97, 115, 32, 108, 101, 102, 116, 32, 114, 105, 103, 104, 116, 32, 109, 97, 110, 121, 32, 121, 101, 97, 114, 32, 104, 101, 97, 116, 32, 100, 114, 97, 119, 32, 109, 97, 114, 107, 115, 32, 102, 105, 114, 115, 116, 32, 104, 97, 110, 100, 32, 119, 101, 97, 114, 115, 32, 102, 105, 108, 108, 115, 32, 119, 97, 120, 32, 111, 114, 32, 97, 110, 100, 32, 110, 111, 116, 32]
abbrev sTm : Term := .string "SealCasts$Tokens" 25
abbrev sVl : Term := .field sTm "java/lang/String" "value" "[B"
set_option maxRecDepth 100000 in
theorem law_el : ∀ j : Nat, j < 84 → (Cond.eq (.elem sVl (.int (Int32.ofNat j))) (.int (sBy.getD j 0))) ∈ flatC (Jvm.Cond.and given_1 narrow_1) := by decide +kernel
set_option maxRecDepth 100000 in
theorem law_s1 : (Cond.exactly sTm "java/lang/String") ∈ flatC (Jvm.Cond.and given_1 narrow_1) ∧ (Cond.eq (.field sTm "java/lang/String" "coder" "B") (.int 0)) ∈ flatC (Jvm.Cond.and given_1 narrow_1) ∧ (Cond.arrayOf sVl .byte) ∈ flatC (Jvm.Cond.and given_1 narrow_1) ∧ (Cond.eq (.length sVl) (.int (Int32.ofNat 84))) ∈ flatC (Jvm.Cond.and given_1 narrow_1) ∧ (Cond.eq (.static "java/lang/String" "COMPACT_STRINGS" "Z") (.int 1)) ∈ flatC (Jvm.Cond.and given_1 narrow_1) ∧ (Cond.isRef (.static "jdk/internal/util/Preconditions" "SIOOBE_FORMATTER" "Ljava/util/function/BiFunction;")) ∈ flatC (Jvm.Cond.and given_1 narrow_1) := by decide +kernel
set_option maxRecDepth 100000 in
theorem law_s2 : (Cond.laysStatic "java/lang/String" "COMPACT_STRINGS" "Z") ∈ lw_tbl ∧ (Cond.initialized "java/lang/String") ∈ lw_tbl ∧ (Cond.laysStatic "jdk/internal/util/Preconditions" "SIOOBE_FORMATTER" "Ljava/util/function/BiFunction;") ∈ lw_tbl ∧ (Cond.initialized "jdk/internal/util/Preconditions") ∈ lw_tbl := ⟨tin1 _ (List.mem_of_getElem? (i := 44) (by decide +kernel)), tin1 _ (List.mem_of_getElem? (i := 3) (by decide +kernel)), tin1 _ (List.mem_of_getElem? (i := 60) (by decide +kernel)), tin1 _ (List.mem_of_getElem? (i := 5) (by decide +kernel))⟩
theorem law_str {b : Nat} {s : State} {A : Nat → Prop} (hts : ∀ w ∈ lw_tbl, w.before #[Value.ref b] s = true) (hgv : (Jvm.Cond.and given_1 narrow_1).before #[Value.ref b] s = true) (hA : ∀ a : Nat, a < s.heap.size → ¬ A a) : ∃ q v : Nat, Sx q v A s s.heap ∧ vk_R RX8 25 sTx q s := by
  have hs := flat_of_before _ hgv
  obtain ⟨m1, m2, m3, m4, m5, m6⟩ := law_s1
  obtain ⟨z1, z2, z3, z4⟩ := law_s2
  obtain ⟨a, c, cA, kA, q1, q2, q3, q4, q5, q6, -⟩ := Cond.exactly_spec (args := #[Value.ref b]) (first := s) (o := none) (s := s) (idx := []) (t := sTm) (cls := "java/lang/String") (hs _ m1)
  obtain ⟨t, ht, hT⟩ := va_Tof (f := fun j => .int (sBy.getD j 0)) (A := A) (by decide) (hs _ m3) (va_eqt (hs _ m4)) (fun j hj => va_eqt (hs _ (law_el j hj))) hA
  exact ⟨a, t, ⟨⟨cA, q3, q5, by rw [q6]; exact q2, hA a (Array.getElem?_eq_some_iff.mp q3).1⟩, vk_OFof q1 (va_eqt (hs _ m2)) hA, vk_OFof q1 ht hA, ⟨fun j => sBy.getD j 0, hT⟩, va_Zof (hts _ z1) (hts _ z2) (va_eqt (hs _ m5)) hA, va_Zqof (hts _ z3) (hts _ z4) (hs _ m6) hA⟩, vk_R.of (hts _ tq_sr) q1⟩
