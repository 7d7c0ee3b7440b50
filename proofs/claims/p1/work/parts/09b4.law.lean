set_option maxHeartbeats 1000000 in
set_option maxRecDepth 100000 in
theorem law_go {p : Program} {l : Launch} {e : Env} {s : State} {m : MethodId} {below : List Frame} {meth : Method} {c : Code} {H : Heap} {locs : List Loc} {ls : Array Slot} {b L : Nat} {xs : Nat → Int32} {g : Gw} {ad ad2 : Nat → Nat} {w : Wd} (hL : L ≤ 6) (hr : meth.sig.returnType = ret) (hlocks : meth.locks = false) (hC : Cx p s m #[Value.ref b] c cL_law RL 4 g) (hX : va_X b L xs s s.heap) (hbl : b < s.heap.size) (hP : va_P g.1 vwCl (wsW tabX (g.1, g.2.1, ad) w ++ wsW tabM (g.1, g.2.1, ad2) wFM) H) (hD : va_D (fun q : Nat => s.heap.size ≤ q) (wsW tabX (g.1, g.2.1, ad) w ++ wsW tabM (g.1, g.2.1, ad2) wFM)) (hFX : FX w) (hS : va_S (fun q : Nat => s.heap.size ≤ q) s.heap H locs) (hl : lv_has ls 4 [(3, .int (nI 0)), (2, .ref (ad2 300)), (1, .ref (ad 0)), (0, .ref b)]) : W p l e room_1 s m #[Value.ref b] below meth c H locs 134 142488 (lw_Z below #[Value.ref b] s) (F0 m 18 ls []) := by
  have hx := hC.1
  have hb := hC.2.1
  have hA : ∀ q : Nat, s.heap.size ≤ q → (fun q : Nat => s.heap.size ≤ q) q := fun _ h => h
  have hbA : ¬ (fun q : Nat => s.heap.size ≤ q) b := Nat.not_le.mpr hbl
  refine lv_iload_n hx hb dL_law_18 rfl (lv_at hl 0 rfl) ?_
  refine lv_aload_n hx hb dL_law_19 rfl (lv_at hl 3 rfl) ?_
  refine va_slen hx hb hX hbl hbA hS dL_law_20 ?_
  refine lv_bipush (v := nI 6) hx hb dL_law_21 (by decide) ?_
  refine lv_isub hx hb dL_law_23 ?_
  by_cases h6 : L = 6
  · subst h6
    refine lv_icmp_gt (tgt := 2081) hx hb dL_law_24 (by decide) (fun z => absurd z (by decide)) (fun _ => ?_)
    refine lv_aload_n hx hb dL_law_27 rfl (lv_at hl 3 rfl) ?_
    refine lv_iload_n hx hb dL_law_28 rfl (lv_at hl 0 rfl) ?_
    refine va_sld hx hb hX hbl hbA hS (vp_in_nI (by decide) (by decide)) dL_law_29 ?_
    rw [show (nI 0).toNatClampNeg = 0 from nI_clamp (by decide)]
    refine lv_bipush (v := nI 63) hx hb dL_law_30 (by decide) ?_
    refine lv_iand hx hb dL_law_32 ?_
    have hC1 : Cx p s m #[Value.ref b] c cL_law RL 4 (g.1, g.2.1, ad) := hC
    have hC2 : Cx p s m #[Value.ref b] c cL_law RL 4 (g.1, g.2.1, ad2) := hC
    have hLC : LC p s m c b xs (fun q : Nat => s.heap.size ≤ q) (g.1, g.2.1, ad) (g.1, g.2.1, ad2) := ⟨hC1, hC2, rfl, hX, hbl, hbA, hA⟩
    have hl2 : lv_has ls 4 (lvL b (g.1, g.2.1, ad) (g.1, g.2.1, ad2)) := lv_sub hl [3, 2, 1, 0] rfl
    exact law_switch hr hlocks hLC hP hD hFX hS hl2
  · have h7 : Int32.ofNat L - nI 6 < nI 0 := by
      rcases (show L = 0 ∨ L = 1 ∨ L = 2 ∨ L = 3 ∨ L = 4 ∨ L = 5 by omega) with rfl | rfl | rfl | rfl | rfl | rfl <;> decide
    refine lv_icmp_gt (tgt := 2081) hx hb dL_law_24 (by decide) (fun _ => ?_) (fun z => absurd h7 z)
    exact law_ret hx hb hr hlocks hS (by decide) (by decide)
theorem law_go2 {p : Program} {l : Launch} {e : Env} {s : State} {m : MethodId} {below : List Frame} {meth : Method} {c : Code} {H : Heap} {locs : List Loc} {ls : Array Slot} {b L q0 q1 cells slots : Nat} {xs : Nat → Int32} {g : Gw} {u10 u11 : (Nat → Nat) × Wd} (hL : L ≤ 6) (hr : meth.sig.returnType = ret) (hlocks : meth.locks = false) (hC : Cx p s m #[Value.ref b] c cL_law RL 4 g) (hX : va_X b L xs s s.heap) (hbl : b < s.heap.size) (hP : va_P g.1 vwCl (lX10 g u10 ++ lX11 g u11) H) (hD : va_D (fun q : Nat => s.heap.size ≤ q) (lX10 g u10 ++ lX11 g u11)) (hu : u10.1 0 = q0 ∧ FX u10.2) (hu2 : u11.1 300 = q1 ∧ FM u11.2) (hS : va_S (fun q : Nat => s.heap.size ≤ q) s.heap H locs) (hl : lv_has ls 4 [(3, .int (nI 0)), (2, .ref q1), (1, .ref q0), (0, .ref b)]) (h1 : cells ≤ 134) (h2 : slots ≤ 142488) : W p l e room_1 s m #[Value.ref b] below meth c H locs cells slots (lw_Z below #[Value.ref b] s) (F0 m 18 ls []) := by
  obtain ⟨ad, w⟩ := u10
  obtain ⟨ad2, w2⟩ := u11
  have h0 : ad 0 = q0 := hu.1
  have hFX : FX w := hu.2
  have h300 : ad2 300 = q1 := hu2.1
  have hFM : w2 = wFM := hu2.2
  rw [← h0, ← h300] at hl
  clear hu hu2 h0 h300
  subst hFM
  have hP : va_P g.1 vwCl (wsW tabX (g.1, g.2.1, ad) w ++ wsW tabM (g.1, g.2.1, ad2) wFM) H := hP
  have hD : va_D (fun q : Nat => s.heap.size ≤ q) (wsW tabX (g.1, g.2.1, ad) w ++ wsW tabM (g.1, g.2.1, ad2) wFM) := hD
  refine W.widen h1 h2 ?_
  exact law_go hL hr hlocks hC hX hbl hP hD hFX hS hl
