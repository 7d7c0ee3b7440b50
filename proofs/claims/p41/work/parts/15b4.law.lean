set_option maxHeartbeats 4000000 in
set_option maxRecDepth 100000 in
theorem law4_loop {p : Program} {l : Launch} {e : Env} {s : State} {m : MethodId} {below : List Frame} {meth : Method} {c : Code} {b L : Nat} {xs : Nat → Int32} {g g2 : Gw} (hr : meth.sig.returnType = ret) (hlocks : meth.locks = false) (hLC : LC4 p s m c b L xs (fun q : Nat => s.heap.size ≤ q) g g2) : ∀ (n i k : Nat) (ls : Array Slot) (H : Heap) (locs : List Loc) (w w2 : Wd), i = 6 * k → L + 6 < i + 6 * n → i ≤ L + 5 → LI4 k w w2 → va_P g.1 vwCl (wsW tabX g w ++ wsW tabM g2 w2) H → va_D (fun q : Nat => s.heap.size ≤ q) (wsW tabX g w ++ wsW tabM g2 w2) → va_S (fun q : Nat => s.heap.size ≤ q) s.heap H locs → lv_has ls 4 (lvL4 b i g g2) → W p l e room_1 s m #[.ref b] below meth c H locs 134 142488 (lw_Z below #[Value.ref b] s) (F0 m 18 ls []) := by
  obtain ⟨hC, hC2, hgg, hXs, hbl, hbA, hA, hL⟩ := id hLC
  have hx := hC.1
  have hb := hC.2.1
  intro n
  induction n with
  | zero => intro i k ls H locs w w2 h1 h2 h3 hI hP hD hS hl; exact absurd h2 (by omega)
  | succ n ih =>
    intro i k ls H locs w w2 h1 h2 h3 hI hP hD hS hl
    refine lv_iload_n hx hb dL_law_18 rfl (lv_at hl 3 rfl) ?_
    refine lv_aload_n hx hb dL_law_19 rfl (lv_at hl 0 rfl) ?_
    refine va_slen hx hb hXs hbl hbA hS dL_law_20 ?_
    refine lv_bipush (v := nI 6) hx hb dL_law_21 (by decide) ?_
    refine lv_isub hx hb dL_law_23 ?_
    have tL : Ti (nI L) (L : Int) := nI_toInt (by omega)
    have ti : Ti (nI i) (i : Int) := nI_toInt (by omega)
    have t6 : Ti (nI 6) 6 := nI_toInt (by omega)
    obtain ⟨zd, td, fd⟩ := t_sub tL t6
    replace fd := fd (by omega)
    refine lv_icmp_gt (tgt := 2081) hx hb dL_law_24 (by decide) (fun _ => law_ret hx hb hr hlocks hS (by decide) (by decide)) (fun cc => ?_)
    have hi : i + 6 ≤ L := by
      have := c_nlt td ti cc
      omega
    refine lv_aload_n hx hb dL_law_27 rfl (lv_at hl 0 rfl) ?_
    refine lv_iload_n hx hb dL_law_28 rfl (lv_at hl 3 rfl) ?_
    refine va_sld hx hb hXs hbl hbA hS (vp_in_nI (by omega) (by omega)) dL_law_29 ?_
    rw [show (nI i).toNatClampNeg = i from nI_clamp (by omega)]
    refine lv_bipush (v := nI 63) hx hb dL_law_30 (by decide) ?_
    refine lv_iand hx hb dL_law_32 ?_
    refine law4_switch (k := k) hLC hi (by omega) hP hD hI hS hl (fun w1 w3 H locs hI hP hD hS => ?_)
    refine lv_iinc (v := nI (i + 6)) (lv' := [(3, .int (nI (i + 6))), (0, .ref b), (1, .ref (g.2.2 0)), (2, .ref (g2.2.2 300))]) hx hb dL_law_2075 hl (k := 3) rfl (by rw [← nI_add]; rfl) (by decide) rfl (fun ls hl => ?_)
    refine lv_goto (tgt := 18) hx hb dL_law_2078 (by decide) ?_
    exact ih (i + 6) (k + 1) ls H locs w1 w3 (by omega) (by omega) (by omega) hI hP hD hS (lv_sub hl [1, 2, 3, 0] rfl)
set_option maxHeartbeats 1000000 in
theorem law4_go {p : Program} {l : Launch} {e : Env} {s : State} {m : MethodId} {below : List Frame} {meth : Method} {c : Code} {H : Heap} {locs : List Loc} {ls : Array Slot} {b L q0 q1 cells slots : Nat} {xs : Nat → Int32} {g : Gw} {u10 u11 : (Nat → Nat) × Wd} (hL : L ≤ 3072) (hr : meth.sig.returnType = ret) (hlocks : meth.locks = false) (hC : Cx p s m #[Value.ref b] c cL_law RL 4 g) (hX : va_X b L xs s s.heap) (hbl : b < s.heap.size) (hP : va_P g.1 vwCl (lX10 g u10 ++ lX11 g u11) H) (hD : va_D (fun q : Nat => s.heap.size ≤ q) (lX10 g u10 ++ lX11 g u11)) (hu : u10.1 0 = q0 ∧ FX u10.2) (hu2 : u11.1 300 = q1 ∧ FM u11.2) (hS : va_S (fun q : Nat => s.heap.size ≤ q) s.heap H locs) (hl : lv_has ls 4 [(3, .int (nI 0)), (2, .ref q1), (1, .ref q0), (0, .ref b)]) (h1 : cells ≤ 134) (h2 : slots ≤ 142488) : W p l e room_1 s m #[Value.ref b] below meth c H locs cells slots (lw_Z below #[Value.ref b] s) (F0 m 18 ls []) := by
  obtain ⟨ad, w⟩ := u10
  obtain ⟨ad2, w2⟩ := u11
  have h0 : ad 0 = q0 := hu.1
  have hFX : FX w := hu.2
  have h300 : ad2 300 = q1 := hu2.1
  have hFM : w2 = wFM := hu2.2
  rw [← h0, ← h300] at hl
  clear hu hu2 h0 h300
  subst hFM
  obtain ⟨f, rfl⟩ := hFX
  have hP : va_P g.1 vwCl (wsW tabX (g.1, g.2.1, ad) (wFX f) ++ wsW tabM (g.1, g.2.1, ad2) wFM) H := hP
  have hD : va_D (fun q : Nat => s.heap.size ≤ q) (wsW tabX (g.1, g.2.1, ad) (wFX f) ++ wsW tabM (g.1, g.2.1, ad2) wFM) := hD
  have hA : ∀ q : Nat, s.heap.size ≤ q → (fun q : Nat => s.heap.size ≤ q) q := fun _ h => h
  have hbA : ¬ (fun q : Nat => s.heap.size ≤ q) b := Nat.not_le.mpr hbl
  have hC1 : Cx p s m #[Value.ref b] c cL_law RL 4 (g.1, g.2.1, ad) := hC
  have hC2 : Cx p s m #[Value.ref b] c cL_law RL 4 (g.1, g.2.1, ad2) := hC
  have hLC : LC4 p s m c b L xs (fun q : Nat => s.heap.size ≤ q) (g.1, g.2.1, ad) (g.1, g.2.1, ad2) := ⟨hC1, hC2, rfl, hX, hbl, hbA, hA, hL⟩
  refine W.widen h1 h2 ?_
  exact law4_loop hr hlocks hLC (L + 2) 0 0 ls H locs (wFX f) wFM rfl (by omega) (by omega) ⟨0, by omega, ⟨0, ix_fresh f⟩, ⟨8, 0, 256, 1, 0, im_fresh⟩⟩ hP hD hS (lv_sub hl [3, 2, 1, 0] rfl)
