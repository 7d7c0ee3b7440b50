def pX11_clans_118 (k40 : Int32 → Int32 → Int32 → Int32 → Wd → Prop) (post : Int32 → Wd → Prop) (x2 : Int32) (x4 : Int32) (x5 : Int32) (x6 : Int32) (w : Wd) : Prop := ∀ x6_1, x6_1 = x6 + (1 : Int32) → k40 x2 x4 x5 x6_1 w
def pX11_clans_104 (k40 : Int32 → Int32 → Int32 → Int32 → Wd → Prop) (post : Int32 → Wd → Prop) (x2 : Int32) (x5 : Int32) (x6 : Int32) (x7 : Int32) (t0 : Int32) (t1 : Int32) (w : Wd) : Prop := ∀ x4_1, x4_1 = (t0 + t1) → (x7 ≤ x5 → (pX11_clans_118 k40 post x2 x4_1 x5 x6 w)) ∧ (¬ x7 ≤ x5 → (pX11_clans_118 k40 post x2 x4_1 x7 x6 w))
def pX11_clans_83 (k55 : Int32 → Int32 → Int32 → Int32 → Int32 → Int32 → Wd → Prop) (post : Int32 → Wd → Prop) (x2 : Int32) (x4 : Int32) (x5 : Int32) (x6 : Int32) (x8 : Int32) (t0 : Int32) (t1 : Int32) (w : Wd) : Prop := ∀ x7_1, x7_1 = (t0 + t1) → ∀ x8_2, x8_2 = x8 + (1 : Int32) → k55 x2 x4 x5 x6 x7_1 x8_2 w
def pX11_clans_55 (k40 : Int32 → Int32 → Int32 → Int32 → Wd → Prop) (post : Int32 → Wd → Prop) : Nat → Int32 → Int32 → Int32 → Int32 → Int32 → Int32 → Wd → Prop
  | 0, _, _, _, _, _, _, _ => False
  | n + 1, x2, x4, x5, x6, x7, x8, w => ((w.1 300 63) ≤ x8 → ((x7 ≤ 0 → (pX11_clans_104 k40 post x2 x5 x6 x7 x4 (0 : Int32) w)) ∧ (¬ x7 ≤ 0 → (pX11_clans_104 k40 post x2 x5 x6 x7 x4 (1 : Int32) w)))) ∧ (¬ (w.1 300 63) ≤ x8 → (vp_in x8 7 ∧ (¬ (w.2.1 365 x8.toNatClampNeg) = x6 → (pX11_clans_83 (pX11_clans_55 k40 post n) post x2 x4 x5 x6 x8 x7 (0 : Int32) w)) ∧ ((w.2.1 365 x8.toNatClampNeg) = x6 → (pX11_clans_83 (pX11_clans_55 k40 post n) post x2 x4 x5 x6 x8 x7 (1 : Int32) w))))
def pX11_clans_40 (post : Int32 → Wd → Prop) : Nat → Int32 → Int32 → Int32 → Int32 → Wd → Prop
  | 0, _, _, _, _, _ => False
  | n + 1, x2, x4, x5, x6, w => ((w.1 300 63) ≤ x6 → ((¬ x2 = 0 → (post x5 w)) ∧ (x2 = 0 → (post x4 w)))) ∧ (¬ (w.1 300 63) ≤ x6 → (∃ n9, pX11_clans_55 (pX11_clans_40 post n) post n9 x2 x4 x5 x6 (0 : Int32) (0 : Int32) w))
def pX11_clans (post : Int32 → Wd → Prop) (x1 : Int32) (x2 : Int32) (x3 : Int32) (w : Wd) : Prop := pX11_isIn (fun r_1 w_2 => (r_1 = 0 → (post (-1 : Int32) w_2)) ∧ (¬ r_1 = 0 → (pX11_isIn (fun r_4 w_5 => (¬ r_4 = 0 → (pX11_laySamples (fun w_7 => pX11_layClans (fun w_8 => ∃ n9, pX11_clans_40 post n9 x2 (0 : Int32) (0 : Int32) (0 : Int32) w_8) x1 w_7) x3 w_5)) ∧ (r_4 = 0 → (post (-1 : Int32) w_5))) x2 (0 : Int32) (1 : Int32) w_2))) x1 (0 : Int32) (24 : Int32) w
set_option maxHeartbeats 4000000 in
set_option maxRecDepth 100000 in
theorem bX11_clans_118 {p : Program} {l : Launch} {e : Env} {s : State} {m : MethodId} {args : Array Value} {below : List Frame} {meth : Method} {c : Code} {Q : State → Prop} {A : Nat → Prop} {g : Gw} {post : Int32 → Wd → Prop}  (hC : Cx p s m args c cX11_clans RX11 9 g) (hR : RtI tabM p l e (rk 4) s m args below meth c Q cX11_clans A g post)  {k40 : Int32 → Int32 → Int32 → Int32 → Wd → Prop} (hk40 : ∀ (x2 : Int32) (x4 : Int32) (x5 : Int32) (x6 : Int32) (w : Wd) (H : Heap) (locs : List Loc) (ls : Array Slot), k40 x2 x4 x5 x6 w → St tabM A s.heap g w H locs → lv_has ls 9 [(0, .ref (g.2.2 300)), (2, .int x2), (4, .int x4), (5, .int x5), (6, .int x6)] → W p l e (rk 4) s m args below meth c H locs 0 0 Q (F0 m 40 ls [])) : ∀ (x2 : Int32) (x4 : Int32) (x5 : Int32) (x6 : Int32) (w : Wd) (H : Heap) (locs : List Loc) (ls : Array Slot), pX11_clans_118 k40 post x2 x4 x5 x6 w → St tabM A s.heap g w H locs → lv_has ls 9 [(0, .ref (g.2.2 300)), (2, .int x2), (4, .int x4), (5, .int x5), (6, .int x6)] → W p l e (rk 4) s m args below meth c H locs 0 0 Q (F0 m 118 ls []) := by
  have hx := hC.1
  have hb := hC.2.1
  intro x2 x4 x5 x6 w H locs ls hp hS hl
  unfold pX11_clans_118 at hp
  obtain ⟨x6_1, ex6_1⟩ : ∃ y : Int32, y = x6 + (1 : Int32) := ⟨_, rfl⟩
  have hp := hp x6_1 ex6_1
  refine lv_iinc (v := x6_1) (lv' := [(6, .int x6_1), (0, .ref (g.2.2 300)), (2, .int x2), (4, .int x4), (5, .int x5)]) hx hb dX11_clans_118 hl (k := 4) rfl (by rw [ex6_1]; rfl) (by decide) rfl (fun ls hl => ?_)
  refine lv_goto (tgt := 40) hx hb dX11_clans_121 (by decide) ?_
  exact hk40 x2 x4 x5 x6_1 w _ _ _ hp hS (lv_sub hl [1, 2, 3, 4, 0] rfl)
set_option maxHeartbeats 4000000 in
set_option maxRecDepth 100000 in
theorem bX11_clans_104 {p : Program} {l : Launch} {e : Env} {s : State} {m : MethodId} {args : Array Value} {below : List Frame} {meth : Method} {c : Code} {Q : State → Prop} {A : Nat → Prop} {g : Gw} {post : Int32 → Wd → Prop}  (hC : Cx p s m args c cX11_clans RX11 9 g) (hR : RtI tabM p l e (rk 4) s m args below meth c Q cX11_clans A g post)  {k40 : Int32 → Int32 → Int32 → Int32 → Wd → Prop} (hk40 : ∀ (x2 : Int32) (x4 : Int32) (x5 : Int32) (x6 : Int32) (w : Wd) (H : Heap) (locs : List Loc) (ls : Array Slot), k40 x2 x4 x5 x6 w → St tabM A s.heap g w H locs → lv_has ls 9 [(0, .ref (g.2.2 300)), (2, .int x2), (4, .int x4), (5, .int x5), (6, .int x6)] → W p l e (rk 4) s m args below meth c H locs 0 0 Q (F0 m 40 ls [])) : ∀ (x2 : Int32) (x5 : Int32) (x6 : Int32) (x7 : Int32) (t0 : Int32) (t1 : Int32) (w : Wd) (H : Heap) (locs : List Loc) (ls : Array Slot), pX11_clans_104 k40 post x2 x5 x6 x7 t0 t1 w → St tabM A s.heap g w H locs → lv_has ls 9 [(0, .ref (g.2.2 300)), (2, .int x2), (5, .int x5), (6, .int x6), (7, .int x7)] → W p l e (rk 4) s m args below meth c H locs 0 0 Q (F0 m 104 ls [.int t1, .int t0]) := by
  have hx := hC.1
  have hb := hC.2.1
  intro x2 x5 x6 x7 t0 t1 w H locs ls hp hS hl
  unfold pX11_clans_104 at hp
  refine lv_iadd hx hb dX11_clans_104 ?_
  refine lv_topi (fun x4_1 ex4_1 => ?_)
  have hp := hp x4_1 ex4_1
  refine lv_istore (lv' := [(4, .int x4_1), (0, .ref (g.2.2 300)), (2, .int x2), (5, .int x5), (6, .int x6), (7, .int x7)]) hx hb dX11_clans_105 hl (by decide) rfl (fun ls hl => ?_)
  refine lv_iload hx hb dX11_clans_107 (lv_at hl 5 rfl) ?_
  refine lv_iload hx hb dX11_clans_109 (lv_at hl 3 rfl) ?_
  refine lv_icmp_le (tgt := 118) hx hb dX11_clans_111 (by decide) (fun c_2 => ?_) (fun c_2 => ?_)
  · have hp := hp.1 c_2
    exact bX11_clans_118 hC hR hk40 x2 x4_1 x5 x6 w _ _ _ hp hS (lv_sub hl [1, 2, 0, 3, 4] rfl)
  · have hp := hp.2 c_2
    refine lv_iload hx hb dX11_clans_114 (lv_at hl 5 rfl) ?_
    refine lv_istore (lv' := [(5, .int x7), (4, .int x4_1), (0, .ref (g.2.2 300)), (2, .int x2), (6, .int x6), (7, .int x7)]) hx hb dX11_clans_116 hl (by decide) rfl (fun ls hl => ?_)
    exact bX11_clans_118 hC hR hk40 x2 x4_1 x7 x6 w _ _ _ hp hS (lv_sub hl [2, 3, 1, 0, 4] rfl)
set_option maxHeartbeats 4000000 in
set_option maxRecDepth 100000 in
theorem bX11_clans_83 {p : Program} {l : Launch} {e : Env} {s : State} {m : MethodId} {args : Array Value} {below : List Frame} {meth : Method} {c : Code} {Q : State → Prop} {A : Nat → Prop} {g : Gw} {post : Int32 → Wd → Prop}  (hC : Cx p s m args c cX11_clans RX11 9 g) (hR : RtI tabM p l e (rk 4) s m args below meth c Q cX11_clans A g post)  {k55 : Int32 → Int32 → Int32 → Int32 → Int32 → Int32 → Wd → Prop} (hk55 : ∀ (x2 : Int32) (x4 : Int32) (x5 : Int32) (x6 : Int32) (x7 : Int32) (x8 : Int32) (w : Wd) (H : Heap) (locs : List Loc) (ls : Array Slot), k55 x2 x4 x5 x6 x7 x8 w → St tabM A s.heap g w H locs → lv_has ls 9 [(0, .ref (g.2.2 300)), (2, .int x2), (4, .int x4), (5, .int x5), (6, .int x6), (7, .int x7), (8, .int x8)] → W p l e (rk 4) s m args below meth c H locs 0 0 Q (F0 m 55 ls [])) : ∀ (x2 : Int32) (x4 : Int32) (x5 : Int32) (x6 : Int32) (x8 : Int32) (t0 : Int32) (t1 : Int32) (w : Wd) (H : Heap) (locs : List Loc) (ls : Array Slot), pX11_clans_83 k55 post x2 x4 x5 x6 x8 t0 t1 w → St tabM A s.heap g w H locs → lv_has ls 9 [(0, .ref (g.2.2 300)), (2, .int x2), (4, .int x4), (5, .int x5), (6, .int x6), (8, .int x8)] → W p l e (rk 4) s m args below meth c H locs 0 0 Q (F0 m 83 ls [.int t1, .int t0]) := by
  have hx := hC.1
  have hb := hC.2.1
  intro x2 x4 x5 x6 x8 t0 t1 w H locs ls hp hS hl
  unfold pX11_clans_83 at hp
  refine lv_iadd hx hb dX11_clans_83 ?_
  refine lv_topi (fun x7_1 ex7_1 => ?_)
  have hp := hp x7_1 ex7_1
  refine lv_istore (lv' := [(7, .int x7_1), (0, .ref (g.2.2 300)), (2, .int x2), (4, .int x4), (5, .int x5), (6, .int x6), (8, .int x8)]) hx hb dX11_clans_84 hl (by decide) rfl (fun ls hl => ?_)
  obtain ⟨x8_2, ex8_2⟩ : ∃ y : Int32, y = x8 + (1 : Int32) := ⟨_, rfl⟩
  have hp := hp x8_2 ex8_2
  refine lv_iinc (v := x8_2) (lv' := [(8, .int x8_2), (7, .int x7_1), (0, .ref (g.2.2 300)), (2, .int x2), (4, .int x4), (5, .int x5), (6, .int x6)]) hx hb dX11_clans_86 hl (k := 6) rfl (by rw [ex8_2]; rfl) (by decide) rfl (fun ls hl => ?_)
  refine lv_goto (tgt := 55) hx hb dX11_clans_89 (by decide) ?_
  exact hk55 x2 x4 x5 x6 x7_1 x8_2 w _ _ _ hp hS (lv_sub hl [2, 3, 4, 5, 6, 1, 0] rfl)
set_option maxHeartbeats 4000000 in
set_option maxRecDepth 100000 in
theorem bX11_clans_55 {p : Program} {l : Launch} {e : Env} {s : State} {m : MethodId} {args : Array Value} {below : List Frame} {meth : Method} {c : Code} {Q : State → Prop} {A : Nat → Prop} {g : Gw} {post : Int32 → Wd → Prop}  (hC : Cx p s m args c cX11_clans RX11 9 g) (hR : RtI tabM p l e (rk 4) s m args below meth c Q cX11_clans A g post)  {k40 : Int32 → Int32 → Int32 → Int32 → Wd → Prop} (hk40 : ∀ (x2 : Int32) (x4 : Int32) (x5 : Int32) (x6 : Int32) (w : Wd) (H : Heap) (locs : List Loc) (ls : Array Slot), k40 x2 x4 x5 x6 w → St tabM A s.heap g w H locs → lv_has ls 9 [(0, .ref (g.2.2 300)), (2, .int x2), (4, .int x4), (5, .int x5), (6, .int x6)] → W p l e (rk 4) s m args below meth c H locs 0 0 Q (F0 m 40 ls [])) : ∀ (n : Nat) (x2 : Int32) (x4 : Int32) (x5 : Int32) (x6 : Int32) (x7 : Int32) (x8 : Int32) (w : Wd) (H : Heap) (locs : List Loc) (ls : Array Slot), pX11_clans_55 k40 post n x2 x4 x5 x6 x7 x8 w → St tabM A s.heap g w H locs → lv_has ls 9 [(0, .ref (g.2.2 300)), (2, .int x2), (4, .int x4), (5, .int x5), (6, .int x6), (7, .int x7), (8, .int x8)] → W p l e (rk 4) s m args below meth c H locs 0 0 Q (F0 m 55 ls []) := by
  have hx := hC.1
  have hb := hC.2.1
  intro n
  induction n with
  | zero =>
    intro x2 x4 x5 x6 x7 x8 w H locs ls hp hS hl
    exact False.elim hp
  | succ n ih =>
    intro x2 x4 x5 x6 x7 x8 w H locs ls hp hS hl
    unfold pX11_clans_55 at hp
    refine lv_iload hx hb dX11_clans_55 (lv_at hl 6 rfl) ?_
    refine lv_aload_n hx hb dX11_clans_57 rfl (lv_at hl 0 rfl) ?_
    refine G_300_63 hC hS m1282 dX11_clans_58 ?_
    refine lv_icmp_ge (tgt := 92) hx hb dX11_clans_61 (by decide) (fun c_1 => ?_) (fun c_1 => ?_)
    · have hp := hp.1 c_1
      refine lv_iload hx hb dX11_clans_92 (lv_at hl 2 rfl) ?_
      refine lv_iload hx hb dX11_clans_94 (lv_at hl 5 rfl) ?_
      refine lv_if_le (tgt := 103) hx hb dX11_clans_96 (by decide) (fun c_2 => ?_) (fun c_2 => ?_)
      · have hp := hp.1 c_2
        refine lv_iconst hx hb dX11_clans_103 kI_0 ?_
        exact bX11_clans_104 hC hR hk40 x2 x5 x6 x7 x4 (0 : Int32) w _ _ _ hp hS (lv_sub hl [0, 1, 3, 4, 5] rfl)
      · have hp := hp.2 c_2
        refine lv_iconst hx hb dX11_clans_99 kI_1 ?_
        refine lv_goto (tgt := 104) hx hb dX11_clans_100 (by decide) ?_
        exact bX11_clans_104 hC hR hk40 x2 x5 x6 x7 x4 (1 : Int32) w _ _ _ hp hS (lv_sub hl [0, 1, 3, 4, 5] rfl)
    · have hp := hp.2 c_1
      refine lv_iload hx hb dX11_clans_64 (lv_at hl 5 rfl) ?_
      refine lv_aload_n hx hb dX11_clans_66 rfl (lv_at hl 0 rfl) ?_
      refine G_300_64 hC hS m293 dX11_clans_67 ?_
      refine lv_iload hx hb dX11_clans_70 (lv_at hl 6 rfl) ?_
      refine La_365 hC hS hp.1 dX11_clans_72 ?_
      have hp := hp.2
      refine lv_iload hx hb dX11_clans_73 (lv_at hl 4 rfl) ?_
      refine lv_icmp_ne (tgt := 82) hx hb dX11_clans_75 (by decide) (fun c_3 => ?_) (fun c_3 => ?_)
      · have hp := hp.1 c_3
        refine lv_iconst hx hb dX11_clans_82 kI_0 ?_
        exact bX11_clans_83 hC hR ih x2 x4 x5 x6 x8 x7 (0 : Int32) w _ _ _ hp hS (lv_sub hl [0, 1, 2, 3, 4, 6] rfl)
      · have hp := hp.2 c_3
        refine lv_iconst hx hb dX11_clans_78 kI_1 ?_
        refine lv_goto (tgt := 83) hx hb dX11_clans_79 (by decide) ?_
        exact bX11_clans_83 hC hR ih x2 x4 x5 x6 x8 x7 (1 : Int32) w _ _ _ hp hS (lv_sub hl [0, 1, 2, 3, 4, 6] rfl)
set_option maxHeartbeats 4000000 in
set_option maxRecDepth 100000 in
theorem bX11_clans_40 {p : Program} {l : Launch} {e : Env} {s : State} {m : MethodId} {args : Array Value} {below : List Frame} {meth : Method} {c : Code} {Q : State → Prop} {A : Nat → Prop} {g : Gw} {post : Int32 → Wd → Prop}  (hC : Cx p s m args c cX11_clans RX11 9 g) (hR : RtI tabM p l e (rk 4) s m args below meth c Q cX11_clans A g post)  : ∀ (n : Nat) (x2 : Int32) (x4 : Int32) (x5 : Int32) (x6 : Int32) (w : Wd) (H : Heap) (locs : List Loc) (ls : Array Slot), pX11_clans_40 post n x2 x4 x5 x6 w → St tabM A s.heap g w H locs → lv_has ls 9 [(0, .ref (g.2.2 300)), (2, .int x2), (4, .int x4), (5, .int x5), (6, .int x6)] → W p l e (rk 4) s m args below meth c H locs 0 0 Q (F0 m 40 ls []) := by
  have hx := hC.1
  have hb := hC.2.1
  intro n
  induction n with
  | zero =>
    intro x2 x4 x5 x6 w H locs ls hp hS hl
    exact False.elim hp
  | succ n ih =>
    intro x2 x4 x5 x6 w H locs ls hp hS hl
    unfold pX11_clans_40 at hp
    refine lv_iload hx hb dX11_clans_40 (lv_at hl 4 rfl) ?_
    refine lv_aload_n hx hb dX11_clans_42 rfl (lv_at hl 0 rfl) ?_
    refine G_300_63 hC hS m1282 dX11_clans_43 ?_
    refine lv_icmp_ge (tgt := 124) hx hb dX11_clans_46 (by decide) (fun c_1 => ?_) (fun c_1 => ?_)
    · have hp := hp.1 c_1
      refine lv_iload_n hx hb dX11_clans_124 rfl (lv_at hl 1 rfl) ?_
      refine lv_if_ne (tgt := 133) hx hb dX11_clans_125 (by decide) (fun c_2 => ?_) (fun c_2 => ?_)
      · have hp := hp.1 c_2
        refine lv_iload hx hb dX11_clans_133 (lv_at hl 3 rfl) ?_
        exact hR _ _ _ _ _ _ dX11_clans_135 hp hS
      · have hp := hp.2 c_2
        refine lv_iload hx hb dX11_clans_128 (lv_at hl 2 rfl) ?_
        refine lv_goto (tgt := 135) hx hb dX11_clans_130 (by decide) ?_
        exact hR _ _ _ _ _ _ dX11_clans_135 hp hS
    · have hp := hp.2 c_1
      refine lv_iconst hx hb dX11_clans_49 kI_0 ?_
      refine lv_istore (lv' := [(7, .int (0 : Int32)), (0, .ref (g.2.2 300)), (2, .int x2), (4, .int x4), (5, .int x5), (6, .int x6)]) hx hb dX11_clans_50 hl (by decide) rfl (fun ls hl => ?_)
      refine lv_iconst hx hb dX11_clans_52 kI_0 ?_
      refine lv_istore (lv' := [(8, .int (0 : Int32)), (7, .int (0 : Int32)), (0, .ref (g.2.2 300)), (2, .int x2), (4, .int x4), (5, .int x5), (6, .int x6)]) hx hb dX11_clans_53 hl (by decide) rfl (fun ls hl => ?_)
      obtain ⟨n9, hp⟩ := hp
      exact bX11_clans_55 hC hR ih n9 x2 x4 x5 x6 (0 : Int32) (0 : Int32) w _ _ _ hp hS (lv_sub hl [2, 3, 4, 5, 6, 1, 0] rfl)
set_option maxHeartbeats 4000000 in
set_option maxRecDepth 100000 in
theorem rX11_clans {l : Launch} {g : Gw} {w : Wd} {post : Int32 → Wd → Prop}   {x1 : Int32} {x2 : Int32} {x3 : Int32} (hp : pX11_clans post x1 x2 x3 w) : MtI tabM l yX11_clans cX11_clans 9 (some .int) 4 g w [.ref (g.2.2 300), .int x1, .int x2, .int x3] post := by
  refine q_entI tabM_nd (by decide) rfl (Nat.le_of_ble_eq_true rfl) ?_
  intro p e s m args below meth c A Q ls hC hR hS hl
  have hx := hC.1
  have hb := hC.2.1
  have hl : lv_has ls 9 [(0, .ref (g.2.2 300)), (1, .int x1), (2, .int x2), (3, .int x3)] := hl
  unfold pX11_clans at hp
  refine lv_iload_n hx hb dX11_clans_0 rfl (lv_at hl 1 rfl) ?_
  refine lv_iconst hx hb dX11_clans_1 kI_0 ?_
  refine lv_bipush hx hb dX11_clans_2 kB_24 ?_
  refine q_csI (As := [.int x1, .int (0 : Int32), .int (24 : Int32)]) (rest := []) hC hS hl.1 (rX11_isIn hp) cwX11_345 ysX11_isIn rfl rfl (Nat.le_of_ble_eq_true rfl) (rmk (by decide) (by decide)) dX11_clans_4 (fun r_1 w_2 H locs hp hS => ?_)
  refine lv_if_eq (tgt := 19) hx hb dX11_clans_7 (by decide) (fun c_3 => ?_) (fun c_3 => ?_)
  · have hp := hp.1 c_3
    refine lv_iconst hx hb dX11_clans_19 kI_m1 ?_
    exact hR _ _ _ _ _ _ dX11_clans_20 hp hS
  · have hp := hp.2 c_3
    refine lv_iload_n hx hb dX11_clans_10 rfl (lv_at hl 2 rfl) ?_
    refine lv_iconst hx hb dX11_clans_11 kI_0 ?_
    refine lv_iconst hx hb dX11_clans_12 kI_1 ?_
    refine q_csI (As := [.int x2, .int (0 : Int32), .int (1 : Int32)]) (rest := []) hC hS hl.1 (rX11_isIn hp) cwX11_345 ysX11_isIn rfl rfl (Nat.le_of_ble_eq_true rfl) (rmk (by decide) (by decide)) dX11_clans_13 (fun r_4 w_5 H locs hp hS => ?_)
    refine lv_if_ne (tgt := 21) hx hb dX11_clans_16 (by decide) (fun c_6 => ?_) (fun c_6 => ?_)
    · have hp := hp.1 c_6
      refine lv_aload_n hx hb dX11_clans_21 rfl (lv_at hl 0 rfl) ?_
      refine lv_iload_n hx hb dX11_clans_22 rfl (lv_at hl 3 rfl) ?_
      refine q_cvV (As := [.int x3]) (rest := []) hC hS hl.1 (rX11_laySamples hp) cwX11_433 yvX11_laySamples (rcv_300 hC hS) rfl rfl (Nat.le_of_ble_eq_true rfl) (rmk (by decide) (by decide)) dX11_clans_23 (fun w_7 H locs hp hS => ?_)
      refine lv_aload_n hx hb dX11_clans_26 rfl (lv_at hl 0 rfl) ?_
      refine lv_iload_n hx hb dX11_clans_27 rfl (lv_at hl 1 rfl) ?_
      refine q_cvV (As := [.int x1]) (rest := []) hC hS hl.1 (rX11_layClans hp) cwX11_439 yvX11_layClans (rcv_300 hC hS) rfl rfl (Nat.le_of_ble_eq_true rfl) (rmk (by decide) (by decide)) dX11_clans_28 (fun w_8 H locs hp hS => ?_)
      refine lv_iconst hx hb dX11_clans_31 kI_0 ?_
      refine lv_istore (lv' := [(4, .int (0 : Int32)), (0, .ref (g.2.2 300)), (1, .int x1), (2, .int x2), (3, .int x3)]) hx hb dX11_clans_32 hl (by decide) rfl (fun ls hl => ?_)
      refine lv_iconst hx hb dX11_clans_34 kI_0 ?_
      refine lv_istore (lv' := [(5, .int (0 : Int32)), (4, .int (0 : Int32)), (0, .ref (g.2.2 300)), (1, .int x1), (2, .int x2), (3, .int x3)]) hx hb dX11_clans_35 hl (by decide) rfl (fun ls hl => ?_)
      refine lv_iconst hx hb dX11_clans_37 kI_0 ?_
      refine lv_istore (lv' := [(6, .int (0 : Int32)), (5, .int (0 : Int32)), (4, .int (0 : Int32)), (0, .ref (g.2.2 300)), (1, .int x1), (2, .int x2), (3, .int x3)]) hx hb dX11_clans_38 hl (by decide) rfl (fun ls hl => ?_)
      obtain ⟨n9, hp⟩ := hp
      exact bX11_clans_40 hC hR n9 x2 (0 : Int32) (0 : Int32) (0 : Int32) w_8 _ _ _ hp hS (lv_sub hl [3, 5, 2, 1, 0] rfl)
    · have hp := hp.2 c_6
      refine lv_iconst hx hb dX11_clans_19 kI_m1 ?_
      exact hR _ _ _ _ _ _ dX11_clans_20 hp hS
def pX11_origin_156 (k19 : Int32 → Int32 → Int32 → Int32 → Int32 → Wd → Prop) (post : Int32 → Wd → Prop) (x1 : Int32) (x2 : Int32) (x3 : Int32) (x5 : Int32) (t0 : Int32) (t1 : Int32) (w : Wd) : Prop := ∀ x4_1, x4_1 = (t0 + t1) → ∀ x5_2, x5_2 = x5 + (1 : Int32) → k19 x1 x2 x3 x4_1 x5_2 w
def pX11_origin_136 (k19 : Int32 → Int32 → Int32 → Int32 → Int32 → Wd → Prop) (post : Int32 → Wd → Prop) (x1 : Int32) (x2 : Int32) (x3 : Int32) (x4 : Int32) (x5 : Int32) (x6 : Int32) (x7 : Int32) (w : Wd) : Prop := (((2 : Int32) * x6) ≤ x7 → (pX11_origin_156 k19 post x1 x2 x3 x5 x4 ((2 : Int32) * x6) w)) ∧ (¬ ((2 : Int32) * x6) ≤ x7 → (pX11_origin_156 k19 post x1 x2 x3 x5 x4 x7 w))
def pX11_origin_114 (k37 : Int32 → Int32 → Int32 → Int32 → Int32 → Int32 → Int32 → Int32 → Wd → Prop) (post : Int32 → Wd → Prop) (x1 : Int32) (x2 : Int32) (x3 : Int32) (x4 : Int32) (x5 : Int32) (x6 : Int32) (x7 : Int32) (x8 : Int32) (w : Wd) : Prop := ∀ x8_1, x8_1 = x8 + (1 : Int32) → k37 x1 x2 x3 x4 x5 x6 x7 x8_1 w
def pX11_origin_92 (k37 : Int32 → Int32 → Int32 → Int32 → Int32 → Int32 → Int32 → Int32 → Wd → Prop) (post : Int32 → Wd → Prop) (x1 : Int32) (x2 : Int32) (x3 : Int32) (x4 : Int32) (x5 : Int32) (x6 : Int32) (x7 : Int32) (x8 : Int32) (t0 : Int32) (w : Wd) : Prop := (¬ ((t0 >>> (x5 &&& 31)) &&& (1 : Int32)) = (1 : Int32) → (∀ x7_2, x7_2 = x7 + (1 : Int32) → pX11_origin_114 k37 post x1 x2 x3 x4 x5 x6 x7_2 x8 w)) ∧ (((t0 >>> (x5 &&& 31)) &&& (1 : Int32)) = (1 : Int32) → (∀ x6_3, x6_3 = x6 + (1 : Int32) → pX11_origin_114 k37 post x1 x2 x3 x4 x5 x6_3 x7 x8 w))
def pX11_origin_37 (k19 : Int32 → Int32 → Int32 → Int32 → Int32 → Wd → Prop) (post : Int32 → Wd → Prop) : Nat → Int32 → Int32 → Int32 → Int32 → Int32 → Int32 → Int32 → Int32 → Wd → Prop
  | 0, _, _, _, _, _, _, _, _, _ => False
  | n + 1, x1, x2, x3, x4, x5, x6, x7, x8, w => ((w.1 300 58) ≤ x8 → ((((2 : Int32) * x6) ≤ x7 → (pX11_origin_136 k19 post x1 x2 x3 x4 x5 x6 x7 w)) ∧ (¬ ((2 : Int32) * x6) ≤ x7 → (∀ x3_3, x3_3 = (x3 ||| ((1 : Int32) <<< (x5 &&& 31))) → pX11_origin_136 k19 post x1 x2 x3_3 x4 x5 x6 x7 w)))) ∧ (¬ (w.1 300 58) ≤ x8 → (pX11_counts (fun r_4 w_5 => (¬ r_4 = 0 → (vp_in x8 40 ∧ (¬ (w_5.2.1 355 x8.toNatClampNeg) = (1 : Int32) → (vp_in x8 40 ∧ pX11_origin_92 (pX11_origin_37 k19 post n) post x1 x2 x3 x4 x5 x6 x7 x8 (w_5.2.1 354 x8.toNatClampNeg) w_5)) ∧ ((w_5.2.1 355 x8.toNatClampNeg) = (1 : Int32) → (vp_in x8 40 ∧ pX11_turnedRow (fun r_8 w_9 => pX11_origin_92 (pX11_origin_37 k19 post n) post x1 x2 x3 x4 x5 x6 x7 x8 r_8 w_9) (w_5.2.1 354 x8.toNatClampNeg) w_5)))) ∧ (r_4 = 0 → (pX11_origin_114 (pX11_origin_37 k19 post n) post x1 x2 x3 x4 x5 x6 x7 x8 w_5))) x8 (0 : Int32) x2 w))
def pX11_origin_19 (post : Int32 → Wd → Prop) : Nat → Int32 → Int32 → Int32 → Int32 → Int32 → Wd → Prop
  | 0, _, _, _, _, _, _ => False
  | n + 1, x1, x2, x3, x4, x5, w => pX11_width (fun r_1 w_2 => (r_1 ≤ x5 → ((¬ x1 = 0 → (post x4 w_2)) ∧ (x1 = 0 → (post x3 w_2)))) ∧ (¬ r_1 ≤ x5 → (∃ n9, pX11_origin_37 (pX11_origin_19 post n) post n9 x1 x2 x3 x4 x5 (0 : Int32) (0 : Int32) (0 : Int32) w_2))) w
def pX11_origin (post : Int32 → Wd → Prop) (x1 : Int32) (x2 : Int32) (w : Wd) : Prop := pX11_isIn (fun r_1 w_2 => (¬ r_1 = 0 → (∃ n9, pX11_origin_19 post n9 x1 x2 (0 : Int32) (0 : Int32) (0 : Int32) w_2)) ∧ (r_1 = 0 → (post (-1 : Int32) w_2))) x1 (0 : Int32) (1 : Int32) w
set_option maxHeartbeats 4000000 in
set_option maxRecDepth 100000 in
theorem bX11_origin_156 {p : Program} {l : Launch} {e : Env} {s : State} {m : MethodId} {args : Array Value} {below : List Frame} {meth : Method} {c : Code} {Q : State → Prop} {A : Nat → Prop} {g : Gw} {post : Int32 → Wd → Prop}  (hC : Cx p s m args c cX11_origin RX11 10 g) (hR : RtI tabM p l e (rk 3) s m args below meth c Q cX11_origin A g post)  {k19 : Int32 → Int32 → Int32 → Int32 → Int32 → Wd → Prop} (hk19 : ∀ (x1 : Int32) (x2 : Int32) (x3 : Int32) (x4 : Int32) (x5 : Int32) (w : Wd) (H : Heap) (locs : List Loc) (ls : Array Slot), k19 x1 x2 x3 x4 x5 w → St tabM A s.heap g w H locs → lv_has ls 10 [(0, .ref (g.2.2 300)), (1, .int x1), (2, .int x2), (3, .int x3), (4, .int x4), (5, .int x5)] → W p l e (rk 3) s m args below meth c H locs 0 0 Q (F0 m 19 ls [])) : ∀ (x1 : Int32) (x2 : Int32) (x3 : Int32) (x5 : Int32) (t0 : Int32) (t1 : Int32) (w : Wd) (H : Heap) (locs : List Loc) (ls : Array Slot), pX11_origin_156 k19 post x1 x2 x3 x5 t0 t1 w → St tabM A s.heap g w H locs → lv_has ls 10 [(0, .ref (g.2.2 300)), (1, .int x1), (2, .int x2), (3, .int x3), (5, .int x5)] → W p l e (rk 3) s m args below meth c H locs 0 0 Q (F0 m 156 ls [.int t1, .int t0]) := by
  have hx := hC.1
  have hb := hC.2.1
  intro x1 x2 x3 x5 t0 t1 w H locs ls hp hS hl
  unfold pX11_origin_156 at hp
  refine lv_iadd hx hb dX11_origin_156 ?_
  refine lv_topi (fun x4_1 ex4_1 => ?_)
  have hp := hp x4_1 ex4_1
  refine lv_istore (lv' := [(4, .int x4_1), (0, .ref (g.2.2 300)), (1, .int x1), (2, .int x2), (3, .int x3), (5, .int x5)]) hx hb dX11_origin_157 hl (by decide) rfl (fun ls hl => ?_)
  obtain ⟨x5_2, ex5_2⟩ : ∃ y : Int32, y = x5 + (1 : Int32) := ⟨_, rfl⟩
  have hp := hp x5_2 ex5_2
  refine lv_iinc (v := x5_2) (lv' := [(5, .int x5_2), (4, .int x4_1), (0, .ref (g.2.2 300)), (1, .int x1), (2, .int x2), (3, .int x3)]) hx hb dX11_origin_159 hl (k := 5) rfl (by rw [ex5_2]; rfl) (by decide) rfl (fun ls hl => ?_)
  refine lv_goto (tgt := 19) hx hb dX11_origin_162 (by decide) ?_
  exact hk19 x1 x2 x3 x4_1 x5_2 w _ _ _ hp hS (lv_sub hl [2, 3, 4, 5, 1, 0] rfl)
set_option maxHeartbeats 4000000 in
set_option maxRecDepth 100000 in
theorem bX11_origin_136 {p : Program} {l : Launch} {e : Env} {s : State} {m : MethodId} {args : Array Value} {below : List Frame} {meth : Method} {c : Code} {Q : State → Prop} {A : Nat → Prop} {g : Gw} {post : Int32 → Wd → Prop}  (hC : Cx p s m args c cX11_origin RX11 10 g) (hR : RtI tabM p l e (rk 3) s m args below meth c Q cX11_origin A g post)  {k19 : Int32 → Int32 → Int32 → Int32 → Int32 → Wd → Prop} (hk19 : ∀ (x1 : Int32) (x2 : Int32) (x3 : Int32) (x4 : Int32) (x5 : Int32) (w : Wd) (H : Heap) (locs : List Loc) (ls : Array Slot), k19 x1 x2 x3 x4 x5 w → St tabM A s.heap g w H locs → lv_has ls 10 [(0, .ref (g.2.2 300)), (1, .int x1), (2, .int x2), (3, .int x3), (4, .int x4), (5, .int x5)] → W p l e (rk 3) s m args below meth c H locs 0 0 Q (F0 m 19 ls [])) : ∀ (x1 : Int32) (x2 : Int32) (x3 : Int32) (x4 : Int32) (x5 : Int32) (x6 : Int32) (x7 : Int32) (w : Wd) (H : Heap) (locs : List Loc) (ls : Array Slot), pX11_origin_136 k19 post x1 x2 x3 x4 x5 x6 x7 w → St tabM A s.heap g w H locs → lv_has ls 10 [(0, .ref (g.2.2 300)), (1, .int x1), (2, .int x2), (3, .int x3), (4, .int x4), (5, .int x5), (6, .int x6), (7, .int x7)] → W p l e (rk 3) s m args below meth c H locs 0 0 Q (F0 m 136 ls []) := by
  have hx := hC.1
  have hb := hC.2.1
  intro x1 x2 x3 x4 x5 x6 x7 w H locs ls hp hS hl
  unfold pX11_origin_136 at hp
  refine lv_iload hx hb dX11_origin_136 (lv_at hl 4 rfl) ?_
  refine lv_iload hx hb dX11_origin_138 (lv_at hl 7 rfl) ?_
  refine lv_iconst hx hb dX11_origin_140 kI_2 ?_
  refine lv_iload hx hb dX11_origin_141 (lv_at hl 6 rfl) ?_
  refine lv_imul hx hb dX11_origin_143 ?_
  refine lv_icmp_ge (tgt := 152) hx hb dX11_origin_144 (by decide) (fun c_1 => ?_) (fun c_1 => ?_)
  · have hp := hp.1 c_1
    refine lv_iconst hx hb dX11_origin_152 kI_2 ?_
    refine lv_iload hx hb dX11_origin_153 (lv_at hl 6 rfl) ?_
    refine lv_imul hx hb dX11_origin_155 ?_
    exact bX11_origin_156 hC hR hk19 x1 x2 x3 x5 x4 ((2 : Int32) * x6) w _ _ _ hp hS (lv_sub hl [0, 1, 2, 3, 5] rfl)
  · have hp := hp.2 c_1
    refine lv_iload hx hb dX11_origin_147 (lv_at hl 7 rfl) ?_
    refine lv_goto (tgt := 156) hx hb dX11_origin_149 (by decide) ?_
    exact bX11_origin_156 hC hR hk19 x1 x2 x3 x5 x4 x7 w _ _ _ hp hS (lv_sub hl [0, 1, 2, 3, 5] rfl)
set_option maxHeartbeats 4000000 in
set_option maxRecDepth 100000 in
theorem bX11_origin_114 {p : Program} {l : Launch} {e : Env} {s : State} {m : MethodId} {args : Array Value} {below : List Frame} {meth : Method} {c : Code} {Q : State → Prop} {A : Nat → Prop} {g : Gw} {post : Int32 → Wd → Prop}  (hC : Cx p s m args c cX11_origin RX11 10 g) (hR : RtI tabM p l e (rk 3) s m args below meth c Q cX11_origin A g post)  {k37 : Int32 → Int32 → Int32 → Int32 → Int32 → Int32 → Int32 → Int32 → Wd → Prop} (hk37 : ∀ (x1 : Int32) (x2 : Int32) (x3 : Int32) (x4 : Int32) (x5 : Int32) (x6 : Int32) (x7 : Int32) (x8 : Int32) (w : Wd) (H : Heap) (locs : List Loc) (ls : Array Slot), k37 x1 x2 x3 x4 x5 x6 x7 x8 w → St tabM A s.heap g w H locs → lv_has ls 10 [(0, .ref (g.2.2 300)), (1, .int x1), (2, .int x2), (3, .int x3), (4, .int x4), (5, .int x5), (6, .int x6), (7, .int x7), (8, .int x8)] → W p l e (rk 3) s m args below meth c H locs 0 0 Q (F0 m 37 ls [])) : ∀ (x1 : Int32) (x2 : Int32) (x3 : Int32) (x4 : Int32) (x5 : Int32) (x6 : Int32) (x7 : Int32) (x8 : Int32) (w : Wd) (H : Heap) (locs : List Loc) (ls : Array Slot), pX11_origin_114 k37 post x1 x2 x3 x4 x5 x6 x7 x8 w → St tabM A s.heap g w H locs → lv_has ls 10 [(0, .ref (g.2.2 300)), (1, .int x1), (2, .int x2), (3, .int x3), (4, .int x4), (5, .int x5), (6, .int x6), (7, .int x7), (8, .int x8)] → W p l e (rk 3) s m args below meth c H locs 0 0 Q (F0 m 114 ls []) := by
  have hx := hC.1
  have hb := hC.2.1
  intro x1 x2 x3 x4 x5 x6 x7 x8 w H locs ls hp hS hl
  unfold pX11_origin_114 at hp
  obtain ⟨x8_1, ex8_1⟩ : ∃ y : Int32, y = x8 + (1 : Int32) := ⟨_, rfl⟩
  have hp := hp x8_1 ex8_1
  refine lv_iinc (v := x8_1) (lv' := [(8, .int x8_1), (0, .ref (g.2.2 300)), (1, .int x1), (2, .int x2), (3, .int x3), (4, .int x4), (5, .int x5), (6, .int x6), (7, .int x7)]) hx hb dX11_origin_114 hl (k := 8) rfl (by rw [ex8_1]; rfl) (by decide) rfl (fun ls hl => ?_)
  refine lv_goto (tgt := 37) hx hb dX11_origin_117 (by decide) ?_
  exact hk37 x1 x2 x3 x4 x5 x6 x7 x8_1 w _ _ _ hp hS (lv_sub hl [1, 2, 3, 4, 5, 6, 7, 8, 0] rfl)
set_option maxHeartbeats 4000000 in
set_option maxRecDepth 100000 in
theorem bX11_origin_92 {p : Program} {l : Launch} {e : Env} {s : State} {m : MethodId} {args : Array Value} {below : List Frame} {meth : Method} {c : Code} {Q : State → Prop} {A : Nat → Prop} {g : Gw} {post : Int32 → Wd → Prop}  (hC : Cx p s m args c cX11_origin RX11 10 g) (hR : RtI tabM p l e (rk 3) s m args below meth c Q cX11_origin A g post)  {k37 : Int32 → Int32 → Int32 → Int32 → Int32 → Int32 → Int32 → Int32 → Wd → Prop} (hk37 : ∀ (x1 : Int32) (x2 : Int32) (x3 : Int32) (x4 : Int32) (x5 : Int32) (x6 : Int32) (x7 : Int32) (x8 : Int32) (w : Wd) (H : Heap) (locs : List Loc) (ls : Array Slot), k37 x1 x2 x3 x4 x5 x6 x7 x8 w → St tabM A s.heap g w H locs → lv_has ls 10 [(0, .ref (g.2.2 300)), (1, .int x1), (2, .int x2), (3, .int x3), (4, .int x4), (5, .int x5), (6, .int x6), (7, .int x7), (8, .int x8)] → W p l e (rk 3) s m args below meth c H locs 0 0 Q (F0 m 37 ls [])) : ∀ (x1 : Int32) (x2 : Int32) (x3 : Int32) (x4 : Int32) (x5 : Int32) (x6 : Int32) (x7 : Int32) (x8 : Int32) (t0 : Int32) (w : Wd) (H : Heap) (locs : List Loc) (ls : Array Slot), pX11_origin_92 k37 post x1 x2 x3 x4 x5 x6 x7 x8 t0 w → St tabM A s.heap g w H locs → lv_has ls 10 [(0, .ref (g.2.2 300)), (1, .int x1), (2, .int x2), (3, .int x3), (4, .int x4), (5, .int x5), (6, .int x6), (7, .int x7), (8, .int x8)] → W p l e (rk 3) s m args below meth c H locs 0 0 Q (F0 m 92 ls [.int t0]) := by
  have hx := hC.1
  have hb := hC.2.1
  intro x1 x2 x3 x4 x5 x6 x7 x8 t0 w H locs ls hp hS hl
  unfold pX11_origin_92 at hp
  refine lv_istore (lv' := [(9, .int t0), (0, .ref (g.2.2 300)), (1, .int x1), (2, .int x2), (3, .int x3), (4, .int x4), (5, .int x5), (6, .int x6), (7, .int x7), (8, .int x8)]) hx hb dX11_origin_92 hl (by decide) rfl (fun ls hl => ?_)
  refine lv_iload hx hb dX11_origin_94 (lv_at hl 0 rfl) ?_
  refine lv_iload hx hb dX11_origin_96 (lv_at hl 6 rfl) ?_
  refine lv_ishr hx hb dX11_origin_98 ?_
  refine lv_iconst hx hb dX11_origin_99 kI_1 ?_
  refine lv_iand hx hb dX11_origin_100 ?_
  refine lv_iconst hx hb dX11_origin_101 kI_1 ?_
  refine lv_icmp_ne (tgt := 111) hx hb dX11_origin_102 (by decide) (fun c_1 => ?_) (fun c_1 => ?_)
  · have hp := hp.1 c_1
    obtain ⟨x7_2, ex7_2⟩ : ∃ y : Int32, y = x7 + (1 : Int32) := ⟨_, rfl⟩
    have hp := hp x7_2 ex7_2
    refine lv_iinc (v := x7_2) (lv' := [(7, .int x7_2), (9, .int t0), (0, .ref (g.2.2 300)), (1, .int x1), (2, .int x2), (3, .int x3), (4, .int x4), (5, .int x5), (6, .int x6), (8, .int x8)]) hx hb dX11_origin_111 hl (k := 8) rfl (by rw [ex7_2]; rfl) (by decide) rfl (fun ls hl => ?_)
    exact bX11_origin_114 hC hR hk37 x1 x2 x3 x4 x5 x6 x7_2 x8 w _ _ _ hp hS (lv_sub hl [2, 3, 4, 5, 6, 7, 8, 0, 9] rfl)
  · have hp := hp.2 c_1
    obtain ⟨x6_3, ex6_3⟩ : ∃ y : Int32, y = x6 + (1 : Int32) := ⟨_, rfl⟩
    have hp := hp x6_3 ex6_3
    refine lv_iinc (v := x6_3) (lv' := [(6, .int x6_3), (9, .int t0), (0, .ref (g.2.2 300)), (1, .int x1), (2, .int x2), (3, .int x3), (4, .int x4), (5, .int x5), (7, .int x7), (8, .int x8)]) hx hb dX11_origin_105 hl (k := 7) rfl (by rw [ex6_3]; rfl) (by decide) rfl (fun ls hl => ?_)
    refine lv_goto (tgt := 114) hx hb dX11_origin_108 (by decide) ?_
    exact bX11_origin_114 hC hR hk37 x1 x2 x3 x4 x5 x6_3 x7 x8 w _ _ _ hp hS (lv_sub hl [2, 3, 4, 5, 6, 7, 0, 8, 9] rfl)
set_option maxHeartbeats 4000000 in
set_option maxRecDepth 100000 in
theorem bX11_origin_37 {p : Program} {l : Launch} {e : Env} {s : State} {m : MethodId} {args : Array Value} {below : List Frame} {meth : Method} {c : Code} {Q : State → Prop} {A : Nat → Prop} {g : Gw} {post : Int32 → Wd → Prop}  (hC : Cx p s m args c cX11_origin RX11 10 g) (hR : RtI tabM p l e (rk 3) s m args below meth c Q cX11_origin A g post)  {k19 : Int32 → Int32 → Int32 → Int32 → Int32 → Wd → Prop} (hk19 : ∀ (x1 : Int32) (x2 : Int32) (x3 : Int32) (x4 : Int32) (x5 : Int32) (w : Wd) (H : Heap) (locs : List Loc) (ls : Array Slot), k19 x1 x2 x3 x4 x5 w → St tabM A s.heap g w H locs → lv_has ls 10 [(0, .ref (g.2.2 300)), (1, .int x1), (2, .int x2), (3, .int x3), (4, .int x4), (5, .int x5)] → W p l e (rk 3) s m args below meth c H locs 0 0 Q (F0 m 19 ls [])) : ∀ (n : Nat) (x1 : Int32) (x2 : Int32) (x3 : Int32) (x4 : Int32) (x5 : Int32) (x6 : Int32) (x7 : Int32) (x8 : Int32) (w : Wd) (H : Heap) (locs : List Loc) (ls : Array Slot), pX11_origin_37 k19 post n x1 x2 x3 x4 x5 x6 x7 x8 w → St tabM A s.heap g w H locs → lv_has ls 10 [(0, .ref (g.2.2 300)), (1, .int x1), (2, .int x2), (3, .int x3), (4, .int x4), (5, .int x5), (6, .int x6), (7, .int x7), (8, .int x8)] → W p l e (rk 3) s m args below meth c H locs 0 0 Q (F0 m 37 ls []) := by
  have hx := hC.1
  have hb := hC.2.1
  intro n
  induction n with
  | zero =>
    intro x1 x2 x3 x4 x5 x6 x7 x8 w H locs ls hp hS hl
    exact False.elim hp
  | succ n ih =>
    intro x1 x2 x3 x4 x5 x6 x7 x8 w H locs ls hp hS hl
    unfold pX11_origin_37 at hp
    refine lv_iload hx hb dX11_origin_37 (lv_at hl 8 rfl) ?_
    refine lv_aload_n hx hb dX11_origin_39 rfl (lv_at hl 0 rfl) ?_
    refine G_300_58 hC hS m311 dX11_origin_40 ?_
    refine lv_icmp_ge (tgt := 120) hx hb dX11_origin_43 (by decide) (fun c_1 => ?_) (fun c_1 => ?_)
    · have hp := hp.1 c_1
      refine lv_iload hx hb dX11_origin_120 (lv_at hl 7 rfl) ?_
      refine lv_iconst hx hb dX11_origin_122 kI_2 ?_
      refine lv_iload hx hb dX11_origin_123 (lv_at hl 6 rfl) ?_
      refine lv_imul hx hb dX11_origin_125 ?_
      refine lv_icmp_ge (tgt := 136) hx hb dX11_origin_126 (by decide) (fun c_2 => ?_) (fun c_2 => ?_)
      · have hp := hp.1 c_2
        exact bX11_origin_136 hC hR hk19 x1 x2 x3 x4 x5 x6 x7 w _ _ _ hp hS (lv_sub hl [0, 1, 2, 3, 4, 5, 6, 7] rfl)
      · have hp := hp.2 c_2
        refine lv_iload_n hx hb dX11_origin_129 rfl (lv_at hl 3 rfl) ?_
        refine lv_iconst hx hb dX11_origin_130 kI_1 ?_
        refine lv_iload hx hb dX11_origin_131 (lv_at hl 5 rfl) ?_
        refine lv_ishl hx hb dX11_origin_133 ?_
        refine lv_ior hx hb dX11_origin_134 ?_
        refine lv_topi (fun x3_3 ex3_3 => ?_)
        have hp := hp x3_3 ex3_3
        refine lv_istore_n (lv' := [(3, .int x3_3), (0, .ref (g.2.2 300)), (1, .int x1), (2, .int x2), (4, .int x4), (5, .int x5), (6, .int x6), (7, .int x7), (8, .int x8)]) hx hb dX11_origin_135 rfl hl (by decide) rfl (fun ls hl => ?_)
        exact bX11_origin_136 hC hR hk19 x1 x2 x3_3 x4 x5 x6 x7 w _ _ _ hp hS (lv_sub hl [1, 2, 3, 0, 4, 5, 6, 7] rfl)
    · have hp := hp.2 c_1
      refine lv_aload_n hx hb dX11_origin_46 rfl (lv_at hl 0 rfl) ?_
      refine lv_iload hx hb dX11_origin_47 (lv_at hl 8 rfl) ?_
      refine lv_iconst hx hb dX11_origin_49 kI_0 ?_
      refine lv_iload_n hx hb dX11_origin_50 rfl (lv_at hl 2 rfl) ?_
      refine q_cvI (As := [.int x8, .int (0 : Int32), .int x2]) (rest := []) hC hS hl.1 (rX11_counts hp) cwX11_430 yvX11_counts (rcv_300 hC hS) rfl rfl (Nat.le_of_ble_eq_true rfl) (rmk (by decide) (by decide)) dX11_origin_51 (fun r_4 w_5 H locs hp hS => ?_)
      refine lv_if_ne (tgt := 60) hx hb dX11_origin_54 (by decide) (fun c_6 => ?_) (fun c_6 => ?_)
      · have hp := hp.1 c_6
        refine lv_aload_n hx hb dX11_origin_60 rfl (lv_at hl 0 rfl) ?_
        refine G_300_54 hC hS m286 dX11_origin_61 ?_
        refine lv_iload hx hb dX11_origin_64 (lv_at hl 8 rfl) ?_
        refine La_355 hC hS hp.1 dX11_origin_66 ?_
        have hp := hp.2
        refine lv_iconst hx hb dX11_origin_67 kI_1 ?_
        refine lv_icmp_ne (tgt := 85) hx hb dX11_origin_68 (by decide) (fun c_7 => ?_) (fun c_7 => ?_)
        · have hp := hp.1 c_7
          refine lv_aload_n hx hb dX11_origin_85 rfl (lv_at hl 0 rfl) ?_
          refine G_300_53 hC hS m285 dX11_origin_86 ?_
          refine lv_iload hx hb dX11_origin_89 (lv_at hl 8 rfl) ?_
          refine La_354 hC hS hp.1 dX11_origin_91 ?_
          have hp := hp.2
          exact bX11_origin_92 hC hR ih x1 x2 x3 x4 x5 x6 x7 x8 (w_5.2.1 354 x8.toNatClampNeg) w_5 _ _ _ hp hS (lv_sub hl [0, 1, 2, 3, 4, 5, 6, 7, 8] rfl)
        · have hp := hp.2 c_7
          refine lv_aload_n hx hb dX11_origin_71 rfl (lv_at hl 0 rfl) ?_
          refine lv_aload_n hx hb dX11_origin_72 rfl (lv_at hl 0 rfl) ?_
          refine G_300_53 hC hS m285 dX11_origin_73 ?_
          refine lv_iload hx hb dX11_origin_76 (lv_at hl 8 rfl) ?_
          refine La_354 hC hS hp.1 dX11_origin_78 ?_
          have hp := hp.2
          refine q_cvI (As := [.int (w_5.2.1 354 x8.toNatClampNeg)]) (rest := []) hC hS hl.1 (rX11_turnedRow hp) cwX11_349 yvX11_turnedRow (rcv_300 hC hS) rfl rfl (Nat.le_of_ble_eq_true rfl) (rmk (by decide) (by decide)) dX11_origin_79 (fun r_8 w_9 H locs hp hS => ?_)
          refine lv_goto (tgt := 92) hx hb dX11_origin_82 (by decide) ?_
          exact bX11_origin_92 hC hR ih x1 x2 x3 x4 x5 x6 x7 x8 r_8 w_9 _ _ _ hp hS (lv_sub hl [0, 1, 2, 3, 4, 5, 6, 7, 8] rfl)
      · have hp := hp.2 c_6
        refine lv_goto (tgt := 114) hx hb dX11_origin_57 (by decide) ?_
        exact bX11_origin_114 hC hR ih x1 x2 x3 x4 x5 x6 x7 x8 w_5 _ _ _ hp hS (lv_sub hl [0, 1, 2, 3, 4, 5, 6, 7, 8] rfl)
set_option maxHeartbeats 4000000 in
set_option maxRecDepth 100000 in
theorem bX11_origin_19 {p : Program} {l : Launch} {e : Env} {s : State} {m : MethodId} {args : Array Value} {below : List Frame} {meth : Method} {c : Code} {Q : State → Prop} {A : Nat → Prop} {g : Gw} {post : Int32 → Wd → Prop}  (hC : Cx p s m args c cX11_origin RX11 10 g) (hR : RtI tabM p l e (rk 3) s m args below meth c Q cX11_origin A g post)  : ∀ (n : Nat) (x1 : Int32) (x2 : Int32) (x3 : Int32) (x4 : Int32) (x5 : Int32) (w : Wd) (H : Heap) (locs : List Loc) (ls : Array Slot), pX11_origin_19 post n x1 x2 x3 x4 x5 w → St tabM A s.heap g w H locs → lv_has ls 10 [(0, .ref (g.2.2 300)), (1, .int x1), (2, .int x2), (3, .int x3), (4, .int x4), (5, .int x5)] → W p l e (rk 3) s m args below meth c H locs 0 0 Q (F0 m 19 ls []) := by
  have hx := hC.1
  have hb := hC.2.1
  intro n
  induction n with
  | zero =>
    intro x1 x2 x3 x4 x5 w H locs ls hp hS hl
    exact False.elim hp
  | succ n ih =>
    intro x1 x2 x3 x4 x5 w H locs ls hp hS hl
    unfold pX11_origin_19 at hp
    refine lv_iload hx hb dX11_origin_19 (lv_at hl 5 rfl) ?_
    refine lv_aload_n hx hb dX11_origin_21 rfl (lv_at hl 0 rfl) ?_
    refine q_cvI (As := []) (rest := [.int x5]) hC hS hl.1 (rX11_width hp) cwX11_342 yvX11_width (rcv_300 hC hS) rfl rfl (Nat.le_of_ble_eq_true rfl) (rmk (by decide) (by decide)) dX11_origin_22 (fun r_1 w_2 H locs hp hS => ?_)
    refine lv_icmp_ge (tgt := 165) hx hb dX11_origin_25 (by decide) (fun c_3 => ?_) (fun c_3 => ?_)
    · have hp := hp.1 c_3
      refine lv_iload_n hx hb dX11_origin_165 rfl (lv_at hl 1 rfl) ?_
      refine lv_if_ne (tgt := 173) hx hb dX11_origin_166 (by decide) (fun c_4 => ?_) (fun c_4 => ?_)
      · have hp := hp.1 c_4
        refine lv_iload hx hb dX11_origin_173 (lv_at hl 4 rfl) ?_
        exact hR _ _ _ _ _ _ dX11_origin_175 hp hS
      · have hp := hp.2 c_4
        refine lv_iload_n hx hb dX11_origin_169 rfl (lv_at hl 3 rfl) ?_
        refine lv_goto (tgt := 175) hx hb dX11_origin_170 (by decide) ?_
        exact hR _ _ _ _ _ _ dX11_origin_175 hp hS
    · have hp := hp.2 c_3
      refine lv_iconst hx hb dX11_origin_28 kI_0 ?_
      refine lv_istore (lv' := [(6, .int (0 : Int32)), (0, .ref (g.2.2 300)), (1, .int x1), (2, .int x2), (3, .int x3), (4, .int x4), (5, .int x5)]) hx hb dX11_origin_29 hl (by decide) rfl (fun ls hl => ?_)
      refine lv_iconst hx hb dX11_origin_31 kI_0 ?_
      refine lv_istore (lv' := [(7, .int (0 : Int32)), (6, .int (0 : Int32)), (0, .ref (g.2.2 300)), (1, .int x1), (2, .int x2), (3, .int x3), (4, .int x4), (5, .int x5)]) hx hb dX11_origin_32 hl (by decide) rfl (fun ls hl => ?_)
      refine lv_iconst hx hb dX11_origin_34 kI_0 ?_
      refine lv_istore (lv' := [(8, .int (0 : Int32)), (7, .int (0 : Int32)), (6, .int (0 : Int32)), (0, .ref (g.2.2 300)), (1, .int x1), (2, .int x2), (3, .int x3), (4, .int x4), (5, .int x5)]) hx hb dX11_origin_35 hl (by decide) rfl (fun ls hl => ?_)
      obtain ⟨n9, hp⟩ := hp
      exact bX11_origin_37 hC hR ih n9 x1 x2 x3 x4 x5 (0 : Int32) (0 : Int32) (0 : Int32) w_2 _ _ _ hp hS (lv_sub hl [3, 4, 5, 6, 7, 8, 2, 1, 0] rfl)
set_option maxHeartbeats 4000000 in
set_option maxRecDepth 100000 in
theorem rX11_origin {l : Launch} {g : Gw} {w : Wd} {post : Int32 → Wd → Prop}   {x1 : Int32} {x2 : Int32} (hp : pX11_origin post x1 x2 w) : MtI tabM l yX11_origin cX11_origin 10 (some .int) 3 g w [.ref (g.2.2 300), .int x1, .int x2] post := by
  refine q_entI tabM_nd (by decide) rfl (Nat.le_of_ble_eq_true rfl) ?_
  intro p e s m args below meth c A Q ls hC hR hS hl
  have hx := hC.1
  have hb := hC.2.1
  have hl : lv_has ls 10 [(0, .ref (g.2.2 300)), (1, .int x1), (2, .int x2)] := hl
  unfold pX11_origin at hp
  refine lv_iload_n hx hb dX11_origin_0 rfl (lv_at hl 1 rfl) ?_
  refine lv_iconst hx hb dX11_origin_1 kI_0 ?_
  refine lv_iconst hx hb dX11_origin_2 kI_1 ?_
  refine q_csI (As := [.int x1, .int (0 : Int32), .int (1 : Int32)]) (rest := []) hC hS hl.1 (rX11_isIn hp) cwX11_345 ysX11_isIn rfl rfl (Nat.le_of_ble_eq_true rfl) (rmk (by decide) (by decide)) dX11_origin_3 (fun r_1 w_2 H locs hp hS => ?_)
  refine lv_if_ne (tgt := 11) hx hb dX11_origin_6 (by decide) (fun c_3 => ?_) (fun c_3 => ?_)
  · have hp := hp.1 c_3
    refine lv_iconst hx hb dX11_origin_11 kI_0 ?_
    refine lv_istore_n (lv' := [(3, .int (0 : Int32)), (0, .ref (g.2.2 300)), (1, .int x1), (2, .int x2)]) hx hb dX11_origin_12 rfl hl (by decide) rfl (fun ls hl => ?_)
    refine lv_iconst hx hb dX11_origin_13 kI_0 ?_
    refine lv_istore (lv' := [(4, .int (0 : Int32)), (3, .int (0 : Int32)), (0, .ref (g.2.2 300)), (1, .int x1), (2, .int x2)]) hx hb dX11_origin_14 hl (by decide) rfl (fun ls hl => ?_)
    refine lv_iconst hx hb dX11_origin_16 kI_0 ?_
    refine lv_istore (lv' := [(5, .int (0 : Int32)), (4, .int (0 : Int32)), (3, .int (0 : Int32)), (0, .ref (g.2.2 300)), (1, .int x1), (2, .int x2)]) hx hb dX11_origin_17 hl (by decide) rfl (fun ls hl => ?_)
    obtain ⟨n9, hp⟩ := hp
    exact bX11_origin_19 hC hR n9 x1 x2 (0 : Int32) (0 : Int32) (0 : Int32) w_2 _ _ _ hp hS (lv_sub hl [3, 4, 5, 2, 1, 0] rfl)
  · have hp := hp.2 c_3
    refine lv_iconst hx hb dX11_origin_9 kI_m1 ?_
    exact hR _ _ _ _ _ _ dX11_origin_10 hp hS
def pX11_isFalse (post : Int32 → Wd → Prop) (x1 : Int32) (w : Wd) : Prop := vp_in x1 40 ∧ pX11_isSeal (fun r_1 w_2 => (¬ r_1 = 0 → (vp_in x1 40 ∧ vp_in x1 40 ∧ pX11_rowOf (fun r_4 w_5 => pX11_turnedRow (fun r_6 w_7 => (¬ ((w_2.2.1 354 x1.toNatClampNeg) &&& (r_6 ^^^ (-1 : Int32))) = 0 → (post (1 : Int32) w_7)) ∧ (((w_2.2.1 354 x1.toNatClampNeg) &&& (r_6 ^^^ (-1 : Int32))) = 0 → (vp_in x1 40 ∧ vp_in x1 40 ∧ vp_in (((4 : Int32) * (w_7.2.1 355 x1.toNatClampNeg)) + (3 : Int32)) 221 ∧ ((w_7.2.1 341 (((4 : Int32) * (w_7.2.1 355 x1.toNatClampNeg)) + (3 : Int32)).toNatClampNeg) ≤ (w_7.2.1 356 x1.toNatClampNeg) → (post (0 : Int32) w_7)) ∧ (¬ (w_7.2.1 341 (((4 : Int32) * (w_7.2.1 355 x1.toNatClampNeg)) + (3 : Int32)).toNatClampNeg) ≤ (w_7.2.1 356 x1.toNatClampNeg) → (post (1 : Int32) w_7))))) r_4 w_5) (w_2.2.1 355 x1.toNatClampNeg) w_2)) ∧ (r_1 = 0 → (post (1 : Int32) w_2))) (w.2.1 355 x1.toNatClampNeg) w
set_option maxHeartbeats 4000000 in
set_option maxRecDepth 100000 in
theorem rX11_isFalse {l : Launch} {g : Gw} {w : Wd} {post : Int32 → Wd → Prop}   {x1 : Int32} (hp : pX11_isFalse post x1 w) : MtI tabM l yX11_isFalse cX11_isFalse 2 (some .boolean) 3 g w [.ref (g.2.2 300), .int x1] post := by
  refine q_entZ tabM_nd (by decide) rfl (Nat.le_of_ble_eq_true rfl) ?_
  intro p e s m args below meth c A Q ls hC hR hS hl
  have hx := hC.1
  have hb := hC.2.1
  have hl : lv_has ls 2 [(0, .ref (g.2.2 300)), (1, .int x1)] := hl
  unfold pX11_isFalse at hp
  refine lv_aload_n hx hb dX11_isFalse_0 rfl (lv_at hl 0 rfl) ?_
  refine lv_aload_n hx hb dX11_isFalse_1 rfl (lv_at hl 0 rfl) ?_
  refine G_300_54 hC hS m286 dX11_isFalse_2 ?_
  refine lv_iload_n hx hb dX11_isFalse_5 rfl (lv_at hl 1 rfl) ?_
  refine La_355 hC hS hp.1 dX11_isFalse_6 ?_
  have hp := hp.2
  refine q_cvI (As := [.int (w.2.1 355 x1.toNatClampNeg)]) (rest := []) hC hS hl.1 (rX11_isSeal hp) cwX11_383 yvX11_isSeal (rcv_300 hC hS) rfl rfl (Nat.le_of_ble_eq_true rfl) (rmk (by decide) (by decide)) dX11_isFalse_7 (fun r_1 w_2 H locs hp hS => ?_)
  refine lv_if_ne (tgt := 15) hx hb dX11_isFalse_10 (by decide) (fun c_3 => ?_) (fun c_3 => ?_)
  · have hp := hp.1 c_3
    refine lv_aload_n hx hb dX11_isFalse_15 rfl (lv_at hl 0 rfl) ?_
    refine G_300_53 hC hS m285 dX11_isFalse_16 ?_
    refine lv_iload_n hx hb dX11_isFalse_19 rfl (lv_at hl 1 rfl) ?_
    refine La_354 hC hS hp.1 dX11_isFalse_20 ?_
    have hp := hp.2
    refine lv_aload_n hx hb dX11_isFalse_21 rfl (lv_at hl 0 rfl) ?_
    refine lv_aload_n hx hb dX11_isFalse_22 rfl (lv_at hl 0 rfl) ?_
    refine lv_aload_n hx hb dX11_isFalse_23 rfl (lv_at hl 0 rfl) ?_
    refine G_300_54 hC hS m286 dX11_isFalse_24 ?_
    refine lv_iload_n hx hb dX11_isFalse_27 rfl (lv_at hl 1 rfl) ?_
    refine La_355 hC hS hp.1 dX11_isFalse_28 ?_
    have hp := hp.2
    refine q_cvI (As := [.int (w_2.2.1 355 x1.toNatClampNeg)]) (rest := [.ref (g.2.2 300), .int (w_2.2.1 354 x1.toNatClampNeg)]) hC hS hl.1 (rX11_rowOf hp) cwX11_392 yvX11_rowOf (rcv_300 hC hS) rfl rfl (Nat.le_of_ble_eq_true rfl) (rmk (by decide) (by decide)) dX11_isFalse_29 (fun r_4 w_5 H locs hp hS => ?_)
    refine q_cvI (As := [.int r_4]) (rest := [.int (w_2.2.1 354 x1.toNatClampNeg)]) hC hS hl.1 (rX11_turnedRow hp) cwX11_349 yvX11_turnedRow (rcv_300 hC hS) rfl rfl (Nat.le_of_ble_eq_true rfl) (rmk (by decide) (by decide)) dX11_isFalse_32 (fun r_6 w_7 H locs hp hS => ?_)
    refine lv_iconst hx hb dX11_isFalse_35 kI_m1 ?_
    refine lv_ixor hx hb dX11_isFalse_36 ?_
    refine lv_iand hx hb dX11_isFalse_37 ?_
    refine lv_if_ne (tgt := 65) hx hb dX11_isFalse_38 (by decide) (fun c_8 => ?_) (fun c_8 => ?_)
    · have hp := hp.1 c_8
      refine lv_iconst hx hb dX11_isFalse_65 kI_1 ?_
      refine lv_goto (tgt := 70) hx hb dX11_isFalse_66 (by decide) ?_
      exact hR _ _ _ _ _ _ dX11_isFalse_70 (by decide) hp hS
    · have hp := hp.2 c_8
      refine lv_aload_n hx hb dX11_isFalse_41 rfl (lv_at hl 0 rfl) ?_
      refine G_300_55 hC hS m287 dX11_isFalse_42 ?_
      refine lv_iload_n hx hb dX11_isFalse_45 rfl (lv_at hl 1 rfl) ?_
      refine La_356 hC hS hp.1 dX11_isFalse_46 ?_
      have hp := hp.2
      refine lv_aload_n hx hb dX11_isFalse_47 rfl (lv_at hl 0 rfl) ?_
      refine G_300_40 hC hS m274 dX11_isFalse_48 ?_
      refine lv_iconst hx hb dX11_isFalse_51 kI_4 ?_
      refine lv_aload_n hx hb dX11_isFalse_52 rfl (lv_at hl 0 rfl) ?_
      refine G_300_54 hC hS m286 dX11_isFalse_53 ?_
      refine lv_iload_n hx hb dX11_isFalse_56 rfl (lv_at hl 1 rfl) ?_
      refine La_355 hC hS hp.1 dX11_isFalse_57 ?_
      have hp := hp.2
      refine lv_imul hx hb dX11_isFalse_58 ?_
      refine lv_iconst hx hb dX11_isFalse_59 kI_3 ?_
      refine lv_iadd hx hb dX11_isFalse_60 ?_
      refine La_341 hC hS hp.1 dX11_isFalse_61 ?_
      have hp := hp.2
      refine lv_icmp_ge (tgt := 69) hx hb dX11_isFalse_62 (by decide) (fun c_9 => ?_) (fun c_9 => ?_)
      · have hp := hp.1 c_9
        refine lv_iconst hx hb dX11_isFalse_69 kI_0 ?_
        exact hR _ _ _ _ _ _ dX11_isFalse_70 (by decide) hp hS
      · have hp := hp.2 c_9
        refine lv_iconst hx hb dX11_isFalse_65 kI_1 ?_
        refine lv_goto (tgt := 70) hx hb dX11_isFalse_66 (by decide) ?_
        exact hR _ _ _ _ _ _ dX11_isFalse_70 (by decide) hp hS
  · have hp := hp.2 c_3
    refine lv_iconst hx hb dX11_isFalse_13 kI_1 ?_
    exact hR _ _ _ _ _ _ dX11_isFalse_14 (by decide) hp hS
def pX11_falses_73 (k9 : Int32 → Int32 → Int32 → Wd → Prop) (post : Int32 → Wd → Prop) (x1 : Int32) (x2 : Int32) (x3 : Int32) (w : Wd) : Prop := ∀ x3_1, x3_1 = x3 + (1 : Int32) → k9 x1 x2 x3_1 w
def pX11_falses_9 (post : Int32 → Wd → Prop) : Nat → Int32 → Int32 → Int32 → Wd → Prop
  | 0, _, _, _, _ => False
  | n + 1, x1, x2, x3, w => ((w.1 300 58) ≤ x3 → (post x2 w)) ∧ (¬ (w.1 300 58) ≤ x3 → (pX11_counts (fun r_2 w_3 => (r_2 = 0 → (pX11_falses_73 (pX11_falses_9 post n) post x1 x2 x3 w_3)) ∧ (¬ r_2 = 0 → (pX11_isFalse (fun r_5 w_6 => (¬ r_5 = 0 → (∀ x2_8, x2_8 = x2 + (1 : Int32) → (¬ (w_6.1 300 48) = (8 : Int32) → (vp_in (w_6.1 300 48) 12 ∧ ∀ w_10, w_10 = sA w_6 348 (w_6.1 300 48).toNatClampNeg x3 → ∀ w_11, w_11 = sI w_10 300 48 ((w_10.1 300 48) + (1 : Int32)) → pX11_falses_73 (pX11_falses_9 post n) post x1 x2_8 x3 w_11)) ∧ ((w_6.1 300 48) = (8 : Int32) → (pX11_falses_73 (pX11_falses_9 post n) post x1 x2_8 x3 w_6)))) ∧ (r_5 = 0 → (pX11_falses_73 (pX11_falses_9 post n) post x1 x2 x3 w_6))) x3 w_3))) x3 (1 : Int32) x1 w))
def pX11_falses (post : Int32 → Wd → Prop) (x1 : Int32) (w : Wd) : Prop := ∀ w_1, w_1 = sI w 300 48 (0 : Int32) → ∃ n9, pX11_falses_9 post n9 x1 (0 : Int32) (0 : Int32) w_1
set_option maxHeartbeats 4000000 in
set_option maxRecDepth 100000 in
theorem bX11_falses_73 {p : Program} {l : Launch} {e : Env} {s : State} {m : MethodId} {args : Array Value} {below : List Frame} {meth : Method} {c : Code} {Q : State → Prop} {A : Nat → Prop} {g : Gw} {post : Int32 → Wd → Prop}  (hC : Cx p s m args c cX11_falses RX11 4 g) (hR : RtI tabM p l e (rk 4) s m args below meth c Q cX11_falses A g post)  {k9 : Int32 → Int32 → Int32 → Wd → Prop} (hk9 : ∀ (x1 : Int32) (x2 : Int32) (x3 : Int32) (w : Wd) (H : Heap) (locs : List Loc) (ls : Array Slot), k9 x1 x2 x3 w → St tabM A s.heap g w H locs → lv_has ls 4 [(0, .ref (g.2.2 300)), (1, .int x1), (2, .int x2), (3, .int x3)] → W p l e (rk 4) s m args below meth c H locs 0 0 Q (F0 m 9 ls [])) : ∀ (x1 : Int32) (x2 : Int32) (x3 : Int32) (w : Wd) (H : Heap) (locs : List Loc) (ls : Array Slot), pX11_falses_73 k9 post x1 x2 x3 w → St tabM A s.heap g w H locs → lv_has ls 4 [(0, .ref (g.2.2 300)), (1, .int x1), (2, .int x2), (3, .int x3)] → W p l e (rk 4) s m args below meth c H locs 0 0 Q (F0 m 73 ls []) := by
  have hx := hC.1
  have hb := hC.2.1
  intro x1 x2 x3 w H locs ls hp hS hl
  unfold pX11_falses_73 at hp
  obtain ⟨x3_1, ex3_1⟩ : ∃ y : Int32, y = x3 + (1 : Int32) := ⟨_, rfl⟩
  have hp := hp x3_1 ex3_1
  refine lv_iinc (v := x3_1) (lv' := [(3, .int x3_1), (0, .ref (g.2.2 300)), (1, .int x1), (2, .int x2)]) hx hb dX11_falses_73 hl (k := 3) rfl (by rw [ex3_1]; rfl) (by decide) rfl (fun ls hl => ?_)
  refine lv_goto (tgt := 9) hx hb dX11_falses_76 (by decide) ?_
  exact hk9 x1 x2 x3_1 w _ _ _ hp hS (lv_sub hl [1, 2, 3, 0] rfl)
set_option maxHeartbeats 4000000 in
set_option maxRecDepth 100000 in
theorem bX11_falses_9 {p : Program} {l : Launch} {e : Env} {s : State} {m : MethodId} {args : Array Value} {below : List Frame} {meth : Method} {c : Code} {Q : State → Prop} {A : Nat → Prop} {g : Gw} {post : Int32 → Wd → Prop}  (hC : Cx p s m args c cX11_falses RX11 4 g) (hR : RtI tabM p l e (rk 4) s m args below meth c Q cX11_falses A g post)  : ∀ (n : Nat) (x1 : Int32) (x2 : Int32) (x3 : Int32) (w : Wd) (H : Heap) (locs : List Loc) (ls : Array Slot), pX11_falses_9 post n x1 x2 x3 w → St tabM A s.heap g w H locs → lv_has ls 4 [(0, .ref (g.2.2 300)), (1, .int x1), (2, .int x2), (3, .int x3)] → W p l e (rk 4) s m args below meth c H locs 0 0 Q (F0 m 9 ls []) := by
  have hx := hC.1
  have hb := hC.2.1
  intro n
  induction n with
  | zero =>
    intro x1 x2 x3 w H locs ls hp hS hl
    exact False.elim hp
  | succ n ih =>
    intro x1 x2 x3 w H locs ls hp hS hl
    unfold pX11_falses_9 at hp
    refine lv_iload_n hx hb dX11_falses_9 rfl (lv_at hl 3 rfl) ?_
    refine lv_aload_n hx hb dX11_falses_10 rfl (lv_at hl 0 rfl) ?_
    refine G_300_58 hC hS m311 dX11_falses_11 ?_
    refine lv_icmp_ge (tgt := 79) hx hb dX11_falses_14 (by decide) (fun c_1 => ?_) (fun c_1 => ?_)
    · have hp := hp.1 c_1
      refine lv_iload_n hx hb dX11_falses_79 rfl (lv_at hl 2 rfl) ?_
      exact hR _ _ _ _ _ _ dX11_falses_80 hp hS
    · have hp := hp.2 c_1
      refine lv_aload_n hx hb dX11_falses_17 rfl (lv_at hl 0 rfl) ?_
      refine lv_iload_n hx hb dX11_falses_18 rfl (lv_at hl 3 rfl) ?_
      refine lv_iconst hx hb dX11_falses_19 kI_1 ?_
      refine lv_iload_n hx hb dX11_falses_20 rfl (lv_at hl 1 rfl) ?_
      refine q_cvI (As := [.int x3, .int (1 : Int32), .int x1]) (rest := []) hC hS hl.1 (rX11_counts hp) cwX11_430 yvX11_counts (rcv_300 hC hS) rfl rfl (Nat.le_of_ble_eq_true rfl) (rmk (by decide) (by decide)) dX11_falses_21 (fun r_2 w_3 H locs hp hS => ?_)
      refine lv_if_eq (tgt := 73) hx hb dX11_falses_24 (by decide) (fun c_4 => ?_) (fun c_4 => ?_)
      · have hp := hp.1 c_4
        exact bX11_falses_73 hC hR ih x1 x2 x3 w_3 _ _ _ hp hS (lv_sub hl [0, 1, 2, 3] rfl)
      · have hp := hp.2 c_4
        refine lv_aload_n hx hb dX11_falses_27 rfl (lv_at hl 0 rfl) ?_
        refine lv_iload_n hx hb dX11_falses_28 rfl (lv_at hl 3 rfl) ?_
        refine q_cvI (As := [.int x3]) (rest := []) hC hS hl.1 (rX11_isFalse hp) cwX11_442 yvX11_isFalse (rcv_300 hC hS) rfl rfl (Nat.le_of_ble_eq_true rfl) (rmk (by decide) (by decide)) dX11_falses_29 (fun r_5 w_6 H locs hp hS => ?_)
        refine lv_if_ne (tgt := 38) hx hb dX11_falses_32 (by decide) (fun c_7 => ?_) (fun c_7 => ?_)
        · have hp := hp.1 c_7
          obtain ⟨x2_8, ex2_8⟩ : ∃ y : Int32, y = x2 + (1 : Int32) := ⟨_, rfl⟩
          have hp := hp x2_8 ex2_8
          refine lv_iinc (v := x2_8) (lv' := [(2, .int x2_8), (0, .ref (g.2.2 300)), (1, .int x1), (3, .int x3)]) hx hb dX11_falses_38 hl (k := 2) rfl (by rw [ex2_8]; rfl) (by decide) rfl (fun ls hl => ?_)
          refine lv_aload_n hx hb dX11_falses_41 rfl (lv_at hl 1 rfl) ?_
          refine G_300_48 hC hS m312 dX11_falses_42 ?_
          refine lv_bipush hx hb dX11_falses_45 kB_8 ?_
          refine lv_icmp_ne (tgt := 53) hx hb dX11_falses_47 (by decide) (fun c_9 => ?_) (fun c_9 => ?_)
          · have hp := hp.1 c_9
            refine lv_aload_n hx hb dX11_falses_53 rfl (lv_at hl 1 rfl) ?_
            refine G_300_47 hC hS m279 dX11_falses_54 ?_
            refine lv_aload_n hx hb dX11_falses_57 rfl (lv_at hl 1 rfl) ?_
            refine G_300_48 hC hS m312 dX11_falses_58 ?_
            refine lv_iload_n hx hb dX11_falses_61 rfl (lv_at hl 3 rfl) ?_
            refine Sa_348 hC hS hp.1 dX11_falses_62 (fun w_10 H locs ew_10 hS => ?_)
            have hp := hp.2
            have hp := hp w_10 ew_10
            refine lv_aload_n hx hb dX11_falses_63 rfl (lv_at hl 1 rfl) ?_
            refine lv_dup hx hb dX11_falses_64 rfl ?_
            refine G_300_48 hC hS m312 dX11_falses_65 ?_
            refine lv_iconst hx hb dX11_falses_68 kI_1 ?_
            refine lv_iadd hx hb dX11_falses_69 ?_
            refine P_300_48 hC hS m312 dX11_falses_70 (fun w_11 H locs ew_11 hS => ?_)
            have hp := hp w_11 ew_11
            exact bX11_falses_73 hC hR ih x1 x2_8 x3 w_11 _ _ _ hp hS (lv_sub hl [1, 2, 0, 3] rfl)
          · have hp := hp.2 c_9
            refine lv_goto (tgt := 73) hx hb dX11_falses_50 (by decide) ?_
            exact bX11_falses_73 hC hR ih x1 x2_8 x3 w_6 _ _ _ hp hS (lv_sub hl [1, 2, 0, 3] rfl)
        · have hp := hp.2 c_7
          refine lv_goto (tgt := 73) hx hb dX11_falses_35 (by decide) ?_
          exact bX11_falses_73 hC hR ih x1 x2 x3 w_6 _ _ _ hp hS (lv_sub hl [0, 1, 2, 3] rfl)
set_option maxHeartbeats 4000000 in
set_option maxRecDepth 100000 in
theorem rX11_falses {l : Launch} {g : Gw} {w : Wd} {post : Int32 → Wd → Prop}   {x1 : Int32} (hp : pX11_falses post x1 w) : MtI tabM l yX11_falses cX11_falses 4 (some .int) 4 g w [.ref (g.2.2 300), .int x1] post := by
  refine q_entI tabM_nd (by decide) rfl (Nat.le_of_ble_eq_true rfl) ?_
  intro p e s m args below meth c A Q ls hC hR hS hl
  have hx := hC.1
  have hb := hC.2.1
  have hl : lv_has ls 4 [(0, .ref (g.2.2 300)), (1, .int x1)] := hl
  unfold pX11_falses at hp
  refine lv_aload_n hx hb dX11_falses_0 rfl (lv_at hl 0 rfl) ?_
  refine lv_iconst hx hb dX11_falses_1 kI_0 ?_
  refine P_300_48 hC hS m312 dX11_falses_2 (fun w_1 H locs ew_1 hS => ?_)
  have hp := hp w_1 ew_1
  refine lv_iconst hx hb dX11_falses_5 kI_0 ?_
  refine lv_istore_n (lv' := [(2, .int (0 : Int32)), (0, .ref (g.2.2 300)), (1, .int x1)]) hx hb dX11_falses_6 rfl hl (by decide) rfl (fun ls hl => ?_)
  refine lv_iconst hx hb dX11_falses_7 kI_0 ?_
  refine lv_istore_n (lv' := [(3, .int (0 : Int32)), (2, .int (0 : Int32)), (0, .ref (g.2.2 300)), (1, .int x1)]) hx hb dX11_falses_8 rfl hl (by decide) rfl (fun ls hl => ?_)
  obtain ⟨n9, hp⟩ := hp
  exact bX11_falses_9 hC hR n9 x1 (0 : Int32) (0 : Int32) w_1 _ _ _ hp hS (lv_sub hl [2, 3, 1, 0] rfl)
def pX11_span_137 (k36 : Int32 → Int32 → Int32 → Int32 → Int32 → Int32 → Wd → Prop) (post : Int32 → Wd → Prop) (x1 : Int32) (x2 : Int32) (x3 : Int32) (x4 : Int32) (x5 : Int32) (x6 : Int32) (w : Wd) : Prop := ∀ x6_1, x6_1 = x6 + (1 : Int32) → k36 x1 x2 x3 x4 x5 x6_1 w
def pX11_span_106 (k36 : Int32 → Int32 → Int32 → Int32 → Int32 → Int32 → Wd → Prop) (post : Int32 → Wd → Prop) (x1 : Int32) (x2 : Int32) (x3 : Int32) (x4 : Int32) (x5 : Int32) (x6 : Int32) (w : Wd) : Prop := vp_in x6 40 ∧ (¬ (w.2.1 356 x6.toNatClampNeg) = 0 → (pX11_span_137 k36 post x1 x2 x3 x4 x5 x6 w)) ∧ ((w.2.1 356 x6.toNatClampNeg) = 0 → (vp_in x6 40 ∧ (x5 ≤ (w.2.1 355 x6.toNatClampNeg) → (pX11_span_137 k36 post x1 x2 x3 x4 x5 x6 w)) ∧ (¬ x5 ≤ (w.2.1 355 x6.toNatClampNeg) → (vp_in x6 40 ∧ ∀ x5_3, x5_3 = (w.2.1 355 x6.toNatClampNeg) → pX11_span_137 k36 post x1 x2 x3 x4 x5_3 x6 w))))
def pX11_span_36 (post : Int32 → Wd → Prop) : Nat → Int32 → Int32 → Int32 → Int32 → Int32 → Int32 → Wd → Prop
  | 0, _, _, _, _, _, _, _ => False
  | n + 1, x1, x2, x3, x4, x5, x6, w => ((w.1 300 58) ≤ x6 → ((¬ x2 = (2 : Int32) → ((x4 ≤ x5 → ((¬ x2 = 0 → (post x5 w)) ∧ (x2 = 0 → (post x4 w)))) ∧ (¬ x4 ≤ x5 → (post (-1 : Int32) w)))) ∧ (x2 = (2 : Int32) → ((x4 ≤ x5 → (post ((x5 - x4) + (1 : Int32)) w)) ∧ (¬ x4 ≤ x5 → (post (0 : Int32) w)))))) ∧ (¬ (w.1 300 58) ≤ x6 → (pX11_counts (fun r_6 w_7 => (r_6 = 0 → (pX11_span_137 (pX11_span_36 post n) post x1 x2 x3 x4 x5 x6 w_7)) ∧ (¬ r_6 = 0 → (vp_in x6 40 ∧ ((w_7.2.1 354 x6.toNatClampNeg) = x1 → (vp_in x6 40 ∧ (¬ (w_7.2.1 356 x6.toNatClampNeg) = (1 : Int32) → (pX11_span_106 (pX11_span_36 post n) post x1 x2 x3 x4 x5 x6 w_7)) ∧ ((w_7.2.1 356 x6.toNatClampNeg) = (1 : Int32) → (vp_in x6 40 ∧ (((w_7.2.1 355 x6.toNatClampNeg) + (1 : Int32)) ≤ x4 → (pX11_span_106 (pX11_span_36 post n) post x1 x2 x3 x4 x5 x6 w_7)) ∧ (¬ ((w_7.2.1 355 x6.toNatClampNeg) + (1 : Int32)) ≤ x4 → (vp_in x6 40 ∧ ∀ x4_12, x4_12 = ((w_7.2.1 355 x6.toNatClampNeg) + (1 : Int32)) → pX11_span_106 (pX11_span_36 post n) post x1 x2 x3 x4_12 x5 x6 w_7)))))) ∧ (¬ (w_7.2.1 354 x6.toNatClampNeg) = x1 → (pX11_span_137 (pX11_span_36 post n) post x1 x2 x3 x4 x5 x6 w_7))))) x6 (2 : Int32) x3 w))
def pX11_span (post : Int32 → Wd → Prop) (x1 : Int32) (x2 : Int32) (x3 : Int32) (w : Wd) : Prop := pX11_width (fun r_1 w_2 => pX11_isIn (fun r_3 w_4 => (r_3 = 0 → (post (-1 : Int32) w_4)) ∧ (¬ r_3 = 0 → (pX11_isIn (fun r_6 w_7 => (¬ r_6 = 0 → (∃ n9, pX11_span_36 post n9 x1 x2 x3 (0 : Int32) (999 : Int32) (0 : Int32) w_7)) ∧ (r_6 = 0 → (post (-1 : Int32) w_7))) x2 (0 : Int32) (2 : Int32) w_4))) x1 (0 : Int32) (r_1 - (1 : Int32)) w_2) w
set_option maxHeartbeats 4000000 in
set_option maxRecDepth 100000 in
theorem bX11_span_137 {p : Program} {l : Launch} {e : Env} {s : State} {m : MethodId} {args : Array Value} {below : List Frame} {meth : Method} {c : Code} {Q : State → Prop} {A : Nat → Prop} {g : Gw} {post : Int32 → Wd → Prop}  (hC : Cx p s m args c cX11_span RX11 7 g) (hR : RtI tabM p l e (rk 2) s m args below meth c Q cX11_span A g post)  {k36 : Int32 → Int32 → Int32 → Int32 → Int32 → Int32 → Wd → Prop} (hk36 : ∀ (x1 : Int32) (x2 : Int32) (x3 : Int32) (x4 : Int32) (x5 : Int32) (x6 : Int32) (w : Wd) (H : Heap) (locs : List Loc) (ls : Array Slot), k36 x1 x2 x3 x4 x5 x6 w → St tabM A s.heap g w H locs → lv_has ls 7 [(0, .ref (g.2.2 300)), (1, .int x1), (2, .int x2), (3, .int x3), (4, .int x4), (5, .int x5), (6, .int x6)] → W p l e (rk 2) s m args below meth c H locs 0 0 Q (F0 m 36 ls [])) : ∀ (x1 : Int32) (x2 : Int32) (x3 : Int32) (x4 : Int32) (x5 : Int32) (x6 : Int32) (w : Wd) (H : Heap) (locs : List Loc) (ls : Array Slot), pX11_span_137 k36 post x1 x2 x3 x4 x5 x6 w → St tabM A s.heap g w H locs → lv_has ls 7 [(0, .ref (g.2.2 300)), (1, .int x1), (2, .int x2), (3, .int x3), (4, .int x4), (5, .int x5), (6, .int x6)] → W p l e (rk 2) s m args below meth c H locs 0 0 Q (F0 m 137 ls []) := by
  have hx := hC.1
  have hb := hC.2.1
  intro x1 x2 x3 x4 x5 x6 w H locs ls hp hS hl
  unfold pX11_span_137 at hp
  obtain ⟨x6_1, ex6_1⟩ : ∃ y : Int32, y = x6 + (1 : Int32) := ⟨_, rfl⟩
  have hp := hp x6_1 ex6_1
  refine lv_iinc (v := x6_1) (lv' := [(6, .int x6_1), (0, .ref (g.2.2 300)), (1, .int x1), (2, .int x2), (3, .int x3), (4, .int x4), (5, .int x5)]) hx hb dX11_span_137 hl (k := 6) rfl (by rw [ex6_1]; rfl) (by decide) rfl (fun ls hl => ?_)
  refine lv_goto (tgt := 36) hx hb dX11_span_140 (by decide) ?_
  exact hk36 x1 x2 x3 x4 x5 x6_1 w _ _ _ hp hS (lv_sub hl [1, 2, 3, 4, 5, 6, 0] rfl)
set_option maxHeartbeats 4000000 in
set_option maxRecDepth 100000 in
theorem bX11_span_106 {p : Program} {l : Launch} {e : Env} {s : State} {m : MethodId} {args : Array Value} {below : List Frame} {meth : Method} {c : Code} {Q : State → Prop} {A : Nat → Prop} {g : Gw} {post : Int32 → Wd → Prop}  (hC : Cx p s m args c cX11_span RX11 7 g) (hR : RtI tabM p l e (rk 2) s m args below meth c Q cX11_span A g post)  {k36 : Int32 → Int32 → Int32 → Int32 → Int32 → Int32 → Wd → Prop} (hk36 : ∀ (x1 : Int32) (x2 : Int32) (x3 : Int32) (x4 : Int32) (x5 : Int32) (x6 : Int32) (w : Wd) (H : Heap) (locs : List Loc) (ls : Array Slot), k36 x1 x2 x3 x4 x5 x6 w → St tabM A s.heap g w H locs → lv_has ls 7 [(0, .ref (g.2.2 300)), (1, .int x1), (2, .int x2), (3, .int x3), (4, .int x4), (5, .int x5), (6, .int x6)] → W p l e (rk 2) s m args below meth c H locs 0 0 Q (F0 m 36 ls [])) : ∀ (x1 : Int32) (x2 : Int32) (x3 : Int32) (x4 : Int32) (x5 : Int32) (x6 : Int32) (w : Wd) (H : Heap) (locs : List Loc) (ls : Array Slot), pX11_span_106 k36 post x1 x2 x3 x4 x5 x6 w → St tabM A s.heap g w H locs → lv_has ls 7 [(0, .ref (g.2.2 300)), (1, .int x1), (2, .int x2), (3, .int x3), (4, .int x4), (5, .int x5), (6, .int x6)] → W p l e (rk 2) s m args below meth c H locs 0 0 Q (F0 m 106 ls []) := by
  have hx := hC.1
  have hb := hC.2.1
  intro x1 x2 x3 x4 x5 x6 w H locs ls hp hS hl
  unfold pX11_span_106 at hp
  refine lv_aload_n hx hb dX11_span_106 rfl (lv_at hl 0 rfl) ?_
  refine G_300_55 hC hS m287 dX11_span_107 ?_
  refine lv_iload hx hb dX11_span_110 (lv_at hl 6 rfl) ?_
  refine La_356 hC hS hp.1 dX11_span_112 ?_
  have hp := hp.2
  refine lv_if_ne (tgt := 137) hx hb dX11_span_113 (by decide) (fun c_1 => ?_) (fun c_1 => ?_)
  · have hp := hp.1 c_1
    exact bX11_span_137 hC hR hk36 x1 x2 x3 x4 x5 x6 w _ _ _ hp hS (lv_sub hl [0, 1, 2, 3, 4, 5, 6] rfl)
  · have hp := hp.2 c_1
    refine lv_aload_n hx hb dX11_span_116 rfl (lv_at hl 0 rfl) ?_
    refine G_300_54 hC hS m286 dX11_span_117 ?_
    refine lv_iload hx hb dX11_span_120 (lv_at hl 6 rfl) ?_
    refine La_355 hC hS hp.1 dX11_span_122 ?_
    have hp := hp.2
    refine lv_iload hx hb dX11_span_123 (lv_at hl 5 rfl) ?_
    refine lv_icmp_ge (tgt := 137) hx hb dX11_span_125 (by decide) (fun c_2 => ?_) (fun c_2 => ?_)
    · have hp := hp.1 c_2
      exact bX11_span_137 hC hR hk36 x1 x2 x3 x4 x5 x6 w _ _ _ hp hS (lv_sub hl [0, 1, 2, 3, 4, 5, 6] rfl)
    · have hp := hp.2 c_2
      refine lv_aload_n hx hb dX11_span_128 rfl (lv_at hl 0 rfl) ?_
      refine G_300_54 hC hS m286 dX11_span_129 ?_
      refine lv_iload hx hb dX11_span_132 (lv_at hl 6 rfl) ?_
      refine La_355 hC hS hp.1 dX11_span_134 ?_
      have hp := hp.2
      refine lv_topi (fun x5_3 ex5_3 => ?_)
      have hp := hp x5_3 ex5_3
      refine lv_istore (lv' := [(5, .int x5_3), (0, .ref (g.2.2 300)), (1, .int x1), (2, .int x2), (3, .int x3), (4, .int x4), (6, .int x6)]) hx hb dX11_span_135 hl (by decide) rfl (fun ls hl => ?_)
      exact bX11_span_137 hC hR hk36 x1 x2 x3 x4 x5_3 x6 w _ _ _ hp hS (lv_sub hl [1, 2, 3, 4, 5, 0, 6] rfl)
set_option maxHeartbeats 4000000 in
set_option maxRecDepth 100000 in
theorem bX11_span_36 {p : Program} {l : Launch} {e : Env} {s : State} {m : MethodId} {args : Array Value} {below : List Frame} {meth : Method} {c : Code} {Q : State → Prop} {A : Nat → Prop} {g : Gw} {post : Int32 → Wd → Prop}  (hC : Cx p s m args c cX11_span RX11 7 g) (hR : RtI tabM p l e (rk 2) s m args below meth c Q cX11_span A g post)  : ∀ (n : Nat) (x1 : Int32) (x2 : Int32) (x3 : Int32) (x4 : Int32) (x5 : Int32) (x6 : Int32) (w : Wd) (H : Heap) (locs : List Loc) (ls : Array Slot), pX11_span_36 post n x1 x2 x3 x4 x5 x6 w → St tabM A s.heap g w H locs → lv_has ls 7 [(0, .ref (g.2.2 300)), (1, .int x1), (2, .int x2), (3, .int x3), (4, .int x4), (5, .int x5), (6, .int x6)] → W p l e (rk 2) s m args below meth c H locs 0 0 Q (F0 m 36 ls []) := by
  have hx := hC.1
  have hb := hC.2.1
  intro n
  induction n with
  | zero =>
    intro x1 x2 x3 x4 x5 x6 w H locs ls hp hS hl
    exact False.elim hp
  | succ n ih =>
    intro x1 x2 x3 x4 x5 x6 w H locs ls hp hS hl
    unfold pX11_span_36 at hp
    refine lv_iload hx hb dX11_span_36 (lv_at hl 6 rfl) ?_
    refine lv_aload_n hx hb dX11_span_38 rfl (lv_at hl 0 rfl) ?_
    refine G_300_58 hC hS m311 dX11_span_39 ?_
    refine lv_icmp_ge (tgt := 143) hx hb dX11_span_42 (by decide) (fun c_1 => ?_) (fun c_1 => ?_)
    · have hp := hp.1 c_1
      refine lv_iload_n hx hb dX11_span_143 rfl (lv_at hl 2 rfl) ?_
      refine lv_iconst hx hb dX11_span_144 kI_2 ?_
      refine lv_icmp_ne (tgt := 167) hx hb dX11_span_145 (by decide) (fun c_2 => ?_) (fun c_2 => ?_)
      · have hp := hp.1 c_2
        refine lv_iload hx hb dX11_span_167 (lv_at hl 5 rfl) ?_
        refine lv_iload hx hb dX11_span_169 (lv_at hl 4 rfl) ?_
        refine lv_icmp_ge (tgt := 178) hx hb dX11_span_171 (by decide) (fun c_3 => ?_) (fun c_3 => ?_)
        · have hp := hp.1 c_3
          refine lv_iload_n hx hb dX11_span_178 rfl (lv_at hl 2 rfl) ?_
          refine lv_if_ne (tgt := 187) hx hb dX11_span_179 (by decide) (fun c_4 => ?_) (fun c_4 => ?_)
          · have hp := hp.1 c_4
            refine lv_iload hx hb dX11_span_187 (lv_at hl 5 rfl) ?_
            exact hR _ _ _ _ _ _ dX11_span_189 hp hS
          · have hp := hp.2 c_4
            refine lv_iload hx hb dX11_span_182 (lv_at hl 4 rfl) ?_
            refine lv_goto (tgt := 189) hx hb dX11_span_184 (by decide) ?_
            exact hR _ _ _ _ _ _ dX11_span_189 hp hS
        · have hp := hp.2 c_3
          refine lv_iconst hx hb dX11_span_174 kI_m1 ?_
          refine lv_goto (tgt := 189) hx hb dX11_span_175 (by decide) ?_
          exact hR _ _ _ _ _ _ dX11_span_189 hp hS
      · have hp := hp.2 c_2
        refine lv_iload hx hb dX11_span_148 (lv_at hl 5 rfl) ?_
        refine lv_iload hx hb dX11_span_150 (lv_at hl 4 rfl) ?_
        refine lv_icmp_ge (tgt := 159) hx hb dX11_span_152 (by decide) (fun c_5 => ?_) (fun c_5 => ?_)
        · have hp := hp.1 c_5
          refine lv_iload hx hb dX11_span_159 (lv_at hl 5 rfl) ?_
          refine lv_iload hx hb dX11_span_161 (lv_at hl 4 rfl) ?_
          refine lv_isub hx hb dX11_span_163 ?_
          refine lv_iconst hx hb dX11_span_164 kI_1 ?_
          refine lv_iadd hx hb dX11_span_165 ?_
          exact hR _ _ _ _ _ _ dX11_span_166 hp hS
        · have hp := hp.2 c_5
          refine lv_iconst hx hb dX11_span_155 kI_0 ?_
          refine lv_goto (tgt := 166) hx hb dX11_span_156 (by decide) ?_
          exact hR _ _ _ _ _ _ dX11_span_166 hp hS
    · have hp := hp.2 c_1
      refine lv_aload_n hx hb dX11_span_45 rfl (lv_at hl 0 rfl) ?_
      refine lv_iload hx hb dX11_span_46 (lv_at hl 6 rfl) ?_
      refine lv_iconst hx hb dX11_span_48 kI_2 ?_
      refine lv_iload_n hx hb dX11_span_49 rfl (lv_at hl 3 rfl) ?_
      refine q_cvI (As := [.int x6, .int (2 : Int32), .int x3]) (rest := []) hC hS hl.1 (rX11_counts hp) cwX11_430 yvX11_counts (rcv_300 hC hS) rfl rfl (Nat.le_of_ble_eq_true rfl) (rmk (by decide) (by decide)) dX11_span_50 (fun r_6 w_7 H locs hp hS => ?_)
      refine lv_if_eq (tgt := 137) hx hb dX11_span_53 (by decide) (fun c_8 => ?_) (fun c_8 => ?_)
      · have hp := hp.1 c_8
        exact bX11_span_137 hC hR ih x1 x2 x3 x4 x5 x6 w_7 _ _ _ hp hS (lv_sub hl [0, 1, 2, 3, 4, 5, 6] rfl)
      · have hp := hp.2 c_8
        refine lv_aload_n hx hb dX11_span_56 rfl (lv_at hl 0 rfl) ?_
        refine G_300_53 hC hS m285 dX11_span_57 ?_
        refine lv_iload hx hb dX11_span_60 (lv_at hl 6 rfl) ?_
        refine La_354 hC hS hp.1 dX11_span_62 ?_
        have hp := hp.2
        refine lv_iload_n hx hb dX11_span_63 rfl (lv_at hl 1 rfl) ?_
        refine lv_icmp_eq (tgt := 70) hx hb dX11_span_64 (by decide) (fun c_9 => ?_) (fun c_9 => ?_)
        · have hp := hp.1 c_9
          refine lv_aload_n hx hb dX11_span_70 rfl (lv_at hl 0 rfl) ?_
          refine G_300_55 hC hS m287 dX11_span_71 ?_
          refine lv_iload hx hb dX11_span_74 (lv_at hl 6 rfl) ?_
          refine La_356 hC hS hp.1 dX11_span_76 ?_
          have hp := hp.2
          refine lv_iconst hx hb dX11_span_77 kI_1 ?_
          refine lv_icmp_ne (tgt := 106) hx hb dX11_span_78 (by decide) (fun c_10 => ?_) (fun c_10 => ?_)
          · have hp := hp.1 c_10
            exact bX11_span_106 hC hR ih x1 x2 x3 x4 x5 x6 w_7 _ _ _ hp hS (lv_sub hl [0, 1, 2, 3, 4, 5, 6] rfl)
          · have hp := hp.2 c_10
            refine lv_aload_n hx hb dX11_span_81 rfl (lv_at hl 0 rfl) ?_
            refine G_300_54 hC hS m286 dX11_span_82 ?_
            refine lv_iload hx hb dX11_span_85 (lv_at hl 6 rfl) ?_
            refine La_355 hC hS hp.1 dX11_span_87 ?_
            have hp := hp.2
            refine lv_iconst hx hb dX11_span_88 kI_1 ?_
            refine lv_iadd hx hb dX11_span_89 ?_
            refine lv_iload hx hb dX11_span_90 (lv_at hl 4 rfl) ?_
            refine lv_icmp_le (tgt := 106) hx hb dX11_span_92 (by decide) (fun c_11 => ?_) (fun c_11 => ?_)
            · have hp := hp.1 c_11
              exact bX11_span_106 hC hR ih x1 x2 x3 x4 x5 x6 w_7 _ _ _ hp hS (lv_sub hl [0, 1, 2, 3, 4, 5, 6] rfl)
            · have hp := hp.2 c_11
              refine lv_aload_n hx hb dX11_span_95 rfl (lv_at hl 0 rfl) ?_
              refine G_300_54 hC hS m286 dX11_span_96 ?_
              refine lv_iload hx hb dX11_span_99 (lv_at hl 6 rfl) ?_
              refine La_355 hC hS hp.1 dX11_span_101 ?_
              have hp := hp.2
              refine lv_iconst hx hb dX11_span_102 kI_1 ?_
              refine lv_iadd hx hb dX11_span_103 ?_
              refine lv_topi (fun x4_12 ex4_12 => ?_)
              have hp := hp x4_12 ex4_12
              refine lv_istore (lv' := [(4, .int x4_12), (0, .ref (g.2.2 300)), (1, .int x1), (2, .int x2), (3, .int x3), (5, .int x5), (6, .int x6)]) hx hb dX11_span_104 hl (by decide) rfl (fun ls hl => ?_)
              exact bX11_span_106 hC hR ih x1 x2 x3 x4_12 x5 x6 w_7 _ _ _ hp hS (lv_sub hl [1, 2, 3, 4, 0, 5, 6] rfl)
        · have hp := hp.2 c_9
          refine lv_goto (tgt := 137) hx hb dX11_span_67 (by decide) ?_
          exact bX11_span_137 hC hR ih x1 x2 x3 x4 x5 x6 w_7 _ _ _ hp hS (lv_sub hl [0, 1, 2, 3, 4, 5, 6] rfl)
set_option maxHeartbeats 4000000 in
set_option maxRecDepth 100000 in
theorem rX11_span {l : Launch} {g : Gw} {w : Wd} {post : Int32 → Wd → Prop}   {x1 : Int32} {x2 : Int32} {x3 : Int32} (hp : pX11_span post x1 x2 x3 w) : MtI tabM l yX11_span cX11_span 7 (some .int) 2 g w [.ref (g.2.2 300), .int x1, .int x2, .int x3] post := by
  refine q_entI tabM_nd (by decide) rfl (Nat.le_of_ble_eq_true rfl) ?_
  intro p e s m args below meth c A Q ls hC hR hS hl
  have hx := hC.1
  have hb := hC.2.1
  have hl : lv_has ls 7 [(0, .ref (g.2.2 300)), (1, .int x1), (2, .int x2), (3, .int x3)] := hl
  unfold pX11_span at hp
  refine lv_iload_n hx hb dX11_span_0 rfl (lv_at hl 1 rfl) ?_
  refine lv_iconst hx hb dX11_span_1 kI_0 ?_
  refine lv_aload_n hx hb dX11_span_2 rfl (lv_at hl 0 rfl) ?_
  refine q_cvI (As := []) (rest := [.int (0 : Int32), .int x1]) hC hS hl.1 (rX11_width hp) cwX11_342 yvX11_width (rcv_300 hC hS) rfl rfl (Nat.le_of_ble_eq_true rfl) (rmk (by decide) (by decide)) dX11_span_3 (fun r_1 w_2 H locs hp hS => ?_)
  refine lv_iconst hx hb dX11_span_6 kI_1 ?_
  refine lv_isub hx hb dX11_span_7 ?_
  refine q_csI (As := [.int x1, .int (0 : Int32), .int (r_1 - (1 : Int32))]) (rest := []) hC hS hl.1 (rX11_isIn hp) cwX11_345 ysX11_isIn rfl rfl (Nat.le_of_ble_eq_true rfl) (rmk (by decide) (by decide)) dX11_span_8 (fun r_3 w_4 H locs hp hS => ?_)
  refine lv_if_eq (tgt := 23) hx hb dX11_span_11 (by decide) (fun c_5 => ?_) (fun c_5 => ?_)
  · have hp := hp.1 c_5
    refine lv_iconst hx hb dX11_span_23 kI_m1 ?_
    exact hR _ _ _ _ _ _ dX11_span_24 hp hS
  · have hp := hp.2 c_5
    refine lv_iload_n hx hb dX11_span_14 rfl (lv_at hl 2 rfl) ?_
    refine lv_iconst hx hb dX11_span_15 kI_0 ?_
    refine lv_iconst hx hb dX11_span_16 kI_2 ?_
    refine q_csI (As := [.int x2, .int (0 : Int32), .int (2 : Int32)]) (rest := []) hC hS hl.1 (rX11_isIn hp) cwX11_345 ysX11_isIn rfl rfl (Nat.le_of_ble_eq_true rfl) (rmk (by decide) (by decide)) dX11_span_17 (fun r_6 w_7 H locs hp hS => ?_)
    refine lv_if_ne (tgt := 25) hx hb dX11_span_20 (by decide) (fun c_8 => ?_) (fun c_8 => ?_)
    · have hp := hp.1 c_8
      refine lv_iconst hx hb dX11_span_25 kI_0 ?_
      refine lv_istore (lv' := [(4, .int (0 : Int32)), (0, .ref (g.2.2 300)), (1, .int x1), (2, .int x2), (3, .int x3)]) hx hb dX11_span_26 hl (by decide) rfl (fun ls hl => ?_)
      refine lv_sipush hx hb dX11_span_28 kS_999 ?_
      refine lv_istore (lv' := [(5, .int (999 : Int32)), (4, .int (0 : Int32)), (0, .ref (g.2.2 300)), (1, .int x1), (2, .int x2), (3, .int x3)]) hx hb dX11_span_31 hl (by decide) rfl (fun ls hl => ?_)
      refine lv_iconst hx hb dX11_span_33 kI_0 ?_
      refine lv_istore (lv' := [(6, .int (0 : Int32)), (5, .int (999 : Int32)), (4, .int (0 : Int32)), (0, .ref (g.2.2 300)), (1, .int x1), (2, .int x2), (3, .int x3)]) hx hb dX11_span_34 hl (by decide) rfl (fun ls hl => ?_)
      obtain ⟨n9, hp⟩ := hp
      exact bX11_span_36 hC hR n9 x1 x2 x3 (0 : Int32) (999 : Int32) (0 : Int32) w_7 _ _ _ hp hS (lv_sub hl [3, 4, 5, 6, 2, 1, 0] rfl)
    · have hp := hp.2 c_8
      refine lv_iconst hx hb dX11_span_23 kI_m1 ?_
      exact hR _ _ _ _ _ _ dX11_span_24 hp hS
def pX11_layLinks_195 (k30 : Int32 → Int32 → Wd → Prop) (post : Int32 → Wd → Prop) (x1 : Int32) (x2 : Int32) (w : Wd) : Prop := ∀ x2_1, x2_1 = x2 + (1 : Int32) → k30 x1 x2_1 w
def pX11_layLinks_189 (k142 : Int32 → Int32 → Int32 → Int32 → Int32 → Int32 → Wd → Prop) (post : Int32 → Wd → Prop) (x1 : Int32) (x2 : Int32) (x3 : Int32) (x5 : Int32) (x6 : Int32) (x7 : Int32) (w : Wd) : Prop := ∀ x7_1, x7_1 = x7 + (1 : Int32) → k142 x1 x2 x3 x5 x6 x7_1 w
def pX11_layLinks_142 (k30 : Int32 → Int32 → Wd → Prop) (post : Int32 → Wd → Prop) : Nat → Int32 → Int32 → Int32 → Int32 → Int32 → Int32 → Wd → Prop
  | 0, _, _, _, _, _, _, _ => False
  | n + 1, x1, x2, x3, x5, x6, x7, w => ((8 : Int32) ≤ x7 → (pX11_layLinks_195 k30 post x1 x2 w)) ∧ (¬ (8 : Int32) ≤ x7 → (vp_in x7 8 ∧ ((w.2.1 367 x7.toNatClampNeg) = x5 → (vp_in x3 8 ∧ vp_in x7 8 ∧ ∀ w_3, w_3 = sA w 367 x7.toNatClampNeg (w.2.1 367 x3.toNatClampNeg) → vp_in x7 8 ∧ vp_in x7 8 ∧ ∀ w_4, w_4 = sA w_3 366 x7.toNatClampNeg ((w_3.2.1 366 x7.toNatClampNeg) ^^^ x6) → pX11_layLinks_189 (pX11_layLinks_142 k30 post n) post x1 x2 x3 x5 x6 x7 w_4)) ∧ (¬ (w.2.1 367 x7.toNatClampNeg) = x5 → (pX11_layLinks_189 (pX11_layLinks_142 k30 post n) post x1 x2 x3 x5 x6 x7 w))))
def pX11_layLinks_30 (post : Int32 → Wd → Prop) : Nat → Int32 → Int32 → Wd → Prop
  | 0, _, _, _ => False
  | n + 1, x1, x2, w => ((w.1 300 58) ≤ x2 → (post (1 : Int32) w)) ∧ (¬ (w.1 300 58) ≤ x2 → (pX11_counts (fun r_2 w_3 => (¬ r_2 = 0 → (vp_in x2 40 ∧ ∀ x3_5, x3_5 = (w_3.2.1 354 x2.toNatClampNeg) → vp_in x2 40 ∧ ∀ x4_6, x4_6 = (w_3.2.1 355 x2.toNatClampNeg) → vp_in x3_5 8 ∧ vp_in x4_6 8 ∧ (¬ (w_3.2.1 367 x3_5.toNatClampNeg) = (w_3.2.1 367 x4_6.toNatClampNeg) → (vp_in x4_6 8 ∧ ∀ x5_8, x5_8 = (w_3.2.1 367 x4_6.toNatClampNeg) → vp_in x3_5 8 ∧ vp_in x4_6 8 ∧ vp_in x2 40 ∧ ∀ x6_9, x6_9 = (((w_3.2.1 366 x3_5.toNatClampNeg) ^^^ (w_3.2.1 366 x4_6.toNatClampNeg)) ^^^ (w_3.2.1 356 x2.toNatClampNeg)) → ∃ n9, pX11_layLinks_142 (pX11_layLinks_30 post n) post n9 x1 x2 x3_5 x5_8 x6_9 (0 : Int32) w_3)) ∧ ((w_3.2.1 367 x3_5.toNatClampNeg) = (w_3.2.1 367 x4_6.toNatClampNeg) → (vp_in x3_5 8 ∧ vp_in x4_6 8 ∧ vp_in x2 40 ∧ (((w_3.2.1 366 x3_5.toNatClampNeg) ^^^ (w_3.2.1 366 x4_6.toNatClampNeg)) = (w_3.2.1 356 x2.toNatClampNeg) → (pX11_layLinks_195 (pX11_layLinks_30 post n) post x1 x2 w_3)) ∧ (¬ ((w_3.2.1 366 x3_5.toNatClampNeg) ^^^ (w_3.2.1 366 x4_6.toNatClampNeg)) = (w_3.2.1 356 x2.toNatClampNeg) → (post (0 : Int32) w_3)))))) ∧ (r_2 = 0 → (pX11_layLinks_195 (pX11_layLinks_30 post n) post x1 x2 w_3))) x2 (3 : Int32) x1 w))
def pX11_layLinks_2 (post : Int32 → Wd → Prop) : Nat → Int32 → Int32 → Wd → Prop
  | 0, _, _, _ => False
  | n + 1, x1, x2, w => ((8 : Int32) ≤ x2 → (∃ n9, pX11_layLinks_30 post n9 x1 (0 : Int32) w)) ∧ (¬ (8 : Int32) ≤ x2 → (vp_in x2 8 ∧ ∀ w_2, w_2 = sA w 366 x2.toNatClampNeg (0 : Int32) → vp_in x2 8 ∧ ∀ w_3, w_3 = sA w_2 367 x2.toNatClampNeg x2 → ∀ x2_4, x2_4 = x2 + (1 : Int32) → pX11_layLinks_2 post n x1 x2_4 w_3))
def pX11_layLinks (post : Int32 → Wd → Prop) (x1 : Int32) (w : Wd) : Prop := ∃ n9, pX11_layLinks_2 post n9 x1 (0 : Int32) w
set_option maxHeartbeats 4000000 in
set_option maxRecDepth 100000 in
theorem bX11_layLinks_195 {p : Program} {l : Launch} {e : Env} {s : State} {m : MethodId} {args : Array Value} {below : List Frame} {meth : Method} {c : Code} {Q : State → Prop} {A : Nat → Prop} {g : Gw} {post : Int32 → Wd → Prop}  (hC : Cx p s m args c cX11_layLinks RX11 8 g) (hR : RtZ tabM p l e (rk 2) s m args below meth c Q cX11_layLinks A g post)  {k30 : Int32 → Int32 → Wd → Prop} (hk30 : ∀ (x1 : Int32) (x2 : Int32) (w : Wd) (H : Heap) (locs : List Loc) (ls : Array Slot), k30 x1 x2 w → St tabM A s.heap g w H locs → lv_has ls 8 [(0, .ref (g.2.2 300)), (1, .int x1), (2, .int x2)] → W p l e (rk 2) s m args below meth c H locs 0 0 Q (F0 m 30 ls [])) : ∀ (x1 : Int32) (x2 : Int32) (w : Wd) (H : Heap) (locs : List Loc) (ls : Array Slot), pX11_layLinks_195 k30 post x1 x2 w → St tabM A s.heap g w H locs → lv_has ls 8 [(0, .ref (g.2.2 300)), (1, .int x1), (2, .int x2)] → W p l e (rk 2) s m args below meth c H locs 0 0 Q (F0 m 195 ls []) := by
  have hx := hC.1
  have hb := hC.2.1
  intro x1 x2 w H locs ls hp hS hl
  unfold pX11_layLinks_195 at hp
  obtain ⟨x2_1, ex2_1⟩ : ∃ y : Int32, y = x2 + (1 : Int32) := ⟨_, rfl⟩
  have hp := hp x2_1 ex2_1
  refine lv_iinc (v := x2_1) (lv' := [(2, .int x2_1), (0, .ref (g.2.2 300)), (1, .int x1)]) hx hb dX11_layLinks_195 hl (k := 2) rfl (by rw [ex2_1]; rfl) (by decide) rfl (fun ls hl => ?_)
  refine lv_goto (tgt := 30) hx hb dX11_layLinks_198 (by decide) ?_
  exact hk30 x1 x2_1 w _ _ _ hp hS (lv_sub hl [1, 2, 0] rfl)
set_option maxHeartbeats 4000000 in
set_option maxRecDepth 100000 in
theorem bX11_layLinks_189 {p : Program} {l : Launch} {e : Env} {s : State} {m : MethodId} {args : Array Value} {below : List Frame} {meth : Method} {c : Code} {Q : State → Prop} {A : Nat → Prop} {g : Gw} {post : Int32 → Wd → Prop}  (hC : Cx p s m args c cX11_layLinks RX11 8 g) (hR : RtZ tabM p l e (rk 2) s m args below meth c Q cX11_layLinks A g post)  {k142 : Int32 → Int32 → Int32 → Int32 → Int32 → Int32 → Wd → Prop} (hk142 : ∀ (x1 : Int32) (x2 : Int32) (x3 : Int32) (x5 : Int32) (x6 : Int32) (x7 : Int32) (w : Wd) (H : Heap) (locs : List Loc) (ls : Array Slot), k142 x1 x2 x3 x5 x6 x7 w → St tabM A s.heap g w H locs → lv_has ls 8 [(0, .ref (g.2.2 300)), (1, .int x1), (2, .int x2), (3, .int x3), (5, .int x5), (6, .int x6), (7, .int x7)] → W p l e (rk 2) s m args below meth c H locs 0 0 Q (F0 m 142 ls [])) : ∀ (x1 : Int32) (x2 : Int32) (x3 : Int32) (x5 : Int32) (x6 : Int32) (x7 : Int32) (w : Wd) (H : Heap) (locs : List Loc) (ls : Array Slot), pX11_layLinks_189 k142 post x1 x2 x3 x5 x6 x7 w → St tabM A s.heap g w H locs → lv_has ls 8 [(0, .ref (g.2.2 300)), (1, .int x1), (2, .int x2), (3, .int x3), (5, .int x5), (6, .int x6), (7, .int x7)] → W p l e (rk 2) s m args below meth c H locs 0 0 Q (F0 m 189 ls []) := by
  have hx := hC.1
  have hb := hC.2.1
  intro x1 x2 x3 x5 x6 x7 w H locs ls hp hS hl
  unfold pX11_layLinks_189 at hp
  obtain ⟨x7_1, ex7_1⟩ : ∃ y : Int32, y = x7 + (1 : Int32) := ⟨_, rfl⟩
  have hp := hp x7_1 ex7_1
  refine lv_iinc (v := x7_1) (lv' := [(7, .int x7_1), (0, .ref (g.2.2 300)), (1, .int x1), (2, .int x2), (3, .int x3), (5, .int x5), (6, .int x6)]) hx hb dX11_layLinks_189 hl (k := 6) rfl (by rw [ex7_1]; rfl) (by decide) rfl (fun ls hl => ?_)
  refine lv_goto (tgt := 142) hx hb dX11_layLinks_192 (by decide) ?_
  exact hk142 x1 x2 x3 x5 x6 x7_1 w _ _ _ hp hS (lv_sub hl [1, 2, 3, 4, 5, 6, 0] rfl)
set_option maxHeartbeats 4000000 in
set_option maxRecDepth 100000 in
theorem bX11_layLinks_142 {p : Program} {l : Launch} {e : Env} {s : State} {m : MethodId} {args : Array Value} {below : List Frame} {meth : Method} {c : Code} {Q : State → Prop} {A : Nat → Prop} {g : Gw} {post : Int32 → Wd → Prop}  (hC : Cx p s m args c cX11_layLinks RX11 8 g) (hR : RtZ tabM p l e (rk 2) s m args below meth c Q cX11_layLinks A g post)  {k30 : Int32 → Int32 → Wd → Prop} (hk30 : ∀ (x1 : Int32) (x2 : Int32) (w : Wd) (H : Heap) (locs : List Loc) (ls : Array Slot), k30 x1 x2 w → St tabM A s.heap g w H locs → lv_has ls 8 [(0, .ref (g.2.2 300)), (1, .int x1), (2, .int x2)] → W p l e (rk 2) s m args below meth c H locs 0 0 Q (F0 m 30 ls [])) : ∀ (n : Nat) (x1 : Int32) (x2 : Int32) (x3 : Int32) (x5 : Int32) (x6 : Int32) (x7 : Int32) (w : Wd) (H : Heap) (locs : List Loc) (ls : Array Slot), pX11_layLinks_142 k30 post n x1 x2 x3 x5 x6 x7 w → St tabM A s.heap g w H locs → lv_has ls 8 [(0, .ref (g.2.2 300)), (1, .int x1), (2, .int x2), (3, .int x3), (5, .int x5), (6, .int x6), (7, .int x7)] → W p l e (rk 2) s m args below meth c H locs 0 0 Q (F0 m 142 ls []) := by
  have hx := hC.1
  have hb := hC.2.1
  intro n
  induction n with
  | zero =>
    intro x1 x2 x3 x5 x6 x7 w H locs ls hp hS hl
    exact False.elim hp
  | succ n ih =>
    intro x1 x2 x3 x5 x6 x7 w H locs ls hp hS hl
    unfold pX11_layLinks_142 at hp
    refine lv_iload hx hb dX11_layLinks_142 (lv_at hl 6 rfl) ?_
    refine lv_bipush hx hb dX11_layLinks_144 kB_8 ?_
    refine lv_icmp_ge (tgt := 195) hx hb dX11_layLinks_146 (by decide) (fun c_1 => ?_) (fun c_1 => ?_)
    · have hp := hp.1 c_1
      exact bX11_layLinks_195 hC hR hk30 x1 x2 w _ _ _ hp hS (lv_sub hl [0, 1, 2] rfl)
    · have hp := hp.2 c_1
      refine lv_aload_n hx hb dX11_layLinks_149 rfl (lv_at hl 0 rfl) ?_
      refine G_300_66 hC hS m295 dX11_layLinks_150 ?_
      refine lv_iload hx hb dX11_layLinks_153 (lv_at hl 6 rfl) ?_
      refine La_367 hC hS hp.1 dX11_layLinks_155 ?_
      have hp := hp.2
      refine lv_iload hx hb dX11_layLinks_156 (lv_at hl 4 rfl) ?_
      refine lv_icmp_eq (tgt := 164) hx hb dX11_layLinks_158 (by decide) (fun c_2 => ?_) (fun c_2 => ?_)
      · have hp := hp.1 c_2
        refine lv_aload_n hx hb dX11_layLinks_164 rfl (lv_at hl 0 rfl) ?_
        refine G_300_66 hC hS m295 dX11_layLinks_165 ?_
        refine lv_iload hx hb dX11_layLinks_168 (lv_at hl 6 rfl) ?_
        refine lv_aload_n hx hb dX11_layLinks_170 rfl (lv_at hl 0 rfl) ?_
        refine G_300_66 hC hS m295 dX11_layLinks_171 ?_
        refine lv_iload_n hx hb dX11_layLinks_174 rfl (lv_at hl 3 rfl) ?_
        refine La_367 hC hS hp.1 dX11_layLinks_175 ?_
        have hp := hp.2
        refine Sa_367 hC hS hp.1 dX11_layLinks_176 (fun w_3 H locs ew_3 hS => ?_)
        have hp := hp.2
        have hp := hp w_3 ew_3
        refine lv_aload_n hx hb dX11_layLinks_177 rfl (lv_at hl 0 rfl) ?_
        refine G_300_65 hC hS m294 dX11_layLinks_178 ?_
        refine lv_iload hx hb dX11_layLinks_181 (lv_at hl 6 rfl) ?_
        refine lv_dup2_11 hx hb dX11_layLinks_183 rfl rfl ?_
        refine La_366 hC hS hp.1 dX11_layLinks_184 ?_
        have hp := hp.2
        refine lv_iload hx hb dX11_layLinks_185 (lv_at hl 5 rfl) ?_
        refine lv_ixor hx hb dX11_layLinks_187 ?_
        refine Sa_366 hC hS hp.1 dX11_layLinks_188 (fun w_4 H locs ew_4 hS => ?_)
        have hp := hp.2
        have hp := hp w_4 ew_4
        exact bX11_layLinks_189 hC hR ih x1 x2 x3 x5 x6 x7 w_4 _ _ _ hp hS (lv_sub hl [0, 1, 2, 3, 4, 5, 6] rfl)
      · have hp := hp.2 c_2
        refine lv_goto (tgt := 189) hx hb dX11_layLinks_161 (by decide) ?_
        exact bX11_layLinks_189 hC hR ih x1 x2 x3 x5 x6 x7 w _ _ _ hp hS (lv_sub hl [0, 1, 2, 3, 4, 5, 6] rfl)
set_option maxHeartbeats 4000000 in
set_option maxRecDepth 100000 in
theorem bX11_layLinks_30 {p : Program} {l : Launch} {e : Env} {s : State} {m : MethodId} {args : Array Value} {below : List Frame} {meth : Method} {c : Code} {Q : State → Prop} {A : Nat → Prop} {g : Gw} {post : Int32 → Wd → Prop}  (hC : Cx p s m args c cX11_layLinks RX11 8 g) (hR : RtZ tabM p l e (rk 2) s m args below meth c Q cX11_layLinks A g post)  : ∀ (n : Nat) (x1 : Int32) (x2 : Int32) (w : Wd) (H : Heap) (locs : List Loc) (ls : Array Slot), pX11_layLinks_30 post n x1 x2 w → St tabM A s.heap g w H locs → lv_has ls 8 [(0, .ref (g.2.2 300)), (1, .int x1), (2, .int x2)] → W p l e (rk 2) s m args below meth c H locs 0 0 Q (F0 m 30 ls []) := by
  have hx := hC.1
  have hb := hC.2.1
  intro n
  induction n with
  | zero =>
    intro x1 x2 w H locs ls hp hS hl
    exact False.elim hp
  | succ n ih =>
    intro x1 x2 w H locs ls hp hS hl
    unfold pX11_layLinks_30 at hp
    refine lv_iload_n hx hb dX11_layLinks_30 rfl (lv_at hl 2 rfl) ?_
    refine lv_aload_n hx hb dX11_layLinks_31 rfl (lv_at hl 0 rfl) ?_
    refine G_300_58 hC hS m311 dX11_layLinks_32 ?_
    refine lv_icmp_ge (tgt := 201) hx hb dX11_layLinks_35 (by decide) (fun c_1 => ?_) (fun c_1 => ?_)
    · have hp := hp.1 c_1
      refine lv_iconst hx hb dX11_layLinks_201 kI_1 ?_
      exact hR _ _ _ _ _ _ dX11_layLinks_202 (by decide) hp hS
    · have hp := hp.2 c_1
      refine lv_aload_n hx hb dX11_layLinks_38 rfl (lv_at hl 0 rfl) ?_
      refine lv_iload_n hx hb dX11_layLinks_39 rfl (lv_at hl 2 rfl) ?_
      refine lv_iconst hx hb dX11_layLinks_40 kI_3 ?_
      refine lv_iload_n hx hb dX11_layLinks_41 rfl (lv_at hl 1 rfl) ?_
      refine q_cvI (As := [.int x2, .int (3 : Int32), .int x1]) (rest := []) hC hS hl.1 (rX11_counts hp) cwX11_430 yvX11_counts (rcv_300 hC hS) rfl rfl (Nat.le_of_ble_eq_true rfl) (rmk (by decide) (by decide)) dX11_layLinks_42 (fun r_2 w_3 H locs hp hS => ?_)
      refine lv_if_ne (tgt := 51) hx hb dX11_layLinks_45 (by decide) (fun c_4 => ?_) (fun c_4 => ?_)
      · have hp := hp.1 c_4
        refine lv_aload_n hx hb dX11_layLinks_51 rfl (lv_at hl 0 rfl) ?_
        refine G_300_53 hC hS m285 dX11_layLinks_52 ?_
        refine lv_iload_n hx hb dX11_layLinks_55 rfl (lv_at hl 2 rfl) ?_
        refine La_354 hC hS hp.1 dX11_layLinks_56 ?_
        have hp := hp.2
        refine lv_topi (fun x3_5 ex3_5 => ?_)
        have hp := hp x3_5 ex3_5
        refine lv_istore_n (lv' := [(3, .int x3_5), (0, .ref (g.2.2 300)), (1, .int x1), (2, .int x2)]) hx hb dX11_layLinks_57 rfl hl (by decide) rfl (fun ls hl => ?_)
        refine lv_aload_n hx hb dX11_layLinks_58 rfl (lv_at hl 1 rfl) ?_
        refine G_300_54 hC hS m286 dX11_layLinks_59 ?_
        refine lv_iload_n hx hb dX11_layLinks_62 rfl (lv_at hl 3 rfl) ?_
        refine La_355 hC hS hp.1 dX11_layLinks_63 ?_
        have hp := hp.2
        refine lv_topi (fun x4_6 ex4_6 => ?_)
        have hp := hp x4_6 ex4_6
        refine lv_istore (lv' := [(4, .int x4_6), (3, .int x3_5), (0, .ref (g.2.2 300)), (1, .int x1), (2, .int x2)]) hx hb dX11_layLinks_64 hl (by decide) rfl (fun ls hl => ?_)
        refine lv_aload_n hx hb dX11_layLinks_66 rfl (lv_at hl 2 rfl) ?_
        refine G_300_66 hC hS m295 dX11_layLinks_67 ?_
        refine lv_iload_n hx hb dX11_layLinks_70 rfl (lv_at hl 1 rfl) ?_
        refine La_367 hC hS hp.1 dX11_layLinks_71 ?_
        have hp := hp.2
        refine lv_aload_n hx hb dX11_layLinks_72 rfl (lv_at hl 2 rfl) ?_
        refine G_300_66 hC hS m295 dX11_layLinks_73 ?_
        refine lv_iload hx hb dX11_layLinks_76 (lv_at hl 0 rfl) ?_
        refine La_367 hC hS hp.1 dX11_layLinks_78 ?_
        have hp := hp.2
        refine lv_icmp_ne (tgt := 107) hx hb dX11_layLinks_79 (by decide) (fun c_7 => ?_) (fun c_7 => ?_)
        · have hp := hp.1 c_7
          refine lv_aload_n hx hb dX11_layLinks_107 rfl (lv_at hl 2 rfl) ?_
          refine G_300_66 hC hS m295 dX11_layLinks_108 ?_
          refine lv_iload hx hb dX11_layLinks_111 (lv_at hl 0 rfl) ?_
          refine La_367 hC hS hp.1 dX11_layLinks_113 ?_
          have hp := hp.2
          refine lv_topi (fun x5_8 ex5_8 => ?_)
          have hp := hp x5_8 ex5_8
          refine lv_istore (lv' := [(5, .int x5_8), (4, .int x4_6), (3, .int x3_5), (0, .ref (g.2.2 300)), (1, .int x1), (2, .int x2)]) hx hb dX11_layLinks_114 hl (by decide) rfl (fun ls hl => ?_)
          refine lv_aload_n hx hb dX11_layLinks_116 rfl (lv_at hl 3 rfl) ?_
          refine G_300_65 hC hS m294 dX11_layLinks_117 ?_
          refine lv_iload_n hx hb dX11_layLinks_120 rfl (lv_at hl 2 rfl) ?_
          refine La_366 hC hS hp.1 dX11_layLinks_121 ?_
          have hp := hp.2
          refine lv_aload_n hx hb dX11_layLinks_122 rfl (lv_at hl 3 rfl) ?_
          refine G_300_65 hC hS m294 dX11_layLinks_123 ?_
          refine lv_iload hx hb dX11_layLinks_126 (lv_at hl 1 rfl) ?_
          refine La_366 hC hS hp.1 dX11_layLinks_128 ?_
          have hp := hp.2
          refine lv_ixor hx hb dX11_layLinks_129 ?_
          refine lv_aload_n hx hb dX11_layLinks_130 rfl (lv_at hl 3 rfl) ?_
          refine G_300_55 hC hS m287 dX11_layLinks_131 ?_
          refine lv_iload_n hx hb dX11_layLinks_134 rfl (lv_at hl 5 rfl) ?_
          refine La_356 hC hS hp.1 dX11_layLinks_135 ?_
          have hp := hp.2
          refine lv_ixor hx hb dX11_layLinks_136 ?_
          refine lv_topi (fun x6_9 ex6_9 => ?_)
          have hp := hp x6_9 ex6_9
          refine lv_istore (lv' := [(6, .int x6_9), (5, .int x5_8), (4, .int x4_6), (3, .int x3_5), (0, .ref (g.2.2 300)), (1, .int x1), (2, .int x2)]) hx hb dX11_layLinks_137 hl (by decide) rfl (fun ls hl => ?_)
          refine lv_iconst hx hb dX11_layLinks_139 kI_0 ?_
          refine lv_istore (lv' := [(7, .int (0 : Int32)), (6, .int x6_9), (5, .int x5_8), (4, .int x4_6), (3, .int x3_5), (0, .ref (g.2.2 300)), (1, .int x1), (2, .int x2)]) hx hb dX11_layLinks_140 hl (by decide) rfl (fun ls hl => ?_)
          obtain ⟨n9, hp⟩ := hp
          exact bX11_layLinks_142 hC hR ih n9 x1 x2 x3_5 x5_8 x6_9 (0 : Int32) w_3 _ _ _ hp hS (lv_sub hl [5, 6, 7, 4, 2, 1, 0] rfl)
        · have hp := hp.2 c_7
          refine lv_aload_n hx hb dX11_layLinks_82 rfl (lv_at hl 2 rfl) ?_
          refine G_300_65 hC hS m294 dX11_layLinks_83 ?_
          refine lv_iload_n hx hb dX11_layLinks_86 rfl (lv_at hl 1 rfl) ?_
          refine La_366 hC hS hp.1 dX11_layLinks_87 ?_
          have hp := hp.2
          refine lv_aload_n hx hb dX11_layLinks_88 rfl (lv_at hl 2 rfl) ?_
          refine G_300_65 hC hS m294 dX11_layLinks_89 ?_
          refine lv_iload hx hb dX11_layLinks_92 (lv_at hl 0 rfl) ?_
          refine La_366 hC hS hp.1 dX11_layLinks_94 ?_
          have hp := hp.2
          refine lv_ixor hx hb dX11_layLinks_95 ?_
          refine lv_aload_n hx hb dX11_layLinks_96 rfl (lv_at hl 2 rfl) ?_
          refine G_300_55 hC hS m287 dX11_layLinks_97 ?_
          refine lv_iload_n hx hb dX11_layLinks_100 rfl (lv_at hl 4 rfl) ?_
          refine La_356 hC hS hp.1 dX11_layLinks_101 ?_
          have hp := hp.2
          refine lv_icmp_eq (tgt := 195) hx hb dX11_layLinks_102 (by decide) (fun c_10 => ?_) (fun c_10 => ?_)
          · have hp := hp.1 c_10
            exact bX11_layLinks_195 hC hR ih x1 x2 w_3 _ _ _ hp hS (lv_sub hl [2, 3, 4] rfl)
          · have hp := hp.2 c_10
            refine lv_iconst hx hb dX11_layLinks_105 kI_0 ?_
            exact hR _ _ _ _ _ _ dX11_layLinks_106 (by decide) hp hS
      · have hp := hp.2 c_4
        refine lv_goto (tgt := 195) hx hb dX11_layLinks_48 (by decide) ?_
        exact bX11_layLinks_195 hC hR ih x1 x2 w_3 _ _ _ hp hS (lv_sub hl [0, 1, 2] rfl)
set_option maxHeartbeats 4000000 in
set_option maxRecDepth 100000 in
theorem bX11_layLinks_2 {p : Program} {l : Launch} {e : Env} {s : State} {m : MethodId} {args : Array Value} {below : List Frame} {meth : Method} {c : Code} {Q : State → Prop} {A : Nat → Prop} {g : Gw} {post : Int32 → Wd → Prop}  (hC : Cx p s m args c cX11_layLinks RX11 8 g) (hR : RtZ tabM p l e (rk 2) s m args below meth c Q cX11_layLinks A g post)  : ∀ (n : Nat) (x1 : Int32) (x2 : Int32) (w : Wd) (H : Heap) (locs : List Loc) (ls : Array Slot), pX11_layLinks_2 post n x1 x2 w → St tabM A s.heap g w H locs → lv_has ls 8 [(0, .ref (g.2.2 300)), (1, .int x1), (2, .int x2)] → W p l e (rk 2) s m args below meth c H locs 0 0 Q (F0 m 2 ls []) := by
  have hx := hC.1
  have hb := hC.2.1
  intro n
  induction n with
  | zero =>
    intro x1 x2 w H locs ls hp hS hl
    exact False.elim hp
  | succ n ih =>
    intro x1 x2 w H locs ls hp hS hl
    unfold pX11_layLinks_2 at hp
    refine lv_iload_n hx hb dX11_layLinks_2 rfl (lv_at hl 2 rfl) ?_
    refine lv_bipush hx hb dX11_layLinks_3 kB_8 ?_
    refine lv_icmp_ge (tgt := 28) hx hb dX11_layLinks_5 (by decide) (fun c_1 => ?_) (fun c_1 => ?_)
    · have hp := hp.1 c_1
      refine lv_iconst hx hb dX11_layLinks_28 kI_0 ?_
      refine lv_istore_n (lv' := [(2, .int (0 : Int32)), (0, .ref (g.2.2 300)), (1, .int x1)]) hx hb dX11_layLinks_29 rfl hl (by decide) rfl (fun ls hl => ?_)
      obtain ⟨n9, hp⟩ := hp
      exact bX11_layLinks_30 hC hR n9 x1 (0 : Int32) w _ _ _ hp hS (lv_sub hl [1, 2, 0] rfl)
    · have hp := hp.2 c_1
      refine lv_aload_n hx hb dX11_layLinks_8 rfl (lv_at hl 0 rfl) ?_
      refine G_300_65 hC hS m294 dX11_layLinks_9 ?_
      refine lv_iload_n hx hb dX11_layLinks_12 rfl (lv_at hl 2 rfl) ?_
      refine lv_iconst hx hb dX11_layLinks_13 kI_0 ?_
      refine Sa_366 hC hS hp.1 dX11_layLinks_14 (fun w_2 H locs ew_2 hS => ?_)
      have hp := hp.2
      have hp := hp w_2 ew_2
      refine lv_aload_n hx hb dX11_layLinks_15 rfl (lv_at hl 0 rfl) ?_
      refine G_300_66 hC hS m295 dX11_layLinks_16 ?_
      refine lv_iload_n hx hb dX11_layLinks_19 rfl (lv_at hl 2 rfl) ?_
      refine lv_iload_n hx hb dX11_layLinks_20 rfl (lv_at hl 2 rfl) ?_
      refine Sa_367 hC hS hp.1 dX11_layLinks_21 (fun w_3 H locs ew_3 hS => ?_)
      have hp := hp.2
      have hp := hp w_3 ew_3
      obtain ⟨x2_4, ex2_4⟩ : ∃ y : Int32, y = x2 + (1 : Int32) := ⟨_, rfl⟩
      have hp := hp x2_4 ex2_4
      refine lv_iinc (v := x2_4) (lv' := [(2, .int x2_4), (0, .ref (g.2.2 300)), (1, .int x1)]) hx hb dX11_layLinks_22 hl (k := 2) rfl (by rw [ex2_4]; rfl) (by decide) rfl (fun ls hl => ?_)
      refine lv_goto (tgt := 2) hx hb dX11_layLinks_25 (by decide) ?_
      exact ih x1 x2_4 w_3 _ _ _ hp hS (lv_sub hl [1, 2, 0] rfl)
set_option maxHeartbeats 4000000 in
set_option maxRecDepth 100000 in
theorem rX11_layLinks {l : Launch} {g : Gw} {w : Wd} {post : Int32 → Wd → Prop}   {x1 : Int32} (hp : pX11_layLinks post x1 w) : MtI tabM l yX11_layLinks cX11_layLinks 8 (some .boolean) 2 g w [.ref (g.2.2 300), .int x1] post := by
  refine q_entZ tabM_nd (by decide) rfl (Nat.le_of_ble_eq_true rfl) ?_
  intro p e s m args below meth c A Q ls hC hR hS hl
  have hx := hC.1
  have hb := hC.2.1
  have hl : lv_has ls 8 [(0, .ref (g.2.2 300)), (1, .int x1)] := hl
  unfold pX11_layLinks at hp
  refine lv_iconst hx hb dX11_layLinks_0 kI_0 ?_
  refine lv_istore_n (lv' := [(2, .int (0 : Int32)), (0, .ref (g.2.2 300)), (1, .int x1)]) hx hb dX11_layLinks_1 rfl hl (by decide) rfl (fun ls hl => ?_)
  obtain ⟨n9, hp⟩ := hp
  exact bX11_layLinks_2 hC hR n9 x1 (0 : Int32) w _ _ _ hp hS (lv_sub hl [1, 2, 0] rfl)
def pX11_backward (post : Int32 → Wd → Prop) (x1 : Int32) (x2 : Int32) (w : Wd) : Prop := pX11_isIn (fun r_1 w_2 => (¬ r_1 = 0 → (pX11_layLinks (fun r_4 w_5 => (¬ r_4 = 0 → (vp_in x1 8 ∧ (¬ (w_5.2.1 367 x1.toNatClampNeg) = (w_5.2.1 367 (0 : Int32).toNatClampNeg) → (post (-1 : Int32) w_5)) ∧ ((w_5.2.1 367 x1.toNatClampNeg) = (w_5.2.1 367 (0 : Int32).toNatClampNeg) → (vp_in x1 8 ∧ post ((w_5.2.1 366 x1.toNatClampNeg) ^^^ (w_5.2.1 366 (0 : Int32).toNatClampNeg)) w_5)))) ∧ (r_4 = 0 → (post (-2 : Int32) w_5))) x2 w_2)) ∧ (r_1 = 0 → (post (-1 : Int32) w_2))) x1 (0 : Int32) (7 : Int32) w
set_option maxHeartbeats 4000000 in
set_option maxRecDepth 100000 in
theorem rX11_backward {l : Launch} {g : Gw} {w : Wd} {post : Int32 → Wd → Prop}   {x1 : Int32} {x2 : Int32} (hp : pX11_backward post x1 x2 w) : MtI tabM l yX11_backward cX11_backward 3 (some .int) 3 g w [.ref (g.2.2 300), .int x1, .int x2] post := by
  refine q_entI tabM_nd (by decide) rfl (Nat.le_of_ble_eq_true rfl) ?_
  intro p e s m args below meth c A Q ls hC hR hS hl
  have hx := hC.1
  have hb := hC.2.1
  have hl : lv_has ls 3 [(0, .ref (g.2.2 300)), (1, .int x1), (2, .int x2)] := hl
  unfold pX11_backward at hp
  refine lv_iload_n hx hb dX11_backward_0 rfl (lv_at hl 1 rfl) ?_
  refine lv_iconst hx hb dX11_backward_1 kI_0 ?_
  refine lv_bipush hx hb dX11_backward_2 kB_7 ?_
  refine q_csI (As := [.int x1, .int (0 : Int32), .int (7 : Int32)]) (rest := []) hC hS hl.1 (rX11_isIn hp) cwX11_345 ysX11_isIn rfl rfl (Nat.le_of_ble_eq_true rfl) (rmk (by decide) (by decide)) dX11_backward_4 (fun r_1 w_2 H locs hp hS => ?_)
  refine lv_if_ne (tgt := 12) hx hb dX11_backward_7 (by decide) (fun c_3 => ?_) (fun c_3 => ?_)
  · have hp := hp.1 c_3
    refine lv_aload_n hx hb dX11_backward_12 rfl (lv_at hl 0 rfl) ?_
    refine lv_iload_n hx hb dX11_backward_13 rfl (lv_at hl 2 rfl) ?_
    refine q_cvI (As := [.int x2]) (rest := []) hC hS hl.1 (rX11_layLinks hp) cwX11_445 yvX11_layLinks (rcv_300 hC hS) rfl rfl (Nat.le_of_ble_eq_true rfl) (rmk (by decide) (by decide)) dX11_backward_14 (fun r_4 w_5 H locs hp hS => ?_)
    refine lv_if_ne (tgt := 23) hx hb dX11_backward_17 (by decide) (fun c_6 => ?_) (fun c_6 => ?_)
    · have hp := hp.1 c_6
      refine lv_aload_n hx hb dX11_backward_23 rfl (lv_at hl 0 rfl) ?_
      refine G_300_66 hC hS m295 dX11_backward_24 ?_
      refine lv_iload_n hx hb dX11_backward_27 rfl (lv_at hl 1 rfl) ?_
      refine La_367 hC hS hp.1 dX11_backward_28 ?_
      have hp := hp.2
      refine lv_aload_n hx hb dX11_backward_29 rfl (lv_at hl 0 rfl) ?_
      refine G_300_66 hC hS m295 dX11_backward_30 ?_
      refine lv_iconst hx hb dX11_backward_33 kI_0 ?_
      refine La_367 hC hS (by unfold vp_in; decide) dX11_backward_34 ?_
      refine lv_icmp_ne (tgt := 54) hx hb dX11_backward_35 (by decide) (fun c_7 => ?_) (fun c_7 => ?_)
      · have hp := hp.1 c_7
        refine lv_iconst hx hb dX11_backward_54 kI_m1 ?_
        exact hR _ _ _ _ _ _ dX11_backward_55 hp hS
      · have hp := hp.2 c_7
        refine lv_aload_n hx hb dX11_backward_38 rfl (lv_at hl 0 rfl) ?_
        refine G_300_65 hC hS m294 dX11_backward_39 ?_
        refine lv_iload_n hx hb dX11_backward_42 rfl (lv_at hl 1 rfl) ?_
        refine La_366 hC hS hp.1 dX11_backward_43 ?_
        have hp := hp.2
        refine lv_aload_n hx hb dX11_backward_44 rfl (lv_at hl 0 rfl) ?_
        refine G_300_65 hC hS m294 dX11_backward_45 ?_
        refine lv_iconst hx hb dX11_backward_48 kI_0 ?_
        refine La_366 hC hS (by unfold vp_in; decide) dX11_backward_49 ?_
        refine lv_ixor hx hb dX11_backward_50 ?_
        refine lv_goto (tgt := 55) hx hb dX11_backward_51 (by decide) ?_
        exact hR _ _ _ _ _ _ dX11_backward_55 hp hS
    · have hp := hp.2 c_6
      refine lv_bipush hx hb dX11_backward_20 kB_m2 ?_
      exact hR _ _ _ _ _ _ dX11_backward_22 hp hS
  · have hp := hp.2 c_3
    refine lv_iconst hx hb dX11_backward_10 kI_m1 ?_
    exact hR _ _ _ _ _ _ dX11_backward_11 hp hS
def pX11_lies (post : Int32 → Wd → Prop) (x1 : Int32) (w : Wd) : Prop := pX11_isIn (fun r_1 w_2 => (r_1 = 0 → (post (-2 : Int32) w_2)) ∧ (¬ r_1 = 0 → (vp_in x1 12 ∧ post (w_2.2.1 348 x1.toNatClampNeg) w_2))) x1 (0 : Int32) ((w.1 300 48) - (1 : Int32)) w
set_option maxHeartbeats 4000000 in
set_option maxRecDepth 100000 in
theorem rX11_lies {l : Launch} {g : Gw} {w : Wd} {post : Int32 → Wd → Prop}   {x1 : Int32} (hp : pX11_lies post x1 w) : MtI tabM l yX11_lies cX11_lies 2 (some .int) 2 g w [.ref (g.2.2 300), .int x1] post := by
  refine q_entI tabM_nd (by decide) rfl (Nat.le_of_ble_eq_true rfl) ?_
  intro p e s m args below meth c A Q ls hC hR hS hl
  have hx := hC.1
  have hb := hC.2.1
  have hl : lv_has ls 2 [(0, .ref (g.2.2 300)), (1, .int x1)] := hl
  unfold pX11_lies at hp
  refine lv_iload_n hx hb dX11_lies_0 rfl (lv_at hl 1 rfl) ?_
  refine lv_iconst hx hb dX11_lies_1 kI_0 ?_
  refine lv_aload_n hx hb dX11_lies_2 rfl (lv_at hl 0 rfl) ?_
  refine G_300_48 hC hS m312 dX11_lies_3 ?_
  refine lv_iconst hx hb dX11_lies_6 kI_1 ?_
  refine lv_isub hx hb dX11_lies_7 ?_
  refine q_csI (As := [.int x1, .int (0 : Int32), .int ((w.1 300 48) - (1 : Int32))]) (rest := []) hC hS hl.1 (rX11_isIn hp) cwX11_345 ysX11_isIn rfl rfl (Nat.le_of_ble_eq_true rfl) (rmk (by decide) (by decide)) dX11_lies_8 (fun r_1 w_2 H locs hp hS => ?_)
  refine lv_if_eq (tgt := 23) hx hb dX11_lies_11 (by decide) (fun c_3 => ?_) (fun c_3 => ?_)
  · have hp := hp.1 c_3
    refine lv_bipush hx hb dX11_lies_23 kB_m2 ?_
    exact hR _ _ _ _ _ _ dX11_lies_25 hp hS
  · have hp := hp.2 c_3
    refine lv_aload_n hx hb dX11_lies_14 rfl (lv_at hl 0 rfl) ?_
    refine G_300_47 hC hS m279 dX11_lies_15 ?_
    refine lv_iload_n hx hb dX11_lies_18 rfl (lv_at hl 1 rfl) ?_
    refine La_348 hC hS hp.1 dX11_lies_19 ?_
    have hp := hp.2
    refine lv_goto (tgt := 25) hx hb dX11_lies_20 (by decide) ?_
    exact hR _ _ _ _ _ _ dX11_lies_25 hp hS
def pX11_image_13 (post : Int32 → Wd → Prop) : Nat → Int32 → Int32 → Wd → Prop
  | 0, _, _, _ => False
  | n + 1, x1, x2, w => ((221 : Int32) ≤ x2 → (vp_in x1 3 ∧ ∀ w_2, w_2 = sA w 369 x1.toNatClampNeg (vp_nar .boolean (1 : Int32)) → post (w_2.2.1 341 (216 : Int32).toNatClampNeg) w_2)) ∧ (¬ (221 : Int32) ≤ x2 → (vp_in x2 221 ∧ vp_in (((221 : Int32) * x1) + x2) 663 ∧ ∀ w_3, w_3 = sA w 368 (((221 : Int32) * x1) + x2).toNatClampNeg (w.2.1 341 x2.toNatClampNeg) → ∀ x2_4, x2_4 = x2 + (1 : Int32) → pX11_image_13 post n x1 x2_4 w_3))
def pX11_image (post : Int32 → Wd → Prop) (x1 : Int32) (w : Wd) : Prop := pX11_isIn (fun r_1 w_2 => (¬ r_1 = 0 → (∃ n9, pX11_image_13 post n9 x1 (0 : Int32) w_2)) ∧ (r_1 = 0 → (post (-1 : Int32) w_2))) x1 (0 : Int32) (2 : Int32) w
set_option maxHeartbeats 4000000 in
set_option maxRecDepth 100000 in
theorem bX11_image_13 {p : Program} {l : Launch} {e : Env} {s : State} {m : MethodId} {args : Array Value} {below : List Frame} {meth : Method} {c : Code} {Q : State → Prop} {A : Nat → Prop} {g : Gw} {post : Int32 → Wd → Prop}  (hC : Cx p s m args c cX11_image RX11 3 g) (hR : RtI tabM p l e (rk 2) s m args below meth c Q cX11_image A g post)  : ∀ (n : Nat) (x1 : Int32) (x2 : Int32) (w : Wd) (H : Heap) (locs : List Loc) (ls : Array Slot), pX11_image_13 post n x1 x2 w → St tabM A s.heap g w H locs → lv_has ls 3 [(0, .ref (g.2.2 300)), (1, .int x1), (2, .int x2)] → W p l e (rk 2) s m args below meth c H locs 0 0 Q (F0 m 13 ls []) := by
  have hx := hC.1
  have hb := hC.2.1
  intro n
  induction n with
  | zero =>
    intro x1 x2 w H locs ls hp hS hl
    exact False.elim hp
  | succ n ih =>
    intro x1 x2 w H locs ls hp hS hl
    unfold pX11_image_13 at hp
    refine lv_iload_n hx hb dX11_image_13 rfl (lv_at hl 2 rfl) ?_
    refine lv_sipush hx hb dX11_image_14 kS_221 ?_
    refine lv_icmp_ge (tgt := 44) hx hb dX11_image_17 (by decide) (fun c_1 => ?_) (fun c_1 => ?_)
    · have hp := hp.1 c_1
      refine lv_aload_n hx hb dX11_image_44 rfl (lv_at hl 0 rfl) ?_
      refine G_300_68 hC hS m297 dX11_image_45 ?_
      refine lv_iload_n hx hb dX11_image_48 rfl (lv_at hl 1 rfl) ?_
      refine lv_iconst hx hb dX11_image_49 kI_1 ?_
      refine Sa_369 hC hS hp.1 dX11_image_50 (fun w_2 H locs ew_2 hS => ?_)
      have hp := hp.2
      have hp := hp w_2 ew_2
      refine lv_aload_n hx hb dX11_image_51 rfl (lv_at hl 0 rfl) ?_
      refine G_300_40 hC hS m274 dX11_image_52 ?_
      refine lv_sipush hx hb dX11_image_55 kS_216 ?_
      refine La_341 hC hS (by unfold vp_in; decide) dX11_image_58 ?_
      exact hR _ _ _ _ _ _ dX11_image_59 hp hS
    · have hp := hp.2 c_1
      refine lv_aload_n hx hb dX11_image_20 rfl (lv_at hl 0 rfl) ?_
      refine G_300_67 hC hS m296 dX11_image_21 ?_
      refine lv_sipush hx hb dX11_image_24 kS_221 ?_
      refine lv_iload_n hx hb dX11_image_27 rfl (lv_at hl 1 rfl) ?_
      refine lv_imul hx hb dX11_image_28 ?_
      refine lv_iload_n hx hb dX11_image_29 rfl (lv_at hl 2 rfl) ?_
      refine lv_iadd hx hb dX11_image_30 ?_
      refine lv_aload_n hx hb dX11_image_31 rfl (lv_at hl 0 rfl) ?_
      refine G_300_40 hC hS m274 dX11_image_32 ?_
      refine lv_iload_n hx hb dX11_image_35 rfl (lv_at hl 2 rfl) ?_
      refine La_341 hC hS hp.1 dX11_image_36 ?_
      have hp := hp.2
      refine Sa_368 hC hS hp.1 dX11_image_37 (fun w_3 H locs ew_3 hS => ?_)
      have hp := hp.2
      have hp := hp w_3 ew_3
      obtain ⟨x2_4, ex2_4⟩ : ∃ y : Int32, y = x2 + (1 : Int32) := ⟨_, rfl⟩
      have hp := hp x2_4 ex2_4
      refine lv_iinc (v := x2_4) (lv' := [(2, .int x2_4), (0, .ref (g.2.2 300)), (1, .int x1)]) hx hb dX11_image_38 hl (k := 2) rfl (by rw [ex2_4]; rfl) (by decide) rfl (fun ls hl => ?_)
      refine lv_goto (tgt := 13) hx hb dX11_image_41 (by decide) ?_
      exact ih x1 x2_4 w_3 _ _ _ hp hS (lv_sub hl [1, 2, 0] rfl)
set_option maxHeartbeats 4000000 in
set_option maxRecDepth 100000 in
theorem rX11_image {l : Launch} {g : Gw} {w : Wd} {post : Int32 → Wd → Prop}   {x1 : Int32} (hp : pX11_image post x1 w) : MtI tabM l yX11_image cX11_image 3 (some .int) 2 g w [.ref (g.2.2 300), .int x1] post := by
  refine q_entI tabM_nd (by decide) rfl (Nat.le_of_ble_eq_true rfl) ?_
  intro p e s m args below meth c A Q ls hC hR hS hl
  have hx := hC.1
  have hb := hC.2.1
  have hl : lv_has ls 3 [(0, .ref (g.2.2 300)), (1, .int x1)] := hl
  unfold pX11_image at hp
  refine lv_iload_n hx hb dX11_image_0 rfl (lv_at hl 1 rfl) ?_
  refine lv_iconst hx hb dX11_image_1 kI_0 ?_
  refine lv_iconst hx hb dX11_image_2 kI_2 ?_
  refine q_csI (As := [.int x1, .int (0 : Int32), .int (2 : Int32)]) (rest := []) hC hS hl.1 (rX11_isIn hp) cwX11_345 ysX11_isIn rfl rfl (Nat.le_of_ble_eq_true rfl) (rmk (by decide) (by decide)) dX11_image_3 (fun r_1 w_2 H locs hp hS => ?_)
  refine lv_if_ne (tgt := 11) hx hb dX11_image_6 (by decide) (fun c_3 => ?_) (fun c_3 => ?_)
  · have hp := hp.1 c_3
    refine lv_iconst hx hb dX11_image_11 kI_0 ?_
    refine lv_istore_n (lv' := [(2, .int (0 : Int32)), (0, .ref (g.2.2 300)), (1, .int x1)]) hx hb dX11_image_12 rfl hl (by decide) rfl (fun ls hl => ?_)
    obtain ⟨n9, hp⟩ := hp
    exact bX11_image_13 hC hR n9 x1 (0 : Int32) w_2 _ _ _ hp hS (lv_sub hl [1, 2, 0] rfl)
  · have hp := hp.2 c_3
    refine lv_iconst hx hb dX11_image_9 kI_m1 ?_
    exact hR _ _ _ _ _ _ dX11_image_10 hp hS
def pX11_back_22 (post : Int32 → Wd → Prop) : Nat → Int32 → Int32 → Wd → Prop
  | 0, _, _, _ => False
  | n + 1, x1, x2, w => ((221 : Int32) ≤ x2 → (∀ w_2, w_2 = sI w 300 42 (0 : Int32) → ∀ w_3, w_3 = sI w_2 300 43 (0 : Int32) → post (w_3.2.1 341 (216 : Int32).toNatClampNeg) w_3)) ∧ (¬ (221 : Int32) ≤ x2 → (vp_in (((221 : Int32) * x1) + x2) 663 ∧ vp_in x2 221 ∧ ∀ w_4, w_4 = sA w 341 x2.toNatClampNeg (w.2.1 368 (((221 : Int32) * x1) + x2).toNatClampNeg) → ∀ x2_5, x2_5 = x2 + (1 : Int32) → pX11_back_22 post n x1 x2_5 w_4))
def pX11_back (post : Int32 → Wd → Prop) (x1 : Int32) (w : Wd) : Prop := pX11_isIn (fun r_1 w_2 => (r_1 = 0 → (post (-1 : Int32) w_2)) ∧ (¬ r_1 = 0 → (vp_in x1 3 ∧ (¬ (w_2.2.1 369 x1.toNatClampNeg) = 0 → (∃ n9, pX11_back_22 post n9 x1 (0 : Int32) w_2)) ∧ ((w_2.2.1 369 x1.toNatClampNeg) = 0 → (post (-1 : Int32) w_2))))) x1 (0 : Int32) (2 : Int32) w
set_option maxHeartbeats 4000000 in
set_option maxRecDepth 100000 in
theorem bX11_back_22 {p : Program} {l : Launch} {e : Env} {s : State} {m : MethodId} {args : Array Value} {below : List Frame} {meth : Method} {c : Code} {Q : State → Prop} {A : Nat → Prop} {g : Gw} {post : Int32 → Wd → Prop}  (hC : Cx p s m args c cX11_back RX11 3 g) (hR : RtI tabM p l e (rk 2) s m args below meth c Q cX11_back A g post)  : ∀ (n : Nat) (x1 : Int32) (x2 : Int32) (w : Wd) (H : Heap) (locs : List Loc) (ls : Array Slot), pX11_back_22 post n x1 x2 w → St tabM A s.heap g w H locs → lv_has ls 3 [(0, .ref (g.2.2 300)), (1, .int x1), (2, .int x2)] → W p l e (rk 2) s m args below meth c H locs 0 0 Q (F0 m 22 ls []) := by
  have hx := hC.1
  have hb := hC.2.1
  intro n
  induction n with
  | zero =>
    intro x1 x2 w H locs ls hp hS hl
    exact False.elim hp
  | succ n ih =>
    intro x1 x2 w H locs ls hp hS hl
    unfold pX11_back_22 at hp
    refine lv_iload_n hx hb dX11_back_22 rfl (lv_at hl 2 rfl) ?_
    refine lv_sipush hx hb dX11_back_23 kS_221 ?_
    refine lv_icmp_ge (tgt := 53) hx hb dX11_back_26 (by decide) (fun c_1 => ?_) (fun c_1 => ?_)
    · have hp := hp.1 c_1
      refine lv_aload_n hx hb dX11_back_53 rfl (lv_at hl 0 rfl) ?_
      refine lv_iconst hx hb dX11_back_54 kI_0 ?_
      refine P_300_42 hC hS m309 dX11_back_55 (fun w_2 H locs ew_2 hS => ?_)
      have hp := hp w_2 ew_2
      refine lv_aload_n hx hb dX11_back_58 rfl (lv_at hl 0 rfl) ?_
      refine lv_iconst hx hb dX11_back_59 kI_0 ?_
      refine P_300_43 hC hS m310 dX11_back_60 (fun w_3 H locs ew_3 hS => ?_)
      have hp := hp w_3 ew_3
      refine lv_aload_n hx hb dX11_back_63 rfl (lv_at hl 0 rfl) ?_
      refine G_300_40 hC hS m274 dX11_back_64 ?_
      refine lv_sipush hx hb dX11_back_67 kS_216 ?_
      refine La_341 hC hS (by unfold vp_in; decide) dX11_back_70 ?_
      exact hR _ _ _ _ _ _ dX11_back_71 hp hS
    · have hp := hp.2 c_1
      refine lv_aload_n hx hb dX11_back_29 rfl (lv_at hl 0 rfl) ?_
      refine G_300_40 hC hS m274 dX11_back_30 ?_
      refine lv_iload_n hx hb dX11_back_33 rfl (lv_at hl 2 rfl) ?_
      refine lv_aload_n hx hb dX11_back_34 rfl (lv_at hl 0 rfl) ?_
      refine G_300_67 hC hS m296 dX11_back_35 ?_
      refine lv_sipush hx hb dX11_back_38 kS_221 ?_
      refine lv_iload_n hx hb dX11_back_41 rfl (lv_at hl 1 rfl) ?_
      refine lv_imul hx hb dX11_back_42 ?_
      refine lv_iload_n hx hb dX11_back_43 rfl (lv_at hl 2 rfl) ?_
      refine lv_iadd hx hb dX11_back_44 ?_
      refine La_368 hC hS hp.1 dX11_back_45 ?_
      have hp := hp.2
      refine Sa_341 hC hS hp.1 dX11_back_46 (fun w_4 H locs ew_4 hS => ?_)
      have hp := hp.2
      have hp := hp w_4 ew_4
      obtain ⟨x2_5, ex2_5⟩ : ∃ y : Int32, y = x2 + (1 : Int32) := ⟨_, rfl⟩
      have hp := hp x2_5 ex2_5
      refine lv_iinc (v := x2_5) (lv' := [(2, .int x2_5), (0, .ref (g.2.2 300)), (1, .int x1)]) hx hb dX11_back_47 hl (k := 2) rfl (by rw [ex2_5]; rfl) (by decide) rfl (fun ls hl => ?_)
      refine lv_goto (tgt := 22) hx hb dX11_back_50 (by decide) ?_
      exact ih x1 x2_5 w_4 _ _ _ hp hS (lv_sub hl [1, 2, 0] rfl)
set_option maxHeartbeats 4000000 in
set_option maxRecDepth 100000 in
theorem rX11_back {l : Launch} {g : Gw} {w : Wd} {post : Int32 → Wd → Prop}   {x1 : Int32} (hp : pX11_back post x1 w) : MtI tabM l yX11_back cX11_back 3 (some .int) 2 g w [.ref (g.2.2 300), .int x1] post := by
  refine q_entI tabM_nd (by decide) rfl (Nat.le_of_ble_eq_true rfl) ?_
  intro p e s m args below meth c A Q ls hC hR hS hl
  have hx := hC.1
  have hb := hC.2.1
  have hl : lv_has ls 3 [(0, .ref (g.2.2 300)), (1, .int x1)] := hl
  unfold pX11_back at hp
  refine lv_iload_n hx hb dX11_back_0 rfl (lv_at hl 1 rfl) ?_
  refine lv_iconst hx hb dX11_back_1 kI_0 ?_
  refine lv_iconst hx hb dX11_back_2 kI_2 ?_
  refine q_csI (As := [.int x1, .int (0 : Int32), .int (2 : Int32)]) (rest := []) hC hS hl.1 (rX11_isIn hp) cwX11_345 ysX11_isIn rfl rfl (Nat.le_of_ble_eq_true rfl) (rmk (by decide) (by decide)) dX11_back_3 (fun r_1 w_2 H locs hp hS => ?_)
  refine lv_if_eq (tgt := 18) hx hb dX11_back_6 (by decide) (fun c_3 => ?_) (fun c_3 => ?_)
  · have hp := hp.1 c_3
    refine lv_iconst hx hb dX11_back_18 kI_m1 ?_
    exact hR _ _ _ _ _ _ dX11_back_19 hp hS
  · have hp := hp.2 c_3
    refine lv_aload_n hx hb dX11_back_9 rfl (lv_at hl 0 rfl) ?_
    refine G_300_68 hC hS m297 dX11_back_10 ?_
    refine lv_iload_n hx hb dX11_back_13 rfl (lv_at hl 1 rfl) ?_
    refine La_369 hC hS hp.1 dX11_back_14 ?_
    have hp := hp.2
    refine lv_if_ne (tgt := 20) hx hb dX11_back_15 (by decide) (fun c_4 => ?_) (fun c_4 => ?_)
    · have hp := hp.1 c_4
      refine lv_iconst hx hb dX11_back_20 kI_0 ?_
      refine lv_istore_n (lv' := [(2, .int (0 : Int32)), (0, .ref (g.2.2 300)), (1, .int x1)]) hx hb dX11_back_21 rfl hl (by decide) rfl (fun ls hl => ?_)
      obtain ⟨n9, hp⟩ := hp
      exact bX11_back_22 hC hR n9 x1 (0 : Int32) w_2 _ _ _ hp hS (lv_sub hl [1, 2, 0] rfl)
    · have hp := hp.2 c_4
      refine lv_iconst hx hb dX11_back_18 kI_m1 ?_
      exact hR _ _ _ _ _ _ dX11_back_19 hp hS
def pX11_about (post : Int32 → Wd → Prop) (x1 : Int32) (w : Wd) : Prop := (x1.toInt < 0 ∨ 13 < x1.toInt → (post (-1 : Int32) w)) ∧ (x1.toInt = 0 → (vp_in (w.1 300 29) 2 ∧ post (w.2.1 314 (w.1 300 29).toNatClampNeg) w)) ∧ (x1.toInt = 1 → (pX11_width (fun r_2 w_3 => post r_2 w_3) w)) ∧ (x1.toInt = 2 → (post (w.2.1 341 (216 : Int32).toNatClampNeg) w)) ∧ (x1.toInt = 3 → (post (w.2.1 341 (217 : Int32).toNatClampNeg) w)) ∧ (x1.toInt = 4 → (post (w.2.1 341 (218 : Int32).toNatClampNeg) w)) ∧ (x1.toInt = 5 → (post (w.2.1 341 (219 : Int32).toNatClampNeg) w)) ∧ (x1.toInt = 6 → (post (w.2.1 341 (220 : Int32).toNatClampNeg) w)) ∧ (x1.toInt = 7 → (post (w.1 300 42) w)) ∧ (x1.toInt = 8 → (post (w.1 300 43) w)) ∧ (x1.toInt = 9 → (post (w.1 300 58) w)) ∧ (x1.toInt = 10 → (post (w.1 300 59) w)) ∧ (x1.toInt = 11 → (post (w.1 300 2) w)) ∧ (x1.toInt = 12 → (vp_in (w.1 300 29) 2 ∧ post (w.2.1 315 (w.1 300 29).toNatClampNeg) w)) ∧ (x1.toInt = 13 → (post (w.1 300 48) w))
set_option maxHeartbeats 4000000 in
set_option maxRecDepth 100000 in
theorem rX11_about {l : Launch} {g : Gw} {w : Wd} {post : Int32 → Wd → Prop}   {x1 : Int32} (hp : pX11_about post x1 w) : MtI tabM l yX11_about cX11_about 2 (some .int) 2 g w [.ref (g.2.2 300), .int x1] post := by
  refine q_entI tabM_nd (by decide) rfl (Nat.le_of_ble_eq_true rfl) ?_
  intro p e s m args below meth c A Q ls hC hR hS hl
  have hx := hC.1
  have hb := hC.2.1
  have hl : lv_has ls 2 [(0, .ref (g.2.2 300)), (1, .int x1)] := hl
  unfold pX11_about at hp
  refine lv_iload_n hx hb dX11_about_0 rfl (lv_at hl 1 rfl) ?_
  by_cases c_1 : x1.toInt < 0 ∨ 13 < x1.toInt
  · have hp := hp.1 c_1
    refine lv_tableOut (tgt := 172) hx hb dX11_about_1 c_1 (by decide) ?_
    refine lv_iconst hx hb dX11_about_172 kI_m1 ?_
    exact hR _ _ _ _ _ _ dX11_about_173 hp hS
  · have hp := hp.2
    have c_11 : ¬ x1.toInt < 0 := fun z => c_1 (Or.inl z)
    have c_12 : ¬ 13 < x1.toInt := fun z => c_1 (Or.inr z)
    rcases (show x1.toInt = 0 ∨ x1.toInt = 1 ∨ x1.toInt = 2 ∨ x1.toInt = 3 ∨ x1.toInt = 4 ∨ x1.toInt = 5 ∨ x1.toInt = 6 ∨ x1.toInt = 7 ∨ x1.toInt = 8 ∨ x1.toInt = 9 ∨ x1.toInt = 10 ∨ x1.toInt = 11 ∨ x1.toInt = 12 ∨ x1.toInt = 13 by omega) with c_13 | c_13 | c_13 | c_13 | c_13 | c_13 | c_13 | c_13 | c_13 | c_13 | c_13 | c_13 | c_13 | c_13
    · have hp := hp.1 c_13
      refine lv_tableIn (tgt := 72) hx hb dX11_about_1 c_11 c_12 (by rw [c_13]; rfl) (by decide) ?_
      refine lv_aload_n hx hb dX11_about_72 rfl (lv_at hl 0 rfl) ?_
      refine G_300_13 hC hS m258 dX11_about_73 ?_
      refine lv_aload_n hx hb dX11_about_76 rfl (lv_at hl 0 rfl) ?_
      refine G_300_29 hC hS m308 dX11_about_77 ?_
      refine La_314 hC hS hp.1 dX11_about_80 ?_
      have hp := hp.2
      exact hR _ _ _ _ _ _ dX11_about_81 hp hS
    · have hp := hp.2.1 c_13
      refine lv_tableIn (tgt := 82) hx hb dX11_about_1 c_11 c_12 (by rw [c_13]; rfl) (by decide) ?_
      refine lv_aload_n hx hb dX11_about_82 rfl (lv_at hl 0 rfl) ?_
      refine q_cvI (As := []) (rest := []) hC hS hl.1 (rX11_width hp) cwX11_342 yvX11_width (rcv_300 hC hS) rfl rfl (Nat.le_of_ble_eq_true rfl) (rmk (by decide) (by decide)) dX11_about_83 (fun r_2 w_3 H locs hp hS => ?_)
      exact hR _ _ _ _ _ _ dX11_about_86 hp hS
    · have hp := hp.2.2.1 c_13
      refine lv_tableIn (tgt := 87) hx hb dX11_about_1 c_11 c_12 (by rw [c_13]; rfl) (by decide) ?_
      refine lv_aload_n hx hb dX11_about_87 rfl (lv_at hl 0 rfl) ?_
      refine G_300_40 hC hS m274 dX11_about_88 ?_
      refine lv_sipush hx hb dX11_about_91 kS_216 ?_
      refine La_341 hC hS (by unfold vp_in; decide) dX11_about_94 ?_
      exact hR _ _ _ _ _ _ dX11_about_95 hp hS
    · have hp := hp.2.2.2.1 c_13
      refine lv_tableIn (tgt := 96) hx hb dX11_about_1 c_11 c_12 (by rw [c_13]; rfl) (by decide) ?_
      refine lv_aload_n hx hb dX11_about_96 rfl (lv_at hl 0 rfl) ?_
      refine G_300_40 hC hS m274 dX11_about_97 ?_
      refine lv_sipush hx hb dX11_about_100 kS_217 ?_
      refine La_341 hC hS (by unfold vp_in; decide) dX11_about_103 ?_
      exact hR _ _ _ _ _ _ dX11_about_104 hp hS
    · have hp := hp.2.2.2.2.1 c_13
      refine lv_tableIn (tgt := 105) hx hb dX11_about_1 c_11 c_12 (by rw [c_13]; rfl) (by decide) ?_
      refine lv_aload_n hx hb dX11_about_105 rfl (lv_at hl 0 rfl) ?_
      refine G_300_40 hC hS m274 dX11_about_106 ?_
      refine lv_sipush hx hb dX11_about_109 kS_218 ?_
      refine La_341 hC hS (by unfold vp_in; decide) dX11_about_112 ?_
      exact hR _ _ _ _ _ _ dX11_about_113 hp hS
    · have hp := hp.2.2.2.2.2.1 c_13
      refine lv_tableIn (tgt := 114) hx hb dX11_about_1 c_11 c_12 (by rw [c_13]; rfl) (by decide) ?_
      refine lv_aload_n hx hb dX11_about_114 rfl (lv_at hl 0 rfl) ?_
      refine G_300_40 hC hS m274 dX11_about_115 ?_
      refine lv_sipush hx hb dX11_about_118 kS_219 ?_
      refine La_341 hC hS (by unfold vp_in; decide) dX11_about_121 ?_
      exact hR _ _ _ _ _ _ dX11_about_122 hp hS
    · have hp := hp.2.2.2.2.2.2.1 c_13
      refine lv_tableIn (tgt := 123) hx hb dX11_about_1 c_11 c_12 (by rw [c_13]; rfl) (by decide) ?_
      refine lv_aload_n hx hb dX11_about_123 rfl (lv_at hl 0 rfl) ?_
      refine G_300_40 hC hS m274 dX11_about_124 ?_
      refine lv_sipush hx hb dX11_about_127 kS_220 ?_
      refine La_341 hC hS (by unfold vp_in; decide) dX11_about_130 ?_
      exact hR _ _ _ _ _ _ dX11_about_131 hp hS
    · have hp := hp.2.2.2.2.2.2.2.1 c_13
      refine lv_tableIn (tgt := 132) hx hb dX11_about_1 c_11 c_12 (by rw [c_13]; rfl) (by decide) ?_
      refine lv_aload_n hx hb dX11_about_132 rfl (lv_at hl 0 rfl) ?_
      refine G_300_42 hC hS m309 dX11_about_133 ?_
      exact hR _ _ _ _ _ _ dX11_about_136 hp hS
    · have hp := hp.2.2.2.2.2.2.2.2.1 c_13
      refine lv_tableIn (tgt := 137) hx hb dX11_about_1 c_11 c_12 (by rw [c_13]; rfl) (by decide) ?_
      refine lv_aload_n hx hb dX11_about_137 rfl (lv_at hl 0 rfl) ?_
      refine G_300_43 hC hS m310 dX11_about_138 ?_
      exact hR _ _ _ _ _ _ dX11_about_141 hp hS
    · have hp := hp.2.2.2.2.2.2.2.2.2.1 c_13
      refine lv_tableIn (tgt := 142) hx hb dX11_about_1 c_11 c_12 (by rw [c_13]; rfl) (by decide) ?_
      refine lv_aload_n hx hb dX11_about_142 rfl (lv_at hl 0 rfl) ?_
      refine G_300_58 hC hS m311 dX11_about_143 ?_
      exact hR _ _ _ _ _ _ dX11_about_146 hp hS
    · have hp := hp.2.2.2.2.2.2.2.2.2.2.1 c_13
      refine lv_tableIn (tgt := 147) hx hb dX11_about_1 c_11 c_12 (by rw [c_13]; rfl) (by decide) ?_
      refine lv_aload_n hx hb dX11_about_147 rfl (lv_at hl 0 rfl) ?_
      refine G_300_59 hC hS m1177 dX11_about_148 ?_
      exact hR _ _ _ _ _ _ dX11_about_151 hp hS
    · have hp := hp.2.2.2.2.2.2.2.2.2.2.2.1 c_13
      refine lv_tableIn (tgt := 152) hx hb dX11_about_1 c_11 c_12 (by rw [c_13]; rfl) (by decide) ?_
      refine lv_aload_n hx hb dX11_about_152 rfl (lv_at hl 0 rfl) ?_
      refine G_300_2 hC hS m325 dX11_about_153 ?_
      exact hR _ _ _ _ _ _ dX11_about_156 hp hS
    · have hp := hp.2.2.2.2.2.2.2.2.2.2.2.2.1 c_13
      refine lv_tableIn (tgt := 157) hx hb dX11_about_1 c_11 c_12 (by rw [c_13]; rfl) (by decide) ?_
      refine lv_aload_n hx hb dX11_about_157 rfl (lv_at hl 0 rfl) ?_
      refine G_300_14 hC hS m259 dX11_about_158 ?_
      refine lv_aload_n hx hb dX11_about_161 rfl (lv_at hl 0 rfl) ?_
      refine G_300_29 hC hS m308 dX11_about_162 ?_
      refine La_315 hC hS hp.1 dX11_about_165 ?_
      have hp := hp.2
      exact hR _ _ _ _ _ _ dX11_about_166 hp hS
    · have hp := hp.2.2.2.2.2.2.2.2.2.2.2.2.2 c_13
      refine lv_tableIn (tgt := 167) hx hb dX11_about_1 c_11 c_12 (by rw [c_13]; rfl) (by decide) ?_
      refine lv_aload_n hx hb dX11_about_167 rfl (lv_at hl 0 rfl) ?_
      refine G_300_48 hC hS m312 dX11_about_168 ?_
      exact hR _ _ _ _ _ _ dX11_about_171 hp hS
