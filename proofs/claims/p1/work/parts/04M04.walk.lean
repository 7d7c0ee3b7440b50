def pX11_tree_176 (k76 : Int32 → Int32 → Int32 → Int32 → Int32 → Int32 → Wd → Prop) (post : Int32 → Wd → Prop) (x1 : Int32) (x2 : Int32) (x4 : Int32) (x5 : Int32) (x6 : Int32) (x7 : Int32) (w : Wd) : Prop := ∀ x7_1, x7_1 = x7 + (1 : Int32) → k76 x1 x2 x4 x5 x6 x7_1 w
def pX11_tree_172 (k76 : Int32 → Int32 → Int32 → Int32 → Int32 → Int32 → Wd → Prop) (post : Int32 → Wd → Prop) (x1 : Int32) (x2 : Int32) (x4 : Int32) (x6 : Int32) (x7 : Int32) (x8 : Int32) (w : Wd) : Prop := pX11_tree_176 k76 post x1 x2 x4 x8 x6 x7 w
def pX11_tree_143 (k76 : Int32 → Int32 → Int32 → Int32 → Int32 → Int32 → Wd → Prop) (post : Int32 → Wd → Prop) : Nat → Int32 → Int32 → Int32 → Int32 → Int32 → Int32 → Int32 → Wd → Prop
  | 0, _, _, _, _, _, _, _, _ => False
  | n + 1, x1, x2, x4, x6, x7, x8, x9, w => ((w.1 300 63) ≤ x9 → (pX11_tree_172 k76 post x1 x2 x4 x6 x7 x8 w)) ∧ (¬ (w.1 300 63) ≤ x9 → (vp_in x9 7 ∧ vp_in x9 12 ∧ ∀ w_2, w_2 = sA w 348 x9.toNatClampNeg (w.2.1 362 x9.toNatClampNeg) → ∀ x9_3, x9_3 = x9 + (1 : Int32) → pX11_tree_143 k76 post n x1 x2 x4 x6 x7 x8 x9_3 w_2))
def pX11_tree_132 (k76 : Int32 → Int32 → Int32 → Int32 → Int32 → Int32 → Wd → Prop) (post : Int32 → Wd → Prop) (x1 : Int32) (x2 : Int32) (x4 : Int32) (x7 : Int32) (x8 : Int32) (t0 : Int32) (w : Wd) : Prop := (¬ t0 = (1 : Int32) → (pX11_tree_172 k76 post x1 x2 x4 t0 x7 x8 w)) ∧ (t0 = (1 : Int32) → (∃ n9, pX11_tree_143 k76 post n9 x1 x2 x4 t0 x7 x8 (0 : Int32) w))
def pX11_tree_124 (k76 : Int32 → Int32 → Int32 → Int32 → Int32 → Int32 → Wd → Prop) (post : Int32 → Wd → Prop) (x1 : Int32) (x2 : Int32) (x4 : Int32) (x7 : Int32) (x8 : Int32) (w : Wd) : Prop := pX11_tree_132 k76 post x1 x2 x4 x7 x8 (1 : Int32) w
def pX11_tree_112 (k76 : Int32 → Int32 → Int32 → Int32 → Int32 → Int32 → Wd → Prop) (post : Int32 → Wd → Prop) (x1 : Int32) (x2 : Int32) (x4 : Int32) (x5 : Int32) (x6 : Int32) (x7 : Int32) (x8 : Int32) (w : Wd) : Prop := (x5 < 0 → (pX11_tree_124 k76 post x1 x2 x4 x7 x8 w)) ∧ (¬ x5 < 0 → ((x5 ≤ x8 → (pX11_tree_132 k76 post x1 x2 x4 x7 x8 (x6 + (1 : Int32)) w)) ∧ (¬ x5 ≤ x8 → (pX11_tree_124 k76 post x1 x2 x4 x7 x8 w))))
def pX11_tree_76 (post : Int32 → Wd → Prop) : Nat → Int32 → Int32 → Int32 → Int32 → Int32 → Int32 → Wd → Prop
  | 0, _, _, _, _, _, _, _ => False
  | n + 1, x1, x2, x4, x5, x6, x7, w => (x4 ≤ x7 → (∀ w_2, w_2 = sI w 300 48 (w.1 300 63) → (¬ x2 = 0 → (post x6 w_2)) ∧ (x2 = 0 → (post x5 w_2)))) ∧ (¬ x4 ≤ x7 → (False))
def pX11_tree_41 (post : Int32 → Wd → Prop) : Nat → Int32 → Int32 → Int32 → Int32 → Wd → Prop
  | 0, _, _, _, _, _ => False
  | n + 1, x1, x2, x4, x5, w => ((w.1 300 63) ≤ x5 → (∃ n9, pX11_tree_76 post n9 x1 x2 x4 (-1 : Int32) (0 : Int32) (0 : Int32) w)) ∧ (¬ (w.1 300 63) ≤ x5 → (∀ x4_2, x4_2 = (x4 * ((w.1 300 63) - (1 : Int32))) → ∀ x5_3, x5_3 = x5 + (1 : Int32) → pX11_tree_41 post n x1 x2 x4_2 x5_3 w))
def pX11_tree (post : Int32 → Wd → Prop) (x1 : Int32) (x2 : Int32) (x3 : Int32) (w : Wd) : Prop := ∀ w_1, w_1 = sI w 300 48 (0 : Int32) → pX11_laySamples (fun w_2 => pX11_isIn (fun r_3 w_4 => (r_3 = 0 → (post (-1 : Int32) w_4)) ∧ (¬ r_3 = 0 → (pX11_isIn (fun r_6 w_7 => (¬ r_6 = 0 → (∃ n9, pX11_tree_41 post n9 x1 x2 (1 : Int32) (1 : Int32) w_7)) ∧ (r_6 = 0 → (post (-1 : Int32) w_7))) x2 (0 : Int32) (1 : Int32) w_4))) x1 (0 : Int32) ((w_2.1 300 63) - (1 : Int32)) w_2) x3 w_1
set_option maxHeartbeats 4000000 in
set_option maxRecDepth 100000 in
theorem bX11_tree_176 {p : Program} {l : Launch} {e : Env} {s : State} {m : MethodId} {args : Array Value} {below : List Frame} {meth : Method} {c : Code} {Q : State → Prop} {A : Nat → Prop} {g : Gw} {post : Int32 → Wd → Prop}  (hC : Cx p s m args c cX11_tree RX11 10 g) (hR : RtI tabM p l e (rk 4) s m args below meth c Q cX11_tree A g post)  {k76 : Int32 → Int32 → Int32 → Int32 → Int32 → Int32 → Wd → Prop} (hk76 : ∀ (x1 : Int32) (x2 : Int32) (x4 : Int32) (x5 : Int32) (x6 : Int32) (x7 : Int32) (w : Wd) (H : Heap) (locs : List Loc) (ls : Array Slot), k76 x1 x2 x4 x5 x6 x7 w → St tabM A s.heap g w H locs → lv_has ls 10 [(0, .ref (g.2.2 300)), (1, .int x1), (2, .int x2), (4, .int x4), (5, .int x5), (6, .int x6), (7, .int x7)] → W p l e (rk 4) s m args below meth c H locs 0 0 Q (F0 m 76 ls [])) : ∀ (x1 : Int32) (x2 : Int32) (x4 : Int32) (x5 : Int32) (x6 : Int32) (x7 : Int32) (w : Wd) (H : Heap) (locs : List Loc) (ls : Array Slot), pX11_tree_176 k76 post x1 x2 x4 x5 x6 x7 w → St tabM A s.heap g w H locs → lv_has ls 10 [(0, .ref (g.2.2 300)), (1, .int x1), (2, .int x2), (4, .int x4), (5, .int x5), (6, .int x6), (7, .int x7)] → W p l e (rk 4) s m args below meth c H locs 0 0 Q (F0 m 176 ls []) := by
  have hx := hC.1
  have hb := hC.2.1
  intro x1 x2 x4 x5 x6 x7 w H locs ls hp hS hl
  unfold pX11_tree_176 at hp
  obtain ⟨x7_1, ex7_1⟩ : ∃ y : Int32, y = x7 + (1 : Int32) := ⟨_, rfl⟩
  have hp := hp x7_1 ex7_1
  refine lv_iinc (v := x7_1) (lv' := [(7, .int x7_1), (0, .ref (g.2.2 300)), (1, .int x1), (2, .int x2), (4, .int x4), (5, .int x5), (6, .int x6)]) hx hb dX11_tree_176 hl (k := 6) rfl (by rw [ex7_1]; rfl) (by decide) rfl (fun ls hl => ?_)
  refine lv_goto (tgt := 76) hx hb dX11_tree_179 (by decide) ?_
  exact hk76 x1 x2 x4 x5 x6 x7_1 w _ _ _ hp hS (lv_sub hl [1, 2, 3, 4, 5, 6, 0] rfl)
set_option maxHeartbeats 4000000 in
set_option maxRecDepth 100000 in
theorem bX11_tree_172 {p : Program} {l : Launch} {e : Env} {s : State} {m : MethodId} {args : Array Value} {below : List Frame} {meth : Method} {c : Code} {Q : State → Prop} {A : Nat → Prop} {g : Gw} {post : Int32 → Wd → Prop}  (hC : Cx p s m args c cX11_tree RX11 10 g) (hR : RtI tabM p l e (rk 4) s m args below meth c Q cX11_tree A g post)  {k76 : Int32 → Int32 → Int32 → Int32 → Int32 → Int32 → Wd → Prop} (hk76 : ∀ (x1 : Int32) (x2 : Int32) (x4 : Int32) (x5 : Int32) (x6 : Int32) (x7 : Int32) (w : Wd) (H : Heap) (locs : List Loc) (ls : Array Slot), k76 x1 x2 x4 x5 x6 x7 w → St tabM A s.heap g w H locs → lv_has ls 10 [(0, .ref (g.2.2 300)), (1, .int x1), (2, .int x2), (4, .int x4), (5, .int x5), (6, .int x6), (7, .int x7)] → W p l e (rk 4) s m args below meth c H locs 0 0 Q (F0 m 76 ls [])) : ∀ (x1 : Int32) (x2 : Int32) (x4 : Int32) (x6 : Int32) (x7 : Int32) (x8 : Int32) (w : Wd) (H : Heap) (locs : List Loc) (ls : Array Slot), pX11_tree_172 k76 post x1 x2 x4 x6 x7 x8 w → St tabM A s.heap g w H locs → lv_has ls 10 [(0, .ref (g.2.2 300)), (1, .int x1), (2, .int x2), (4, .int x4), (6, .int x6), (7, .int x7), (8, .int x8)] → W p l e (rk 4) s m args below meth c H locs 0 0 Q (F0 m 172 ls []) := by
  have hx := hC.1
  have hb := hC.2.1
  intro x1 x2 x4 x6 x7 x8 w H locs ls hp hS hl
  unfold pX11_tree_172 at hp
  refine lv_iload hx hb dX11_tree_172 (lv_at hl 6 rfl) ?_
  refine lv_istore (lv' := [(5, .int x8), (0, .ref (g.2.2 300)), (1, .int x1), (2, .int x2), (4, .int x4), (6, .int x6), (7, .int x7), (8, .int x8)]) hx hb dX11_tree_174 hl (by decide) rfl (fun ls hl => ?_)
  exact bX11_tree_176 hC hR hk76 x1 x2 x4 x8 x6 x7 w _ _ _ hp hS (lv_sub hl [1, 2, 3, 4, 0, 5, 6] rfl)
set_option maxHeartbeats 4000000 in
set_option maxRecDepth 100000 in
theorem bX11_tree_143 {p : Program} {l : Launch} {e : Env} {s : State} {m : MethodId} {args : Array Value} {below : List Frame} {meth : Method} {c : Code} {Q : State → Prop} {A : Nat → Prop} {g : Gw} {post : Int32 → Wd → Prop}  (hC : Cx p s m args c cX11_tree RX11 10 g) (hR : RtI tabM p l e (rk 4) s m args below meth c Q cX11_tree A g post)  {k76 : Int32 → Int32 → Int32 → Int32 → Int32 → Int32 → Wd → Prop} (hk76 : ∀ (x1 : Int32) (x2 : Int32) (x4 : Int32) (x5 : Int32) (x6 : Int32) (x7 : Int32) (w : Wd) (H : Heap) (locs : List Loc) (ls : Array Slot), k76 x1 x2 x4 x5 x6 x7 w → St tabM A s.heap g w H locs → lv_has ls 10 [(0, .ref (g.2.2 300)), (1, .int x1), (2, .int x2), (4, .int x4), (5, .int x5), (6, .int x6), (7, .int x7)] → W p l e (rk 4) s m args below meth c H locs 0 0 Q (F0 m 76 ls [])) : ∀ (n : Nat) (x1 : Int32) (x2 : Int32) (x4 : Int32) (x6 : Int32) (x7 : Int32) (x8 : Int32) (x9 : Int32) (w : Wd) (H : Heap) (locs : List Loc) (ls : Array Slot), pX11_tree_143 k76 post n x1 x2 x4 x6 x7 x8 x9 w → St tabM A s.heap g w H locs → lv_has ls 10 [(0, .ref (g.2.2 300)), (1, .int x1), (2, .int x2), (4, .int x4), (6, .int x6), (7, .int x7), (8, .int x8), (9, .int x9)] → W p l e (rk 4) s m args below meth c H locs 0 0 Q (F0 m 143 ls []) := by
  have hx := hC.1
  have hb := hC.2.1
  intro n
  induction n with
  | zero =>
    intro x1 x2 x4 x6 x7 x8 x9 w H locs ls hp hS hl
    exact False.elim hp
  | succ n ih =>
    intro x1 x2 x4 x6 x7 x8 x9 w H locs ls hp hS hl
    unfold pX11_tree_143 at hp
    refine lv_iload hx hb dX11_tree_143 (lv_at hl 7 rfl) ?_
    refine lv_aload_n hx hb dX11_tree_145 rfl (lv_at hl 0 rfl) ?_
    refine G_300_63 hC hS m1282 dX11_tree_146 ?_
    refine lv_icmp_ge (tgt := 172) hx hb dX11_tree_149 (by decide) (fun c_1 => ?_) (fun c_1 => ?_)
    · have hp := hp.1 c_1
      exact bX11_tree_172 hC hR hk76 x1 x2 x4 x6 x7 x8 w _ _ _ hp hS (lv_sub hl [0, 1, 2, 3, 4, 5, 6] rfl)
    · have hp := hp.2 c_1
      refine lv_aload_n hx hb dX11_tree_152 rfl (lv_at hl 0 rfl) ?_
      refine G_300_47 hC hS m279 dX11_tree_153 ?_
      refine lv_iload hx hb dX11_tree_156 (lv_at hl 7 rfl) ?_
      refine lv_aload_n hx hb dX11_tree_158 rfl (lv_at hl 0 rfl) ?_
      refine G_300_61 hC hS m291 dX11_tree_159 ?_
      refine lv_iload hx hb dX11_tree_162 (lv_at hl 7 rfl) ?_
      refine La_362 hC hS hp.1 dX11_tree_164 ?_
      have hp := hp.2
      refine Sa_348 hC hS hp.1 dX11_tree_165 (fun w_2 H locs ew_2 hS => ?_)
      have hp := hp.2
      have hp := hp w_2 ew_2
      obtain ⟨x9_3, ex9_3⟩ : ∃ y : Int32, y = x9 + (1 : Int32) := ⟨_, rfl⟩
      have hp := hp x9_3 ex9_3
      refine lv_iinc (v := x9_3) (lv' := [(9, .int x9_3), (0, .ref (g.2.2 300)), (1, .int x1), (2, .int x2), (4, .int x4), (6, .int x6), (7, .int x7), (8, .int x8)]) hx hb dX11_tree_166 hl (k := 7) rfl (by rw [ex9_3]; rfl) (by decide) rfl (fun ls hl => ?_)
      refine lv_goto (tgt := 143) hx hb dX11_tree_169 (by decide) ?_
      exact ih x1 x2 x4 x6 x7 x8 x9_3 w_2 _ _ _ hp hS (lv_sub hl [1, 2, 3, 4, 5, 6, 7, 0] rfl)
set_option maxHeartbeats 4000000 in
set_option maxRecDepth 100000 in
theorem bX11_tree_132 {p : Program} {l : Launch} {e : Env} {s : State} {m : MethodId} {args : Array Value} {below : List Frame} {meth : Method} {c : Code} {Q : State → Prop} {A : Nat → Prop} {g : Gw} {post : Int32 → Wd → Prop}  (hC : Cx p s m args c cX11_tree RX11 10 g) (hR : RtI tabM p l e (rk 4) s m args below meth c Q cX11_tree A g post)  {k76 : Int32 → Int32 → Int32 → Int32 → Int32 → Int32 → Wd → Prop} (hk76 : ∀ (x1 : Int32) (x2 : Int32) (x4 : Int32) (x5 : Int32) (x6 : Int32) (x7 : Int32) (w : Wd) (H : Heap) (locs : List Loc) (ls : Array Slot), k76 x1 x2 x4 x5 x6 x7 w → St tabM A s.heap g w H locs → lv_has ls 10 [(0, .ref (g.2.2 300)), (1, .int x1), (2, .int x2), (4, .int x4), (5, .int x5), (6, .int x6), (7, .int x7)] → W p l e (rk 4) s m args below meth c H locs 0 0 Q (F0 m 76 ls [])) : ∀ (x1 : Int32) (x2 : Int32) (x4 : Int32) (x7 : Int32) (x8 : Int32) (t0 : Int32) (w : Wd) (H : Heap) (locs : List Loc) (ls : Array Slot), pX11_tree_132 k76 post x1 x2 x4 x7 x8 t0 w → St tabM A s.heap g w H locs → lv_has ls 10 [(0, .ref (g.2.2 300)), (1, .int x1), (2, .int x2), (4, .int x4), (7, .int x7), (8, .int x8)] → W p l e (rk 4) s m args below meth c H locs 0 0 Q (F0 m 132 ls [.int t0]) := by
  have hx := hC.1
  have hb := hC.2.1
  intro x1 x2 x4 x7 x8 t0 w H locs ls hp hS hl
  unfold pX11_tree_132 at hp
  refine lv_istore (lv' := [(6, .int t0), (0, .ref (g.2.2 300)), (1, .int x1), (2, .int x2), (4, .int x4), (7, .int x7), (8, .int x8)]) hx hb dX11_tree_132 hl (by decide) rfl (fun ls hl => ?_)
  refine lv_iload hx hb dX11_tree_134 (lv_at hl 0 rfl) ?_
  refine lv_iconst hx hb dX11_tree_136 kI_1 ?_
  refine lv_icmp_ne (tgt := 172) hx hb dX11_tree_137 (by decide) (fun c_1 => ?_) (fun c_1 => ?_)
  · have hp := hp.1 c_1
    exact bX11_tree_172 hC hR hk76 x1 x2 x4 t0 x7 x8 w _ _ _ hp hS (lv_sub hl [1, 2, 3, 4, 0, 5, 6] rfl)
  · have hp := hp.2 c_1
    refine lv_iconst hx hb dX11_tree_140 kI_0 ?_
    refine lv_istore (lv' := [(9, .int (0 : Int32)), (6, .int t0), (0, .ref (g.2.2 300)), (1, .int x1), (2, .int x2), (4, .int x4), (7, .int x7), (8, .int x8)]) hx hb dX11_tree_141 hl (by decide) rfl (fun ls hl => ?_)
    obtain ⟨n9, hp⟩ := hp
    exact bX11_tree_143 hC hR hk76 n9 x1 x2 x4 t0 x7 x8 (0 : Int32) w _ _ _ hp hS (lv_sub hl [2, 3, 4, 5, 1, 6, 7, 0] rfl)
set_option maxHeartbeats 4000000 in
set_option maxRecDepth 100000 in
theorem bX11_tree_124 {p : Program} {l : Launch} {e : Env} {s : State} {m : MethodId} {args : Array Value} {below : List Frame} {meth : Method} {c : Code} {Q : State → Prop} {A : Nat → Prop} {g : Gw} {post : Int32 → Wd → Prop}  (hC : Cx p s m args c cX11_tree RX11 10 g) (hR : RtI tabM p l e (rk 4) s m args below meth c Q cX11_tree A g post)  {k76 : Int32 → Int32 → Int32 → Int32 → Int32 → Int32 → Wd → Prop} (hk76 : ∀ (x1 : Int32) (x2 : Int32) (x4 : Int32) (x5 : Int32) (x6 : Int32) (x7 : Int32) (w : Wd) (H : Heap) (locs : List Loc) (ls : Array Slot), k76 x1 x2 x4 x5 x6 x7 w → St tabM A s.heap g w H locs → lv_has ls 10 [(0, .ref (g.2.2 300)), (1, .int x1), (2, .int x2), (4, .int x4), (5, .int x5), (6, .int x6), (7, .int x7)] → W p l e (rk 4) s m args below meth c H locs 0 0 Q (F0 m 76 ls [])) : ∀ (x1 : Int32) (x2 : Int32) (x4 : Int32) (x7 : Int32) (x8 : Int32) (w : Wd) (H : Heap) (locs : List Loc) (ls : Array Slot), pX11_tree_124 k76 post x1 x2 x4 x7 x8 w → St tabM A s.heap g w H locs → lv_has ls 10 [(0, .ref (g.2.2 300)), (1, .int x1), (2, .int x2), (4, .int x4), (7, .int x7), (8, .int x8)] → W p l e (rk 4) s m args below meth c H locs 0 0 Q (F0 m 124 ls []) := by
  have hx := hC.1
  have hb := hC.2.1
  intro x1 x2 x4 x7 x8 w H locs ls hp hS hl
  unfold pX11_tree_124 at hp
  refine lv_iconst hx hb dX11_tree_124 kI_1 ?_
  refine lv_goto (tgt := 132) hx hb dX11_tree_125 (by decide) ?_
  exact bX11_tree_132 hC hR hk76 x1 x2 x4 x7 x8 (1 : Int32) w _ _ _ hp hS (lv_sub hl [0, 1, 2, 3, 4, 5] rfl)
set_option maxHeartbeats 4000000 in
set_option maxRecDepth 100000 in
theorem bX11_tree_112 {p : Program} {l : Launch} {e : Env} {s : State} {m : MethodId} {args : Array Value} {below : List Frame} {meth : Method} {c : Code} {Q : State → Prop} {A : Nat → Prop} {g : Gw} {post : Int32 → Wd → Prop}  (hC : Cx p s m args c cX11_tree RX11 10 g) (hR : RtI tabM p l e (rk 4) s m args below meth c Q cX11_tree A g post)  {k76 : Int32 → Int32 → Int32 → Int32 → Int32 → Int32 → Wd → Prop} (hk76 : ∀ (x1 : Int32) (x2 : Int32) (x4 : Int32) (x5 : Int32) (x6 : Int32) (x7 : Int32) (w : Wd) (H : Heap) (locs : List Loc) (ls : Array Slot), k76 x1 x2 x4 x5 x6 x7 w → St tabM A s.heap g w H locs → lv_has ls 10 [(0, .ref (g.2.2 300)), (1, .int x1), (2, .int x2), (4, .int x4), (5, .int x5), (6, .int x6), (7, .int x7)] → W p l e (rk 4) s m args below meth c H locs 0 0 Q (F0 m 76 ls [])) : ∀ (x1 : Int32) (x2 : Int32) (x4 : Int32) (x5 : Int32) (x6 : Int32) (x7 : Int32) (x8 : Int32) (w : Wd) (H : Heap) (locs : List Loc) (ls : Array Slot), pX11_tree_112 k76 post x1 x2 x4 x5 x6 x7 x8 w → St tabM A s.heap g w H locs → lv_has ls 10 [(0, .ref (g.2.2 300)), (1, .int x1), (2, .int x2), (4, .int x4), (5, .int x5), (6, .int x6), (7, .int x7), (8, .int x8)] → W p l e (rk 4) s m args below meth c H locs 0 0 Q (F0 m 112 ls []) := by
  have hx := hC.1
  have hb := hC.2.1
  intro x1 x2 x4 x5 x6 x7 x8 w H locs ls hp hS hl
  unfold pX11_tree_112 at hp
  refine lv_iload hx hb dX11_tree_112 (lv_at hl 4 rfl) ?_
  refine lv_if_lt (tgt := 124) hx hb dX11_tree_114 (by decide) (fun c_1 => ?_) (fun c_1 => ?_)
  · have hp := hp.1 c_1
    exact bX11_tree_124 hC hR hk76 x1 x2 x4 x7 x8 w _ _ _ hp hS (lv_sub hl [0, 1, 2, 3, 6, 7] rfl)
  · have hp := hp.2 c_1
    refine lv_iload hx hb dX11_tree_117 (lv_at hl 7 rfl) ?_
    refine lv_iload hx hb dX11_tree_119 (lv_at hl 4 rfl) ?_
    refine lv_icmp_ge (tgt := 128) hx hb dX11_tree_121 (by decide) (fun c_2 => ?_) (fun c_2 => ?_)
    · have hp := hp.1 c_2
      refine lv_iload hx hb dX11_tree_128 (lv_at hl 5 rfl) ?_
      refine lv_iconst hx hb dX11_tree_130 kI_1 ?_
      refine lv_iadd hx hb dX11_tree_131 ?_
      exact bX11_tree_132 hC hR hk76 x1 x2 x4 x7 x8 (x6 + (1 : Int32)) w _ _ _ hp hS (lv_sub hl [0, 1, 2, 3, 6, 7] rfl)
    · have hp := hp.2 c_2
      exact bX11_tree_124 hC hR hk76 x1 x2 x4 x7 x8 w _ _ _ hp hS (lv_sub hl [0, 1, 2, 3, 6, 7] rfl)
set_option maxHeartbeats 4000000 in
set_option maxRecDepth 100000 in
theorem bX11_tree_76 {p : Program} {l : Launch} {e : Env} {s : State} {m : MethodId} {args : Array Value} {below : List Frame} {meth : Method} {c : Code} {Q : State → Prop} {A : Nat → Prop} {g : Gw} {post : Int32 → Wd → Prop}  (hC : Cx p s m args c cX11_tree RX11 10 g) (hR : RtI tabM p l e (rk 4) s m args below meth c Q cX11_tree A g post)  : ∀ (n : Nat) (x1 : Int32) (x2 : Int32) (x4 : Int32) (x5 : Int32) (x6 : Int32) (x7 : Int32) (w : Wd) (H : Heap) (locs : List Loc) (ls : Array Slot), pX11_tree_76 post n x1 x2 x4 x5 x6 x7 w → St tabM A s.heap g w H locs → lv_has ls 10 [(0, .ref (g.2.2 300)), (1, .int x1), (2, .int x2), (4, .int x4), (5, .int x5), (6, .int x6), (7, .int x7)] → W p l e (rk 4) s m args below meth c H locs 0 0 Q (F0 m 76 ls []) := by
  have hx := hC.1
  have hb := hC.2.1
  intro n
  induction n with
  | zero =>
    intro x1 x2 x4 x5 x6 x7 w H locs ls hp hS hl
    exact False.elim hp
  | succ n ih =>
    intro x1 x2 x4 x5 x6 x7 w H locs ls hp hS hl
    unfold pX11_tree_76 at hp
    refine lv_iload hx hb dX11_tree_76 (lv_at hl 6 rfl) ?_
    refine lv_iload hx hb dX11_tree_78 (lv_at hl 3 rfl) ?_
    refine lv_icmp_ge (tgt := 182) hx hb dX11_tree_80 (by decide) (fun c_1 => ?_) (fun c_1 => ?_)
    · have hp := hp.1 c_1
      refine lv_aload_n hx hb dX11_tree_182 rfl (lv_at hl 0 rfl) ?_
      refine lv_aload_n hx hb dX11_tree_183 rfl (lv_at hl 0 rfl) ?_
      refine G_300_63 hC hS m1282 dX11_tree_184 ?_
      refine P_300_48 hC hS m312 dX11_tree_187 (fun w_2 H locs ew_2 hS => ?_)
      have hp := hp w_2 ew_2
      refine lv_iload_n hx hb dX11_tree_190 rfl (lv_at hl 2 rfl) ?_
      refine lv_if_ne (tgt := 199) hx hb dX11_tree_191 (by decide) (fun c_3 => ?_) (fun c_3 => ?_)
      · have hp := hp.1 c_3
        refine lv_iload hx hb dX11_tree_199 (lv_at hl 5 rfl) ?_
        exact hR _ _ _ _ _ _ dX11_tree_201 hp hS
      · have hp := hp.2 c_3
        refine lv_iload hx hb dX11_tree_194 (lv_at hl 4 rfl) ?_
        refine lv_goto (tgt := 201) hx hb dX11_tree_196 (by decide) ?_
        exact hR _ _ _ _ _ _ dX11_tree_201 hp hS
    · have hp := hp.2 c_1
      refine lv_aload_n hx hb dX11_tree_83 rfl (lv_at hl 0 rfl) ?_
      refine lv_iload hx hb dX11_tree_84 (lv_at hl 6 rfl) ?_
      refine lv_iload_n hx hb dX11_tree_86 rfl (lv_at hl 1 rfl) ?_
      exact False.elim hp
set_option maxHeartbeats 4000000 in
set_option maxRecDepth 100000 in
theorem bX11_tree_41 {p : Program} {l : Launch} {e : Env} {s : State} {m : MethodId} {args : Array Value} {below : List Frame} {meth : Method} {c : Code} {Q : State → Prop} {A : Nat → Prop} {g : Gw} {post : Int32 → Wd → Prop}  (hC : Cx p s m args c cX11_tree RX11 10 g) (hR : RtI tabM p l e (rk 4) s m args below meth c Q cX11_tree A g post)  : ∀ (n : Nat) (x1 : Int32) (x2 : Int32) (x4 : Int32) (x5 : Int32) (w : Wd) (H : Heap) (locs : List Loc) (ls : Array Slot), pX11_tree_41 post n x1 x2 x4 x5 w → St tabM A s.heap g w H locs → lv_has ls 10 [(0, .ref (g.2.2 300)), (1, .int x1), (2, .int x2), (4, .int x4), (5, .int x5)] → W p l e (rk 4) s m args below meth c H locs 0 0 Q (F0 m 41 ls []) := by
  have hx := hC.1
  have hb := hC.2.1
  intro n
  induction n with
  | zero =>
    intro x1 x2 x4 x5 w H locs ls hp hS hl
    exact False.elim hp
  | succ n ih =>
    intro x1 x2 x4 x5 w H locs ls hp hS hl
    unfold pX11_tree_41 at hp
    refine lv_iload hx hb dX11_tree_41 (lv_at hl 4 rfl) ?_
    refine lv_aload_n hx hb dX11_tree_43 rfl (lv_at hl 0 rfl) ?_
    refine G_300_63 hC hS m1282 dX11_tree_44 ?_
    refine lv_icmp_ge (tgt := 67) hx hb dX11_tree_47 (by decide) (fun c_1 => ?_) (fun c_1 => ?_)
    · have hp := hp.1 c_1
      refine lv_iconst hx hb dX11_tree_67 kI_m1 ?_
      refine lv_istore (lv' := [(5, .int (-1 : Int32)), (0, .ref (g.2.2 300)), (1, .int x1), (2, .int x2), (4, .int x4)]) hx hb dX11_tree_68 hl (by decide) rfl (fun ls hl => ?_)
      refine lv_iconst hx hb dX11_tree_70 kI_0 ?_
      refine lv_istore (lv' := [(6, .int (0 : Int32)), (5, .int (-1 : Int32)), (0, .ref (g.2.2 300)), (1, .int x1), (2, .int x2), (4, .int x4)]) hx hb dX11_tree_71 hl (by decide) rfl (fun ls hl => ?_)
      refine lv_iconst hx hb dX11_tree_73 kI_0 ?_
      refine lv_istore (lv' := [(7, .int (0 : Int32)), (6, .int (0 : Int32)), (5, .int (-1 : Int32)), (0, .ref (g.2.2 300)), (1, .int x1), (2, .int x2), (4, .int x4)]) hx hb dX11_tree_74 hl (by decide) rfl (fun ls hl => ?_)
      obtain ⟨n9, hp⟩ := hp
      exact bX11_tree_76 hC hR n9 x1 x2 x4 (-1 : Int32) (0 : Int32) (0 : Int32) w _ _ _ hp hS (lv_sub hl [3, 4, 5, 6, 2, 1, 0] rfl)
    · have hp := hp.2 c_1
      refine lv_iload hx hb dX11_tree_50 (lv_at hl 3 rfl) ?_
      refine lv_aload_n hx hb dX11_tree_52 rfl (lv_at hl 0 rfl) ?_
      refine G_300_63 hC hS m1282 dX11_tree_53 ?_
      refine lv_iconst hx hb dX11_tree_56 kI_1 ?_
      refine lv_isub hx hb dX11_tree_57 ?_
      refine lv_imul hx hb dX11_tree_58 ?_
      refine lv_topi (fun x4_2 ex4_2 => ?_)
      have hp := hp x4_2 ex4_2
      refine lv_istore (lv' := [(4, .int x4_2), (0, .ref (g.2.2 300)), (1, .int x1), (2, .int x2), (5, .int x5)]) hx hb dX11_tree_59 hl (by decide) rfl (fun ls hl => ?_)
      obtain ⟨x5_3, ex5_3⟩ : ∃ y : Int32, y = x5 + (1 : Int32) := ⟨_, rfl⟩
      have hp := hp x5_3 ex5_3
      refine lv_iinc (v := x5_3) (lv' := [(5, .int x5_3), (4, .int x4_2), (0, .ref (g.2.2 300)), (1, .int x1), (2, .int x2)]) hx hb dX11_tree_61 hl (k := 4) rfl (by rw [ex5_3]; rfl) (by decide) rfl (fun ls hl => ?_)
      refine lv_goto (tgt := 41) hx hb dX11_tree_64 (by decide) ?_
      exact ih x1 x2 x4_2 x5_3 w _ _ _ hp hS (lv_sub hl [2, 3, 4, 1, 0] rfl)
set_option maxHeartbeats 4000000 in
set_option maxRecDepth 100000 in
theorem rX11_tree {l : Launch} {g : Gw} {w : Wd} {post : Int32 → Wd → Prop}   {x1 : Int32} {x2 : Int32} {x3 : Int32} (hp : pX11_tree post x1 x2 x3 w) : MtI tabM l yX11_tree cX11_tree 10 (some .int) 4 g w [.ref (g.2.2 300), .int x1, .int x2, .int x3] post := by
  refine q_entI tabM_nd (by decide) rfl (Nat.le_of_ble_eq_true rfl) ?_
  intro p e s m args below meth c A Q ls hC hR hS hl
  have hx := hC.1
  have hb := hC.2.1
  have hl : lv_has ls 10 [(0, .ref (g.2.2 300)), (1, .int x1), (2, .int x2), (3, .int x3)] := hl
  unfold pX11_tree at hp
  refine lv_aload_n hx hb dX11_tree_0 rfl (lv_at hl 0 rfl) ?_
  refine lv_iconst hx hb dX11_tree_1 kI_0 ?_
  refine P_300_48 hC hS m312 dX11_tree_2 (fun w_1 H locs ew_1 hS => ?_)
  have hp := hp w_1 ew_1
  refine lv_aload_n hx hb dX11_tree_5 rfl (lv_at hl 0 rfl) ?_
  refine lv_iload_n hx hb dX11_tree_6 rfl (lv_at hl 3 rfl) ?_
  refine q_cvV (As := [.int x3]) (rest := []) hC hS hl.1 (rX11_laySamples hp) cwX11_433 yvX11_laySamples (rcv_300 hC hS) rfl rfl (Nat.le_of_ble_eq_true rfl) (rmk (by decide) (by decide)) dX11_tree_7 (fun w_2 H locs hp hS => ?_)
  refine lv_iload_n hx hb dX11_tree_10 rfl (lv_at hl 1 rfl) ?_
  refine lv_iconst hx hb dX11_tree_11 kI_0 ?_
  refine lv_aload_n hx hb dX11_tree_12 rfl (lv_at hl 0 rfl) ?_
  refine G_300_63 hC hS m1282 dX11_tree_13 ?_
  refine lv_iconst hx hb dX11_tree_16 kI_1 ?_
  refine lv_isub hx hb dX11_tree_17 ?_
  refine q_csI (As := [.int x1, .int (0 : Int32), .int ((w_2.1 300 63) - (1 : Int32))]) (rest := []) hC hS hl.1 (rX11_isIn hp) cwX11_345 ysX11_isIn rfl rfl (Nat.le_of_ble_eq_true rfl) (rmk (by decide) (by decide)) dX11_tree_18 (fun r_3 w_4 H locs hp hS => ?_)
  refine lv_if_eq (tgt := 33) hx hb dX11_tree_21 (by decide) (fun c_5 => ?_) (fun c_5 => ?_)
  · have hp := hp.1 c_5
    refine lv_iconst hx hb dX11_tree_33 kI_m1 ?_
    exact hR _ _ _ _ _ _ dX11_tree_34 hp hS
  · have hp := hp.2 c_5
    refine lv_iload_n hx hb dX11_tree_24 rfl (lv_at hl 2 rfl) ?_
    refine lv_iconst hx hb dX11_tree_25 kI_0 ?_
    refine lv_iconst hx hb dX11_tree_26 kI_1 ?_
    refine q_csI (As := [.int x2, .int (0 : Int32), .int (1 : Int32)]) (rest := []) hC hS hl.1 (rX11_isIn hp) cwX11_345 ysX11_isIn rfl rfl (Nat.le_of_ble_eq_true rfl) (rmk (by decide) (by decide)) dX11_tree_27 (fun r_6 w_7 H locs hp hS => ?_)
    refine lv_if_ne (tgt := 35) hx hb dX11_tree_30 (by decide) (fun c_8 => ?_) (fun c_8 => ?_)
    · have hp := hp.1 c_8
      refine lv_iconst hx hb dX11_tree_35 kI_1 ?_
      refine lv_istore (lv' := [(4, .int (1 : Int32)), (0, .ref (g.2.2 300)), (1, .int x1), (2, .int x2), (3, .int x3)]) hx hb dX11_tree_36 hl (by decide) rfl (fun ls hl => ?_)
      refine lv_iconst hx hb dX11_tree_38 kI_1 ?_
      refine lv_istore (lv' := [(5, .int (1 : Int32)), (4, .int (1 : Int32)), (0, .ref (g.2.2 300)), (1, .int x1), (2, .int x2), (3, .int x3)]) hx hb dX11_tree_39 hl (by decide) rfl (fun ls hl => ?_)
      obtain ⟨n9, hp⟩ := hp
      exact bX11_tree_41 hC hR n9 x1 x2 (1 : Int32) (1 : Int32) w_7 _ _ _ hp hS (lv_sub hl [2, 3, 4, 1, 0] rfl)
    · have hp := hp.2 c_8
      refine lv_iconst hx hb dX11_tree_33 kI_m1 ?_
      exact hR _ _ _ _ _ _ dX11_tree_34 hp hS
def pX11_centre_107 (k31 : Int32 → Int32 → Int32 → Int32 → Wd → Prop) (post : Int32 → Wd → Prop) (x1 : Int32) (x3 : Int32) (x4 : Int32) (x5 : Int32) (w : Wd) : Prop := ∀ x5_1, x5_1 = x5 + (1 : Int32) → k31 x1 x3 x4 x5_1 w
def pX11_centre_100 (k31 : Int32 → Int32 → Int32 → Int32 → Wd → Prop) (post : Int32 → Wd → Prop) (x1 : Int32) (x5 : Int32) (x6 : Int32) (w : Wd) : Prop := pX11_centre_107 k31 post x1 x5 x6 x5 w
def pX11_centre_80 (k46 : Int32 → Int32 → Int32 → Int32 → Int32 → Int32 → Wd → Prop) (post : Int32 → Wd → Prop) (x1 : Int32) (x3 : Int32) (x4 : Int32) (x5 : Int32) (x6 : Int32) (x7 : Int32) (w : Wd) : Prop := ∀ x7_1, x7_1 = x7 + (1 : Int32) → k46 x1 x3 x4 x5 x6 x7_1 w
def pX11_centre_46 (k31 : Int32 → Int32 → Int32 → Int32 → Wd → Prop) (post : Int32 → Wd → Prop) : Nat → Int32 → Int32 → Int32 → Int32 → Int32 → Int32 → Wd → Prop
  | 0, _, _, _, _, _, _, _ => False
  | n + 1, x1, x3, x4, x5, x6, x7, w => ((w.1 300 63) ≤ x7 → ((x3 < 0 → (pX11_centre_100 k31 post x1 x5 x6 w)) ∧ (¬ x3 < 0 → ((x6 < x4 → (pX11_centre_100 k31 post x1 x5 x6 w)) ∧ (¬ x6 < x4 → (pX11_centre_107 k31 post x1 x3 x4 x5 w)))))) ∧ (¬ (w.1 300 63) ≤ x7 → ((x7 = x5 → (pX11_centre_80 (pX11_centre_46 k31 post n) post x1 x3 x4 x5 x6 x7 w)) ∧ (¬ x7 = x5 → (vp_in (((7 : Int32) * x5) + x7) 49 ∧ ∀ x6_5, x6_5 = (x6 + (w.2.1 363 (((7 : Int32) * x5) + x7).toNatClampNeg)) → pX11_centre_80 (pX11_centre_46 k31 post n) post x1 x3 x4 x5 x6_5 x7 w))))
def pX11_centre_31 (post : Int32 → Wd → Prop) : Nat → Int32 → Int32 → Int32 → Int32 → Wd → Prop
  | 0, _, _, _, _, _ => False
  | n + 1, x1, x3, x4, x5, w => ((w.1 300 63) ≤ x5 → ((¬ x1 = 0 → (post x4 w)) ∧ (x1 = 0 → (post x3 w)))) ∧ (¬ (w.1 300 63) ≤ x5 → (∃ n9, pX11_centre_46 (pX11_centre_31 post n) post n9 x1 x3 x4 x5 (0 : Int32) (0 : Int32) w))
def pX11_centre (post : Int32 → Wd → Prop) (x1 : Int32) (x2 : Int32) (w : Wd) : Prop := pX11_laySamples (fun w_1 => ((w_1.1 300 63) = 0 → (post (-1 : Int32) w_1)) ∧ (¬ (w_1.1 300 63) = 0 → (pX11_isIn (fun r_3 w_4 => (¬ r_3 = 0 → (∃ n9, pX11_centre_31 post n9 x1 (-1 : Int32) (0 : Int32) (0 : Int32) w_4)) ∧ (r_3 = 0 → (post (-1 : Int32) w_4))) x1 (0 : Int32) (1 : Int32) w_1))) x2 w
set_option maxHeartbeats 4000000 in
set_option maxRecDepth 100000 in
theorem bX11_centre_107 {p : Program} {l : Launch} {e : Env} {s : State} {m : MethodId} {args : Array Value} {below : List Frame} {meth : Method} {c : Code} {Q : State → Prop} {A : Nat → Prop} {g : Gw} {post : Int32 → Wd → Prop}  (hC : Cx p s m args c cX11_centre RX11 8 g) (hR : RtI tabM p l e (rk 4) s m args below meth c Q cX11_centre A g post)  {k31 : Int32 → Int32 → Int32 → Int32 → Wd → Prop} (hk31 : ∀ (x1 : Int32) (x3 : Int32) (x4 : Int32) (x5 : Int32) (w : Wd) (H : Heap) (locs : List Loc) (ls : Array Slot), k31 x1 x3 x4 x5 w → St tabM A s.heap g w H locs → lv_has ls 8 [(0, .ref (g.2.2 300)), (1, .int x1), (3, .int x3), (4, .int x4), (5, .int x5)] → W p l e (rk 4) s m args below meth c H locs 0 0 Q (F0 m 31 ls [])) : ∀ (x1 : Int32) (x3 : Int32) (x4 : Int32) (x5 : Int32) (w : Wd) (H : Heap) (locs : List Loc) (ls : Array Slot), pX11_centre_107 k31 post x1 x3 x4 x5 w → St tabM A s.heap g w H locs → lv_has ls 8 [(0, .ref (g.2.2 300)), (1, .int x1), (3, .int x3), (4, .int x4), (5, .int x5)] → W p l e (rk 4) s m args below meth c H locs 0 0 Q (F0 m 107 ls []) := by
  have hx := hC.1
  have hb := hC.2.1
  intro x1 x3 x4 x5 w H locs ls hp hS hl
  unfold pX11_centre_107 at hp
  obtain ⟨x5_1, ex5_1⟩ : ∃ y : Int32, y = x5 + (1 : Int32) := ⟨_, rfl⟩
  have hp := hp x5_1 ex5_1
  refine lv_iinc (v := x5_1) (lv' := [(5, .int x5_1), (0, .ref (g.2.2 300)), (1, .int x1), (3, .int x3), (4, .int x4)]) hx hb dX11_centre_107 hl (k := 4) rfl (by rw [ex5_1]; rfl) (by decide) rfl (fun ls hl => ?_)
  refine lv_goto (tgt := 31) hx hb dX11_centre_110 (by decide) ?_
  exact hk31 x1 x3 x4 x5_1 w _ _ _ hp hS (lv_sub hl [1, 2, 3, 4, 0] rfl)
set_option maxHeartbeats 4000000 in
set_option maxRecDepth 100000 in
theorem bX11_centre_100 {p : Program} {l : Launch} {e : Env} {s : State} {m : MethodId} {args : Array Value} {below : List Frame} {meth : Method} {c : Code} {Q : State → Prop} {A : Nat → Prop} {g : Gw} {post : Int32 → Wd → Prop}  (hC : Cx p s m args c cX11_centre RX11 8 g) (hR : RtI tabM p l e (rk 4) s m args below meth c Q cX11_centre A g post)  {k31 : Int32 → Int32 → Int32 → Int32 → Wd → Prop} (hk31 : ∀ (x1 : Int32) (x3 : Int32) (x4 : Int32) (x5 : Int32) (w : Wd) (H : Heap) (locs : List Loc) (ls : Array Slot), k31 x1 x3 x4 x5 w → St tabM A s.heap g w H locs → lv_has ls 8 [(0, .ref (g.2.2 300)), (1, .int x1), (3, .int x3), (4, .int x4), (5, .int x5)] → W p l e (rk 4) s m args below meth c H locs 0 0 Q (F0 m 31 ls [])) : ∀ (x1 : Int32) (x5 : Int32) (x6 : Int32) (w : Wd) (H : Heap) (locs : List Loc) (ls : Array Slot), pX11_centre_100 k31 post x1 x5 x6 w → St tabM A s.heap g w H locs → lv_has ls 8 [(0, .ref (g.2.2 300)), (1, .int x1), (5, .int x5), (6, .int x6)] → W p l e (rk 4) s m args below meth c H locs 0 0 Q (F0 m 100 ls []) := by
  have hx := hC.1
  have hb := hC.2.1
  intro x1 x5 x6 w H locs ls hp hS hl
  unfold pX11_centre_100 at hp
  refine lv_iload hx hb dX11_centre_100 (lv_at hl 2 rfl) ?_
  refine lv_istore_n (lv' := [(3, .int x5), (0, .ref (g.2.2 300)), (1, .int x1), (5, .int x5), (6, .int x6)]) hx hb dX11_centre_102 rfl hl (by decide) rfl (fun ls hl => ?_)
  refine lv_iload hx hb dX11_centre_103 (lv_at hl 4 rfl) ?_
  refine lv_istore (lv' := [(4, .int x6), (3, .int x5), (0, .ref (g.2.2 300)), (1, .int x1), (5, .int x5), (6, .int x6)]) hx hb dX11_centre_105 hl (by decide) rfl (fun ls hl => ?_)
  exact bX11_centre_107 hC hR hk31 x1 x5 x6 x5 w _ _ _ hp hS (lv_sub hl [2, 3, 1, 0, 4] rfl)
set_option maxHeartbeats 4000000 in
set_option maxRecDepth 100000 in
theorem bX11_centre_80 {p : Program} {l : Launch} {e : Env} {s : State} {m : MethodId} {args : Array Value} {below : List Frame} {meth : Method} {c : Code} {Q : State → Prop} {A : Nat → Prop} {g : Gw} {post : Int32 → Wd → Prop}  (hC : Cx p s m args c cX11_centre RX11 8 g) (hR : RtI tabM p l e (rk 4) s m args below meth c Q cX11_centre A g post)  {k46 : Int32 → Int32 → Int32 → Int32 → Int32 → Int32 → Wd → Prop} (hk46 : ∀ (x1 : Int32) (x3 : Int32) (x4 : Int32) (x5 : Int32) (x6 : Int32) (x7 : Int32) (w : Wd) (H : Heap) (locs : List Loc) (ls : Array Slot), k46 x1 x3 x4 x5 x6 x7 w → St tabM A s.heap g w H locs → lv_has ls 8 [(0, .ref (g.2.2 300)), (1, .int x1), (3, .int x3), (4, .int x4), (5, .int x5), (6, .int x6), (7, .int x7)] → W p l e (rk 4) s m args below meth c H locs 0 0 Q (F0 m 46 ls [])) : ∀ (x1 : Int32) (x3 : Int32) (x4 : Int32) (x5 : Int32) (x6 : Int32) (x7 : Int32) (w : Wd) (H : Heap) (locs : List Loc) (ls : Array Slot), pX11_centre_80 k46 post x1 x3 x4 x5 x6 x7 w → St tabM A s.heap g w H locs → lv_has ls 8 [(0, .ref (g.2.2 300)), (1, .int x1), (3, .int x3), (4, .int x4), (5, .int x5), (6, .int x6), (7, .int x7)] → W p l e (rk 4) s m args below meth c H locs 0 0 Q (F0 m 80 ls []) := by
  have hx := hC.1
  have hb := hC.2.1
  intro x1 x3 x4 x5 x6 x7 w H locs ls hp hS hl
  unfold pX11_centre_80 at hp
  obtain ⟨x7_1, ex7_1⟩ : ∃ y : Int32, y = x7 + (1 : Int32) := ⟨_, rfl⟩
  have hp := hp x7_1 ex7_1
  refine lv_iinc (v := x7_1) (lv' := [(7, .int x7_1), (0, .ref (g.2.2 300)), (1, .int x1), (3, .int x3), (4, .int x4), (5, .int x5), (6, .int x6)]) hx hb dX11_centre_80 hl (k := 6) rfl (by rw [ex7_1]; rfl) (by decide) rfl (fun ls hl => ?_)
  refine lv_goto (tgt := 46) hx hb dX11_centre_83 (by decide) ?_
  exact hk46 x1 x3 x4 x5 x6 x7_1 w _ _ _ hp hS (lv_sub hl [1, 2, 3, 4, 5, 6, 0] rfl)
set_option maxHeartbeats 4000000 in
set_option maxRecDepth 100000 in
theorem bX11_centre_46 {p : Program} {l : Launch} {e : Env} {s : State} {m : MethodId} {args : Array Value} {below : List Frame} {meth : Method} {c : Code} {Q : State → Prop} {A : Nat → Prop} {g : Gw} {post : Int32 → Wd → Prop}  (hC : Cx p s m args c cX11_centre RX11 8 g) (hR : RtI tabM p l e (rk 4) s m args below meth c Q cX11_centre A g post)  {k31 : Int32 → Int32 → Int32 → Int32 → Wd → Prop} (hk31 : ∀ (x1 : Int32) (x3 : Int32) (x4 : Int32) (x5 : Int32) (w : Wd) (H : Heap) (locs : List Loc) (ls : Array Slot), k31 x1 x3 x4 x5 w → St tabM A s.heap g w H locs → lv_has ls 8 [(0, .ref (g.2.2 300)), (1, .int x1), (3, .int x3), (4, .int x4), (5, .int x5)] → W p l e (rk 4) s m args below meth c H locs 0 0 Q (F0 m 31 ls [])) : ∀ (n : Nat) (x1 : Int32) (x3 : Int32) (x4 : Int32) (x5 : Int32) (x6 : Int32) (x7 : Int32) (w : Wd) (H : Heap) (locs : List Loc) (ls : Array Slot), pX11_centre_46 k31 post n x1 x3 x4 x5 x6 x7 w → St tabM A s.heap g w H locs → lv_has ls 8 [(0, .ref (g.2.2 300)), (1, .int x1), (3, .int x3), (4, .int x4), (5, .int x5), (6, .int x6), (7, .int x7)] → W p l e (rk 4) s m args below meth c H locs 0 0 Q (F0 m 46 ls []) := by
  have hx := hC.1
  have hb := hC.2.1
  intro n
  induction n with
  | zero =>
    intro x1 x3 x4 x5 x6 x7 w H locs ls hp hS hl
    exact False.elim hp
  | succ n ih =>
    intro x1 x3 x4 x5 x6 x7 w H locs ls hp hS hl
    unfold pX11_centre_46 at hp
    refine lv_iload hx hb dX11_centre_46 (lv_at hl 6 rfl) ?_
    refine lv_aload_n hx hb dX11_centre_48 rfl (lv_at hl 0 rfl) ?_
    refine G_300_63 hC hS m1282 dX11_centre_49 ?_
    refine lv_icmp_ge (tgt := 86) hx hb dX11_centre_52 (by decide) (fun c_1 => ?_) (fun c_1 => ?_)
    · have hp := hp.1 c_1
      refine lv_iload_n hx hb dX11_centre_86 rfl (lv_at hl 2 rfl) ?_
      refine lv_if_lt (tgt := 100) hx hb dX11_centre_87 (by decide) (fun c_2 => ?_) (fun c_2 => ?_)
      · have hp := hp.1 c_2
        exact bX11_centre_100 hC hR hk31 x1 x5 x6 w _ _ _ hp hS (lv_sub hl [0, 1, 4, 5] rfl)
      · have hp := hp.2 c_2
        refine lv_iload hx hb dX11_centre_90 (lv_at hl 5 rfl) ?_
        refine lv_iload hx hb dX11_centre_92 (lv_at hl 3 rfl) ?_
        refine lv_icmp_lt (tgt := 100) hx hb dX11_centre_94 (by decide) (fun c_3 => ?_) (fun c_3 => ?_)
        · have hp := hp.1 c_3
          exact bX11_centre_100 hC hR hk31 x1 x5 x6 w _ _ _ hp hS (lv_sub hl [0, 1, 4, 5] rfl)
        · have hp := hp.2 c_3
          refine lv_goto (tgt := 107) hx hb dX11_centre_97 (by decide) ?_
          exact bX11_centre_107 hC hR hk31 x1 x3 x4 x5 w _ _ _ hp hS (lv_sub hl [0, 1, 2, 3, 4] rfl)
    · have hp := hp.2 c_1
      refine lv_iload hx hb dX11_centre_55 (lv_at hl 6 rfl) ?_
      refine lv_iload hx hb dX11_centre_57 (lv_at hl 4 rfl) ?_
      refine lv_icmp_eq (tgt := 80) hx hb dX11_centre_59 (by decide) (fun c_4 => ?_) (fun c_4 => ?_)
      · have hp := hp.1 c_4
        exact bX11_centre_80 hC hR ih x1 x3 x4 x5 x6 x7 w _ _ _ hp hS (lv_sub hl [0, 1, 2, 3, 4, 5, 6] rfl)
      · have hp := hp.2 c_4
        refine lv_iload hx hb dX11_centre_62 (lv_at hl 5 rfl) ?_
        refine lv_aload_n hx hb dX11_centre_64 rfl (lv_at hl 0 rfl) ?_
        refine G_300_62 hC hS m292 dX11_centre_65 ?_
        refine lv_bipush hx hb dX11_centre_68 kB_7 ?_
        refine lv_iload hx hb dX11_centre_70 (lv_at hl 4 rfl) ?_
        refine lv_imul hx hb dX11_centre_72 ?_
        refine lv_iload hx hb dX11_centre_73 (lv_at hl 6 rfl) ?_
        refine lv_iadd hx hb dX11_centre_75 ?_
        refine La_363 hC hS hp.1 dX11_centre_76 ?_
        have hp := hp.2
        refine lv_iadd hx hb dX11_centre_77 ?_
        refine lv_topi (fun x6_5 ex6_5 => ?_)
        have hp := hp x6_5 ex6_5
        refine lv_istore (lv' := [(6, .int x6_5), (0, .ref (g.2.2 300)), (1, .int x1), (3, .int x3), (4, .int x4), (5, .int x5), (7, .int x7)]) hx hb dX11_centre_78 hl (by decide) rfl (fun ls hl => ?_)
        exact bX11_centre_80 hC hR ih x1 x3 x4 x5 x6_5 x7 w _ _ _ hp hS (lv_sub hl [1, 2, 3, 4, 5, 0, 6] rfl)
set_option maxHeartbeats 4000000 in
set_option maxRecDepth 100000 in
theorem bX11_centre_31 {p : Program} {l : Launch} {e : Env} {s : State} {m : MethodId} {args : Array Value} {below : List Frame} {meth : Method} {c : Code} {Q : State → Prop} {A : Nat → Prop} {g : Gw} {post : Int32 → Wd → Prop}  (hC : Cx p s m args c cX11_centre RX11 8 g) (hR : RtI tabM p l e (rk 4) s m args below meth c Q cX11_centre A g post)  : ∀ (n : Nat) (x1 : Int32) (x3 : Int32) (x4 : Int32) (x5 : Int32) (w : Wd) (H : Heap) (locs : List Loc) (ls : Array Slot), pX11_centre_31 post n x1 x3 x4 x5 w → St tabM A s.heap g w H locs → lv_has ls 8 [(0, .ref (g.2.2 300)), (1, .int x1), (3, .int x3), (4, .int x4), (5, .int x5)] → W p l e (rk 4) s m args below meth c H locs 0 0 Q (F0 m 31 ls []) := by
  have hx := hC.1
  have hb := hC.2.1
  intro n
  induction n with
  | zero =>
    intro x1 x3 x4 x5 w H locs ls hp hS hl
    exact False.elim hp
  | succ n ih =>
    intro x1 x3 x4 x5 w H locs ls hp hS hl
    unfold pX11_centre_31 at hp
    refine lv_iload hx hb dX11_centre_31 (lv_at hl 4 rfl) ?_
    refine lv_aload_n hx hb dX11_centre_33 rfl (lv_at hl 0 rfl) ?_
    refine G_300_63 hC hS m1282 dX11_centre_34 ?_
    refine lv_icmp_ge (tgt := 113) hx hb dX11_centre_37 (by decide) (fun c_1 => ?_) (fun c_1 => ?_)
    · have hp := hp.1 c_1
      refine lv_iload_n hx hb dX11_centre_113 rfl (lv_at hl 1 rfl) ?_
      refine lv_if_ne (tgt := 121) hx hb dX11_centre_114 (by decide) (fun c_2 => ?_) (fun c_2 => ?_)
      · have hp := hp.1 c_2
        refine lv_iload hx hb dX11_centre_121 (lv_at hl 3 rfl) ?_
        exact hR _ _ _ _ _ _ dX11_centre_123 hp hS
      · have hp := hp.2 c_2
        refine lv_iload_n hx hb dX11_centre_117 rfl (lv_at hl 2 rfl) ?_
        refine lv_goto (tgt := 123) hx hb dX11_centre_118 (by decide) ?_
        exact hR _ _ _ _ _ _ dX11_centre_123 hp hS
    · have hp := hp.2 c_1
      refine lv_iconst hx hb dX11_centre_40 kI_0 ?_
      refine lv_istore (lv' := [(6, .int (0 : Int32)), (0, .ref (g.2.2 300)), (1, .int x1), (3, .int x3), (4, .int x4), (5, .int x5)]) hx hb dX11_centre_41 hl (by decide) rfl (fun ls hl => ?_)
      refine lv_iconst hx hb dX11_centre_43 kI_0 ?_
      refine lv_istore (lv' := [(7, .int (0 : Int32)), (6, .int (0 : Int32)), (0, .ref (g.2.2 300)), (1, .int x1), (3, .int x3), (4, .int x4), (5, .int x5)]) hx hb dX11_centre_44 hl (by decide) rfl (fun ls hl => ?_)
      obtain ⟨n9, hp⟩ := hp
      exact bX11_centre_46 hC hR ih n9 x1 x3 x4 x5 (0 : Int32) (0 : Int32) w _ _ _ hp hS (lv_sub hl [2, 3, 4, 5, 6, 1, 0] rfl)
set_option maxHeartbeats 4000000 in
set_option maxRecDepth 100000 in
theorem rX11_centre {l : Launch} {g : Gw} {w : Wd} {post : Int32 → Wd → Prop}   {x1 : Int32} {x2 : Int32} (hp : pX11_centre post x1 x2 w) : MtI tabM l yX11_centre cX11_centre 8 (some .int) 4 g w [.ref (g.2.2 300), .int x1, .int x2] post := by
  refine q_entI tabM_nd (by decide) rfl (Nat.le_of_ble_eq_true rfl) ?_
  intro p e s m args below meth c A Q ls hC hR hS hl
  have hx := hC.1
  have hb := hC.2.1
  have hl : lv_has ls 8 [(0, .ref (g.2.2 300)), (1, .int x1), (2, .int x2)] := hl
  unfold pX11_centre at hp
  refine lv_aload_n hx hb dX11_centre_0 rfl (lv_at hl 0 rfl) ?_
  refine lv_iload_n hx hb dX11_centre_1 rfl (lv_at hl 2 rfl) ?_
  refine q_cvV (As := [.int x2]) (rest := []) hC hS hl.1 (rX11_laySamples hp) cwX11_433 yvX11_laySamples (rcv_300 hC hS) rfl rfl (Nat.le_of_ble_eq_true rfl) (rmk (by decide) (by decide)) dX11_centre_2 (fun w_1 H locs hp hS => ?_)
  refine lv_aload_n hx hb dX11_centre_5 rfl (lv_at hl 0 rfl) ?_
  refine G_300_63 hC hS m1282 dX11_centre_6 ?_
  refine lv_if_eq (tgt := 21) hx hb dX11_centre_9 (by decide) (fun c_2 => ?_) (fun c_2 => ?_)
  · have hp := hp.1 c_2
    refine lv_iconst hx hb dX11_centre_21 kI_m1 ?_
    exact hR _ _ _ _ _ _ dX11_centre_22 hp hS
  · have hp := hp.2 c_2
    refine lv_iload_n hx hb dX11_centre_12 rfl (lv_at hl 1 rfl) ?_
    refine lv_iconst hx hb dX11_centre_13 kI_0 ?_
    refine lv_iconst hx hb dX11_centre_14 kI_1 ?_
    refine q_csI (As := [.int x1, .int (0 : Int32), .int (1 : Int32)]) (rest := []) hC hS hl.1 (rX11_isIn hp) cwX11_345 ysX11_isIn rfl rfl (Nat.le_of_ble_eq_true rfl) (rmk (by decide) (by decide)) dX11_centre_15 (fun r_3 w_4 H locs hp hS => ?_)
    refine lv_if_ne (tgt := 23) hx hb dX11_centre_18 (by decide) (fun c_5 => ?_) (fun c_5 => ?_)
    · have hp := hp.1 c_5
      refine lv_iconst hx hb dX11_centre_23 kI_m1 ?_
      refine lv_istore_n (lv' := [(3, .int (-1 : Int32)), (0, .ref (g.2.2 300)), (1, .int x1), (2, .int x2)]) hx hb dX11_centre_24 rfl hl (by decide) rfl (fun ls hl => ?_)
      refine lv_iconst hx hb dX11_centre_25 kI_0 ?_
      refine lv_istore (lv' := [(4, .int (0 : Int32)), (3, .int (-1 : Int32)), (0, .ref (g.2.2 300)), (1, .int x1), (2, .int x2)]) hx hb dX11_centre_26 hl (by decide) rfl (fun ls hl => ?_)
      refine lv_iconst hx hb dX11_centre_28 kI_0 ?_
      refine lv_istore (lv' := [(5, .int (0 : Int32)), (4, .int (0 : Int32)), (3, .int (-1 : Int32)), (0, .ref (g.2.2 300)), (1, .int x1), (2, .int x2)]) hx hb dX11_centre_29 hl (by decide) rfl (fun ls hl => ?_)
      obtain ⟨n9, hp⟩ := hp
      exact bX11_centre_31 hC hR n9 x1 (-1 : Int32) (0 : Int32) (0 : Int32) w_4 _ _ _ hp hS (lv_sub hl [3, 4, 2, 1, 0] rfl)
    · have hp := hp.2 c_5
      refine lv_iconst hx hb dX11_centre_21 kI_m1 ?_
      exact hR _ _ _ _ _ _ dX11_centre_22 hp hS
def pX11_layClans_176 (k35 : Int32 → Int32 → Int32 → Wd → Prop) (post : Wd → Prop) (x1 : Int32) (x2 : Int32) (x3 : Int32) (w : Wd) : Prop := ∀ x3_1, x3_1 = x3 + (1 : Int32) → k35 x1 x2 x3_1 w
def pX11_layClans_170 (k140 : Int32 → Int32 → Int32 → Int32 → Int32 → Int32 → Wd → Prop) (post : Wd → Prop) (x1 : Int32) (x2 : Int32) (x3 : Int32) (x4 : Int32) (x5 : Int32) (x6 : Int32) (w : Wd) : Prop := ∀ x6_1, x6_1 = x6 + (1 : Int32) → k140 x1 x2 x3 x4 x5 x6_1 w
def pX11_layClans_140 (k35 : Int32 → Int32 → Int32 → Wd → Prop) (post : Wd → Prop) : Nat → Int32 → Int32 → Int32 → Int32 → Int32 → Int32 → Wd → Prop
  | 0, _, _, _, _, _, _, _ => False
  | n + 1, x1, x2, x3, x4, x5, x6, w => ((w.1 300 63) ≤ x6 → (pX11_layClans_176 k35 post x1 x2 x3 w)) ∧ (¬ (w.1 300 63) ≤ x6 → (vp_in x6 7 ∧ (¬ (w.2.1 365 x6.toNatClampNeg) = x5 → (pX11_layClans_170 (pX11_layClans_140 k35 post n) post x1 x2 x3 x4 x5 x6 w)) ∧ ((w.2.1 365 x6.toNatClampNeg) = x5 → (vp_in x6 7 ∧ ∀ w_3, w_3 = sA w 365 x6.toNatClampNeg x4 → pX11_layClans_170 (pX11_layClans_140 k35 post n) post x1 x2 x3 x4 x5 x6 w_3))))
def pX11_layClans_135 (k35 : Int32 → Int32 → Int32 → Wd → Prop) (post : Wd → Prop) (x1 : Int32) (x2 : Int32) (x3 : Int32) (x4 : Int32) (t0 : Int32) (w : Wd) : Prop := ∃ n9, pX11_layClans_140 k35 post n9 x1 x2 x3 x4 t0 (0 : Int32) w
def pX11_layClans_103 (k35 : Int32 → Int32 → Int32 → Wd → Prop) (post : Wd → Prop) (x1 : Int32) (x2 : Int32) (x3 : Int32) (t0 : Int32) (w : Wd) : Prop := vp_in x2 7 ∧ vp_in x3 7 ∧ ((w.2.1 365 x3.toNatClampNeg) ≤ (w.2.1 365 x2.toNatClampNeg) → (vp_in x2 7 ∧ pX11_layClans_135 k35 post x1 x2 x3 t0 (w.2.1 365 x2.toNatClampNeg) w)) ∧ (¬ (w.2.1 365 x3.toNatClampNeg) ≤ (w.2.1 365 x2.toNatClampNeg) → (vp_in x3 7 ∧ pX11_layClans_135 k35 post x1 x2 x3 t0 (w.2.1 365 x3.toNatClampNeg) w))
def pX11_layClans_73 (k35 : Int32 → Int32 → Int32 → Wd → Prop) (post : Wd → Prop) (x1 : Int32) (x2 : Int32) (x3 : Int32) (w : Wd) : Prop := vp_in x2 7 ∧ vp_in x3 7 ∧ ((w.2.1 365 x3.toNatClampNeg) ≤ (w.2.1 365 x2.toNatClampNeg) → (vp_in x3 7 ∧ pX11_layClans_103 k35 post x1 x2 x3 (w.2.1 365 x3.toNatClampNeg) w)) ∧ (¬ (w.2.1 365 x3.toNatClampNeg) ≤ (w.2.1 365 x2.toNatClampNeg) → (vp_in x2 7 ∧ pX11_layClans_103 k35 post x1 x2 x3 (w.2.1 365 x2.toNatClampNeg) w))
def pX11_layClans_35 (k25 : Int32 → Int32 → Wd → Prop) (post : Wd → Prop) : Nat → Int32 → Int32 → Int32 → Wd → Prop
  | 0, _, _, _, _ => False
  | n + 1, x1, x2, x3, w => (x2 ≤ x3 → (∀ x2_2, x2_2 = x2 + (1 : Int32) → k25 x1 x2_2 w)) ∧ (¬ x2 ≤ x3 → (vp_in (((7 : Int32) * x2) + x3) 49 ∧ ((w.2.1 363 (((7 : Int32) * x2) + x3).toNatClampNeg) ≤ x1 → (pX11_layClans_73 (pX11_layClans_35 k25 post n) post x1 x2 x3 w)) ∧ (¬ (w.2.1 363 (((7 : Int32) * x2) + x3).toNatClampNeg) ≤ x1 → (vp_in (((7 : Int32) * x3) + x2) 49 ∧ ((w.2.1 363 (((7 : Int32) * x3) + x2).toNatClampNeg) ≤ x1 → (pX11_layClans_73 (pX11_layClans_35 k25 post n) post x1 x2 x3 w)) ∧ (¬ (w.2.1 363 (((7 : Int32) * x3) + x2).toNatClampNeg) ≤ x1 → (pX11_layClans_176 (pX11_layClans_35 k25 post n) post x1 x2 x3 w))))))
def pX11_layClans_25 (post : Wd → Prop) : Nat → Int32 → Int32 → Wd → Prop
  | 0, _, _, _ => False
  | n + 1, x1, x2, w => ((w.1 300 63) ≤ x2 → (post w)) ∧ (¬ (w.1 300 63) ≤ x2 → (∃ n9, pX11_layClans_35 (pX11_layClans_25 post n) post n9 x1 x2 (0 : Int32) w))
def pX11_layClans_2 (post : Wd → Prop) : Nat → Int32 → Int32 → Wd → Prop
  | 0, _, _, _ => False
  | n + 1, x1, x2, w => ((w.1 300 63) ≤ x2 → (∃ n9, pX11_layClans_25 post n9 x1 (0 : Int32) w)) ∧ (¬ (w.1 300 63) ≤ x2 → (vp_in x2 7 ∧ ∀ w_2, w_2 = sA w 365 x2.toNatClampNeg x2 → ∀ x2_3, x2_3 = x2 + (1 : Int32) → pX11_layClans_2 post n x1 x2_3 w_2))
def pX11_layClans (post : Wd → Prop) (x1 : Int32) (w : Wd) : Prop := ∃ n9, pX11_layClans_2 post n9 x1 (0 : Int32) w
set_option maxHeartbeats 4000000 in
set_option maxRecDepth 100000 in
theorem bX11_layClans_176 {p : Program} {l : Launch} {e : Env} {s : State} {m : MethodId} {args : Array Value} {below : List Frame} {meth : Method} {c : Code} {Q : State → Prop} {A : Nat → Prop} {g : Gw} {post : Wd → Prop}  (hC : Cx p s m args c cX11_layClans RX11 7 g) (hR : RtV tabM p l e (rk 1) s m args below meth c Q cX11_layClans A g post)  {k35 : Int32 → Int32 → Int32 → Wd → Prop} (hk35 : ∀ (x1 : Int32) (x2 : Int32) (x3 : Int32) (w : Wd) (H : Heap) (locs : List Loc) (ls : Array Slot), k35 x1 x2 x3 w → St tabM A s.heap g w H locs → lv_has ls 7 [(0, .ref (g.2.2 300)), (1, .int x1), (2, .int x2), (3, .int x3)] → W p l e (rk 1) s m args below meth c H locs 0 0 Q (F0 m 35 ls [])) : ∀ (x1 : Int32) (x2 : Int32) (x3 : Int32) (w : Wd) (H : Heap) (locs : List Loc) (ls : Array Slot), pX11_layClans_176 k35 post x1 x2 x3 w → St tabM A s.heap g w H locs → lv_has ls 7 [(0, .ref (g.2.2 300)), (1, .int x1), (2, .int x2), (3, .int x3)] → W p l e (rk 1) s m args below meth c H locs 0 0 Q (F0 m 176 ls []) := by
  have hx := hC.1
  have hb := hC.2.1
  intro x1 x2 x3 w H locs ls hp hS hl
  unfold pX11_layClans_176 at hp
  obtain ⟨x3_1, ex3_1⟩ : ∃ y : Int32, y = x3 + (1 : Int32) := ⟨_, rfl⟩
  have hp := hp x3_1 ex3_1
  refine lv_iinc (v := x3_1) (lv' := [(3, .int x3_1), (0, .ref (g.2.2 300)), (1, .int x1), (2, .int x2)]) hx hb dX11_layClans_176 hl (k := 3) rfl (by rw [ex3_1]; rfl) (by decide) rfl (fun ls hl => ?_)
  refine lv_goto (tgt := 35) hx hb dX11_layClans_179 (by decide) ?_
  exact hk35 x1 x2 x3_1 w _ _ _ hp hS (lv_sub hl [1, 2, 3, 0] rfl)
set_option maxHeartbeats 4000000 in
set_option maxRecDepth 100000 in
theorem bX11_layClans_170 {p : Program} {l : Launch} {e : Env} {s : State} {m : MethodId} {args : Array Value} {below : List Frame} {meth : Method} {c : Code} {Q : State → Prop} {A : Nat → Prop} {g : Gw} {post : Wd → Prop}  (hC : Cx p s m args c cX11_layClans RX11 7 g) (hR : RtV tabM p l e (rk 1) s m args below meth c Q cX11_layClans A g post)  {k140 : Int32 → Int32 → Int32 → Int32 → Int32 → Int32 → Wd → Prop} (hk140 : ∀ (x1 : Int32) (x2 : Int32) (x3 : Int32) (x4 : Int32) (x5 : Int32) (x6 : Int32) (w : Wd) (H : Heap) (locs : List Loc) (ls : Array Slot), k140 x1 x2 x3 x4 x5 x6 w → St tabM A s.heap g w H locs → lv_has ls 7 [(0, .ref (g.2.2 300)), (1, .int x1), (2, .int x2), (3, .int x3), (4, .int x4), (5, .int x5), (6, .int x6)] → W p l e (rk 1) s m args below meth c H locs 0 0 Q (F0 m 140 ls [])) : ∀ (x1 : Int32) (x2 : Int32) (x3 : Int32) (x4 : Int32) (x5 : Int32) (x6 : Int32) (w : Wd) (H : Heap) (locs : List Loc) (ls : Array Slot), pX11_layClans_170 k140 post x1 x2 x3 x4 x5 x6 w → St tabM A s.heap g w H locs → lv_has ls 7 [(0, .ref (g.2.2 300)), (1, .int x1), (2, .int x2), (3, .int x3), (4, .int x4), (5, .int x5), (6, .int x6)] → W p l e (rk 1) s m args below meth c H locs 0 0 Q (F0 m 170 ls []) := by
  have hx := hC.1
  have hb := hC.2.1
  intro x1 x2 x3 x4 x5 x6 w H locs ls hp hS hl
  unfold pX11_layClans_170 at hp
  obtain ⟨x6_1, ex6_1⟩ : ∃ y : Int32, y = x6 + (1 : Int32) := ⟨_, rfl⟩
  have hp := hp x6_1 ex6_1
  refine lv_iinc (v := x6_1) (lv' := [(6, .int x6_1), (0, .ref (g.2.2 300)), (1, .int x1), (2, .int x2), (3, .int x3), (4, .int x4), (5, .int x5)]) hx hb dX11_layClans_170 hl (k := 6) rfl (by rw [ex6_1]; rfl) (by decide) rfl (fun ls hl => ?_)
  refine lv_goto (tgt := 140) hx hb dX11_layClans_173 (by decide) ?_
  exact hk140 x1 x2 x3 x4 x5 x6_1 w _ _ _ hp hS (lv_sub hl [1, 2, 3, 4, 5, 6, 0] rfl)
set_option maxHeartbeats 4000000 in
set_option maxRecDepth 100000 in
theorem bX11_layClans_140 {p : Program} {l : Launch} {e : Env} {s : State} {m : MethodId} {args : Array Value} {below : List Frame} {meth : Method} {c : Code} {Q : State → Prop} {A : Nat → Prop} {g : Gw} {post : Wd → Prop}  (hC : Cx p s m args c cX11_layClans RX11 7 g) (hR : RtV tabM p l e (rk 1) s m args below meth c Q cX11_layClans A g post)  {k35 : Int32 → Int32 → Int32 → Wd → Prop} (hk35 : ∀ (x1 : Int32) (x2 : Int32) (x3 : Int32) (w : Wd) (H : Heap) (locs : List Loc) (ls : Array Slot), k35 x1 x2 x3 w → St tabM A s.heap g w H locs → lv_has ls 7 [(0, .ref (g.2.2 300)), (1, .int x1), (2, .int x2), (3, .int x3)] → W p l e (rk 1) s m args below meth c H locs 0 0 Q (F0 m 35 ls [])) : ∀ (n : Nat) (x1 : Int32) (x2 : Int32) (x3 : Int32) (x4 : Int32) (x5 : Int32) (x6 : Int32) (w : Wd) (H : Heap) (locs : List Loc) (ls : Array Slot), pX11_layClans_140 k35 post n x1 x2 x3 x4 x5 x6 w → St tabM A s.heap g w H locs → lv_has ls 7 [(0, .ref (g.2.2 300)), (1, .int x1), (2, .int x2), (3, .int x3), (4, .int x4), (5, .int x5), (6, .int x6)] → W p l e (rk 1) s m args below meth c H locs 0 0 Q (F0 m 140 ls []) := by
  have hx := hC.1
  have hb := hC.2.1
  intro n
  induction n with
  | zero =>
    intro x1 x2 x3 x4 x5 x6 w H locs ls hp hS hl
    exact False.elim hp
  | succ n ih =>
    intro x1 x2 x3 x4 x5 x6 w H locs ls hp hS hl
    unfold pX11_layClans_140 at hp
    refine lv_iload hx hb dX11_layClans_140 (lv_at hl 6 rfl) ?_
    refine lv_aload_n hx hb dX11_layClans_142 rfl (lv_at hl 0 rfl) ?_
    refine G_300_63 hC hS m1282 dX11_layClans_143 ?_
    refine lv_icmp_ge (tgt := 176) hx hb dX11_layClans_146 (by decide) (fun c_1 => ?_) (fun c_1 => ?_)
    · have hp := hp.1 c_1
      exact bX11_layClans_176 hC hR hk35 x1 x2 x3 w _ _ _ hp hS (lv_sub hl [0, 1, 2, 3] rfl)
    · have hp := hp.2 c_1
      refine lv_aload_n hx hb dX11_layClans_149 rfl (lv_at hl 0 rfl) ?_
      refine G_300_64 hC hS m293 dX11_layClans_150 ?_
      refine lv_iload hx hb dX11_layClans_153 (lv_at hl 6 rfl) ?_
      refine La_365 hC hS hp.1 dX11_layClans_155 ?_
      have hp := hp.2
      refine lv_iload hx hb dX11_layClans_156 (lv_at hl 5 rfl) ?_
      refine lv_icmp_ne (tgt := 170) hx hb dX11_layClans_158 (by decide) (fun c_2 => ?_) (fun c_2 => ?_)
      · have hp := hp.1 c_2
        exact bX11_layClans_170 hC hR ih x1 x2 x3 x4 x5 x6 w _ _ _ hp hS (lv_sub hl [0, 1, 2, 3, 4, 5, 6] rfl)
      · have hp := hp.2 c_2
        refine lv_aload_n hx hb dX11_layClans_161 rfl (lv_at hl 0 rfl) ?_
        refine G_300_64 hC hS m293 dX11_layClans_162 ?_
        refine lv_iload hx hb dX11_layClans_165 (lv_at hl 6 rfl) ?_
        refine lv_iload hx hb dX11_layClans_167 (lv_at hl 4 rfl) ?_
        refine Sa_365 hC hS hp.1 dX11_layClans_169 (fun w_3 H locs ew_3 hS => ?_)
        have hp := hp.2
        have hp := hp w_3 ew_3
        exact bX11_layClans_170 hC hR ih x1 x2 x3 x4 x5 x6 w_3 _ _ _ hp hS (lv_sub hl [0, 1, 2, 3, 4, 5, 6] rfl)
set_option maxHeartbeats 4000000 in
set_option maxRecDepth 100000 in
theorem bX11_layClans_135 {p : Program} {l : Launch} {e : Env} {s : State} {m : MethodId} {args : Array Value} {below : List Frame} {meth : Method} {c : Code} {Q : State → Prop} {A : Nat → Prop} {g : Gw} {post : Wd → Prop}  (hC : Cx p s m args c cX11_layClans RX11 7 g) (hR : RtV tabM p l e (rk 1) s m args below meth c Q cX11_layClans A g post)  {k35 : Int32 → Int32 → Int32 → Wd → Prop} (hk35 : ∀ (x1 : Int32) (x2 : Int32) (x3 : Int32) (w : Wd) (H : Heap) (locs : List Loc) (ls : Array Slot), k35 x1 x2 x3 w → St tabM A s.heap g w H locs → lv_has ls 7 [(0, .ref (g.2.2 300)), (1, .int x1), (2, .int x2), (3, .int x3)] → W p l e (rk 1) s m args below meth c H locs 0 0 Q (F0 m 35 ls [])) : ∀ (x1 : Int32) (x2 : Int32) (x3 : Int32) (x4 : Int32) (t0 : Int32) (w : Wd) (H : Heap) (locs : List Loc) (ls : Array Slot), pX11_layClans_135 k35 post x1 x2 x3 x4 t0 w → St tabM A s.heap g w H locs → lv_has ls 7 [(0, .ref (g.2.2 300)), (1, .int x1), (2, .int x2), (3, .int x3), (4, .int x4)] → W p l e (rk 1) s m args below meth c H locs 0 0 Q (F0 m 135 ls [.int t0]) := by
  have hx := hC.1
  have hb := hC.2.1
  intro x1 x2 x3 x4 t0 w H locs ls hp hS hl
  unfold pX11_layClans_135 at hp
  refine lv_istore (lv' := [(5, .int t0), (0, .ref (g.2.2 300)), (1, .int x1), (2, .int x2), (3, .int x3), (4, .int x4)]) hx hb dX11_layClans_135 hl (by decide) rfl (fun ls hl => ?_)
  refine lv_iconst hx hb dX11_layClans_137 kI_0 ?_
  refine lv_istore (lv' := [(6, .int (0 : Int32)), (5, .int t0), (0, .ref (g.2.2 300)), (1, .int x1), (2, .int x2), (3, .int x3), (4, .int x4)]) hx hb dX11_layClans_138 hl (by decide) rfl (fun ls hl => ?_)
  obtain ⟨n9, hp⟩ := hp
  exact bX11_layClans_140 hC hR hk35 n9 x1 x2 x3 x4 t0 (0 : Int32) w _ _ _ hp hS (lv_sub hl [2, 3, 4, 5, 6, 1, 0] rfl)
set_option maxHeartbeats 4000000 in
set_option maxRecDepth 100000 in
theorem bX11_layClans_103 {p : Program} {l : Launch} {e : Env} {s : State} {m : MethodId} {args : Array Value} {below : List Frame} {meth : Method} {c : Code} {Q : State → Prop} {A : Nat → Prop} {g : Gw} {post : Wd → Prop}  (hC : Cx p s m args c cX11_layClans RX11 7 g) (hR : RtV tabM p l e (rk 1) s m args below meth c Q cX11_layClans A g post)  {k35 : Int32 → Int32 → Int32 → Wd → Prop} (hk35 : ∀ (x1 : Int32) (x2 : Int32) (x3 : Int32) (w : Wd) (H : Heap) (locs : List Loc) (ls : Array Slot), k35 x1 x2 x3 w → St tabM A s.heap g w H locs → lv_has ls 7 [(0, .ref (g.2.2 300)), (1, .int x1), (2, .int x2), (3, .int x3)] → W p l e (rk 1) s m args below meth c H locs 0 0 Q (F0 m 35 ls [])) : ∀ (x1 : Int32) (x2 : Int32) (x3 : Int32) (t0 : Int32) (w : Wd) (H : Heap) (locs : List Loc) (ls : Array Slot), pX11_layClans_103 k35 post x1 x2 x3 t0 w → St tabM A s.heap g w H locs → lv_has ls 7 [(0, .ref (g.2.2 300)), (1, .int x1), (2, .int x2), (3, .int x3)] → W p l e (rk 1) s m args below meth c H locs 0 0 Q (F0 m 103 ls [.int t0]) := by
  have hx := hC.1
  have hb := hC.2.1
  intro x1 x2 x3 t0 w H locs ls hp hS hl
  unfold pX11_layClans_103 at hp
  refine lv_istore (lv' := [(4, .int t0), (0, .ref (g.2.2 300)), (1, .int x1), (2, .int x2), (3, .int x3)]) hx hb dX11_layClans_103 hl (by decide) rfl (fun ls hl => ?_)
  refine lv_aload_n hx hb dX11_layClans_105 rfl (lv_at hl 1 rfl) ?_
  refine G_300_64 hC hS m293 dX11_layClans_106 ?_
  refine lv_iload_n hx hb dX11_layClans_109 rfl (lv_at hl 3 rfl) ?_
  refine La_365 hC hS hp.1 dX11_layClans_110 ?_
  have hp := hp.2
  refine lv_aload_n hx hb dX11_layClans_111 rfl (lv_at hl 1 rfl) ?_
  refine G_300_64 hC hS m293 dX11_layClans_112 ?_
  refine lv_iload_n hx hb dX11_layClans_115 rfl (lv_at hl 4 rfl) ?_
  refine La_365 hC hS hp.1 dX11_layClans_116 ?_
  have hp := hp.2
  refine lv_icmp_ge (tgt := 129) hx hb dX11_layClans_117 (by decide) (fun c_1 => ?_) (fun c_1 => ?_)
  · have hp := hp.1 c_1
    refine lv_aload_n hx hb dX11_layClans_129 rfl (lv_at hl 1 rfl) ?_
    refine G_300_64 hC hS m293 dX11_layClans_130 ?_
    refine lv_iload_n hx hb dX11_layClans_133 rfl (lv_at hl 3 rfl) ?_
    refine La_365 hC hS hp.1 dX11_layClans_134 ?_
    have hp := hp.2
    exact bX11_layClans_135 hC hR hk35 x1 x2 x3 t0 (w.2.1 365 x2.toNatClampNeg) w _ _ _ hp hS (lv_sub hl [1, 2, 3, 4, 0] rfl)
  · have hp := hp.2 c_1
    refine lv_aload_n hx hb dX11_layClans_120 rfl (lv_at hl 1 rfl) ?_
    refine G_300_64 hC hS m293 dX11_layClans_121 ?_
    refine lv_iload_n hx hb dX11_layClans_124 rfl (lv_at hl 4 rfl) ?_
    refine La_365 hC hS hp.1 dX11_layClans_125 ?_
    have hp := hp.2
    refine lv_goto (tgt := 135) hx hb dX11_layClans_126 (by decide) ?_
    exact bX11_layClans_135 hC hR hk35 x1 x2 x3 t0 (w.2.1 365 x3.toNatClampNeg) w _ _ _ hp hS (lv_sub hl [1, 2, 3, 4, 0] rfl)
set_option maxHeartbeats 4000000 in
set_option maxRecDepth 100000 in
theorem bX11_layClans_73 {p : Program} {l : Launch} {e : Env} {s : State} {m : MethodId} {args : Array Value} {below : List Frame} {meth : Method} {c : Code} {Q : State → Prop} {A : Nat → Prop} {g : Gw} {post : Wd → Prop}  (hC : Cx p s m args c cX11_layClans RX11 7 g) (hR : RtV tabM p l e (rk 1) s m args below meth c Q cX11_layClans A g post)  {k35 : Int32 → Int32 → Int32 → Wd → Prop} (hk35 : ∀ (x1 : Int32) (x2 : Int32) (x3 : Int32) (w : Wd) (H : Heap) (locs : List Loc) (ls : Array Slot), k35 x1 x2 x3 w → St tabM A s.heap g w H locs → lv_has ls 7 [(0, .ref (g.2.2 300)), (1, .int x1), (2, .int x2), (3, .int x3)] → W p l e (rk 1) s m args below meth c H locs 0 0 Q (F0 m 35 ls [])) : ∀ (x1 : Int32) (x2 : Int32) (x3 : Int32) (w : Wd) (H : Heap) (locs : List Loc) (ls : Array Slot), pX11_layClans_73 k35 post x1 x2 x3 w → St tabM A s.heap g w H locs → lv_has ls 7 [(0, .ref (g.2.2 300)), (1, .int x1), (2, .int x2), (3, .int x3)] → W p l e (rk 1) s m args below meth c H locs 0 0 Q (F0 m 73 ls []) := by
  have hx := hC.1
  have hb := hC.2.1
  intro x1 x2 x3 w H locs ls hp hS hl
  unfold pX11_layClans_73 at hp
  refine lv_aload_n hx hb dX11_layClans_73 rfl (lv_at hl 0 rfl) ?_
  refine G_300_64 hC hS m293 dX11_layClans_74 ?_
  refine lv_iload_n hx hb dX11_layClans_77 rfl (lv_at hl 2 rfl) ?_
  refine La_365 hC hS hp.1 dX11_layClans_78 ?_
  have hp := hp.2
  refine lv_aload_n hx hb dX11_layClans_79 rfl (lv_at hl 0 rfl) ?_
  refine G_300_64 hC hS m293 dX11_layClans_80 ?_
  refine lv_iload_n hx hb dX11_layClans_83 rfl (lv_at hl 3 rfl) ?_
  refine La_365 hC hS hp.1 dX11_layClans_84 ?_
  have hp := hp.2
  refine lv_icmp_ge (tgt := 97) hx hb dX11_layClans_85 (by decide) (fun c_1 => ?_) (fun c_1 => ?_)
  · have hp := hp.1 c_1
    refine lv_aload_n hx hb dX11_layClans_97 rfl (lv_at hl 0 rfl) ?_
    refine G_300_64 hC hS m293 dX11_layClans_98 ?_
    refine lv_iload_n hx hb dX11_layClans_101 rfl (lv_at hl 3 rfl) ?_
    refine La_365 hC hS hp.1 dX11_layClans_102 ?_
    have hp := hp.2
    exact bX11_layClans_103 hC hR hk35 x1 x2 x3 (w.2.1 365 x3.toNatClampNeg) w _ _ _ hp hS (lv_sub hl [0, 1, 2, 3] rfl)
  · have hp := hp.2 c_1
    refine lv_aload_n hx hb dX11_layClans_88 rfl (lv_at hl 0 rfl) ?_
    refine G_300_64 hC hS m293 dX11_layClans_89 ?_
    refine lv_iload_n hx hb dX11_layClans_92 rfl (lv_at hl 2 rfl) ?_
    refine La_365 hC hS hp.1 dX11_layClans_93 ?_
    have hp := hp.2
    refine lv_goto (tgt := 103) hx hb dX11_layClans_94 (by decide) ?_
    exact bX11_layClans_103 hC hR hk35 x1 x2 x3 (w.2.1 365 x2.toNatClampNeg) w _ _ _ hp hS (lv_sub hl [0, 1, 2, 3] rfl)
set_option maxHeartbeats 4000000 in
set_option maxRecDepth 100000 in
theorem bX11_layClans_35 {p : Program} {l : Launch} {e : Env} {s : State} {m : MethodId} {args : Array Value} {below : List Frame} {meth : Method} {c : Code} {Q : State → Prop} {A : Nat → Prop} {g : Gw} {post : Wd → Prop}  (hC : Cx p s m args c cX11_layClans RX11 7 g) (hR : RtV tabM p l e (rk 1) s m args below meth c Q cX11_layClans A g post)  {k25 : Int32 → Int32 → Wd → Prop} (hk25 : ∀ (x1 : Int32) (x2 : Int32) (w : Wd) (H : Heap) (locs : List Loc) (ls : Array Slot), k25 x1 x2 w → St tabM A s.heap g w H locs → lv_has ls 7 [(0, .ref (g.2.2 300)), (1, .int x1), (2, .int x2)] → W p l e (rk 1) s m args below meth c H locs 0 0 Q (F0 m 25 ls [])) : ∀ (n : Nat) (x1 : Int32) (x2 : Int32) (x3 : Int32) (w : Wd) (H : Heap) (locs : List Loc) (ls : Array Slot), pX11_layClans_35 k25 post n x1 x2 x3 w → St tabM A s.heap g w H locs → lv_has ls 7 [(0, .ref (g.2.2 300)), (1, .int x1), (2, .int x2), (3, .int x3)] → W p l e (rk 1) s m args below meth c H locs 0 0 Q (F0 m 35 ls []) := by
  have hx := hC.1
  have hb := hC.2.1
  intro n
  induction n with
  | zero =>
    intro x1 x2 x3 w H locs ls hp hS hl
    exact False.elim hp
  | succ n ih =>
    intro x1 x2 x3 w H locs ls hp hS hl
    unfold pX11_layClans_35 at hp
    refine lv_iload_n hx hb dX11_layClans_35 rfl (lv_at hl 3 rfl) ?_
    refine lv_iload_n hx hb dX11_layClans_36 rfl (lv_at hl 2 rfl) ?_
    refine lv_icmp_ge (tgt := 182) hx hb dX11_layClans_37 (by decide) (fun c_1 => ?_) (fun c_1 => ?_)
    · have hp := hp.1 c_1
      obtain ⟨x2_2, ex2_2⟩ : ∃ y : Int32, y = x2 + (1 : Int32) := ⟨_, rfl⟩
      have hp := hp x2_2 ex2_2
      refine lv_iinc (v := x2_2) (lv' := [(2, .int x2_2), (0, .ref (g.2.2 300)), (1, .int x1), (3, .int x3)]) hx hb dX11_layClans_182 hl (k := 2) rfl (by rw [ex2_2]; rfl) (by decide) rfl (fun ls hl => ?_)
      refine lv_goto (tgt := 25) hx hb dX11_layClans_185 (by decide) ?_
      exact hk25 x1 x2_2 w _ _ _ hp hS (lv_sub hl [1, 2, 0] rfl)
    · have hp := hp.2 c_1
      refine lv_aload_n hx hb dX11_layClans_40 rfl (lv_at hl 0 rfl) ?_
      refine G_300_62 hC hS m292 dX11_layClans_41 ?_
      refine lv_bipush hx hb dX11_layClans_44 kB_7 ?_
      refine lv_iload_n hx hb dX11_layClans_46 rfl (lv_at hl 2 rfl) ?_
      refine lv_imul hx hb dX11_layClans_47 ?_
      refine lv_iload_n hx hb dX11_layClans_48 rfl (lv_at hl 3 rfl) ?_
      refine lv_iadd hx hb dX11_layClans_49 ?_
      refine La_363 hC hS hp.1 dX11_layClans_50 ?_
      have hp := hp.2
      refine lv_iload_n hx hb dX11_layClans_51 rfl (lv_at hl 1 rfl) ?_
      refine lv_icmp_le (tgt := 73) hx hb dX11_layClans_52 (by decide) (fun c_3 => ?_) (fun c_3 => ?_)
      · have hp := hp.1 c_3
        exact bX11_layClans_73 hC hR ih x1 x2 x3 w _ _ _ hp hS (lv_sub hl [0, 1, 2, 3] rfl)
      · have hp := hp.2 c_3
        refine lv_aload_n hx hb dX11_layClans_55 rfl (lv_at hl 0 rfl) ?_
        refine G_300_62 hC hS m292 dX11_layClans_56 ?_
        refine lv_bipush hx hb dX11_layClans_59 kB_7 ?_
        refine lv_iload_n hx hb dX11_layClans_61 rfl (lv_at hl 3 rfl) ?_
        refine lv_imul hx hb dX11_layClans_62 ?_
        refine lv_iload_n hx hb dX11_layClans_63 rfl (lv_at hl 2 rfl) ?_
        refine lv_iadd hx hb dX11_layClans_64 ?_
        refine La_363 hC hS hp.1 dX11_layClans_65 ?_
        have hp := hp.2
        refine lv_iload_n hx hb dX11_layClans_66 rfl (lv_at hl 1 rfl) ?_
        refine lv_icmp_le (tgt := 73) hx hb dX11_layClans_67 (by decide) (fun c_4 => ?_) (fun c_4 => ?_)
        · have hp := hp.1 c_4
          exact bX11_layClans_73 hC hR ih x1 x2 x3 w _ _ _ hp hS (lv_sub hl [0, 1, 2, 3] rfl)
        · have hp := hp.2 c_4
          refine lv_goto (tgt := 176) hx hb dX11_layClans_70 (by decide) ?_
          exact bX11_layClans_176 hC hR ih x1 x2 x3 w _ _ _ hp hS (lv_sub hl [0, 1, 2, 3] rfl)
set_option maxHeartbeats 4000000 in
set_option maxRecDepth 100000 in
theorem bX11_layClans_25 {p : Program} {l : Launch} {e : Env} {s : State} {m : MethodId} {args : Array Value} {below : List Frame} {meth : Method} {c : Code} {Q : State → Prop} {A : Nat → Prop} {g : Gw} {post : Wd → Prop}  (hC : Cx p s m args c cX11_layClans RX11 7 g) (hR : RtV tabM p l e (rk 1) s m args below meth c Q cX11_layClans A g post)  : ∀ (n : Nat) (x1 : Int32) (x2 : Int32) (w : Wd) (H : Heap) (locs : List Loc) (ls : Array Slot), pX11_layClans_25 post n x1 x2 w → St tabM A s.heap g w H locs → lv_has ls 7 [(0, .ref (g.2.2 300)), (1, .int x1), (2, .int x2)] → W p l e (rk 1) s m args below meth c H locs 0 0 Q (F0 m 25 ls []) := by
  have hx := hC.1
  have hb := hC.2.1
  intro n
  induction n with
  | zero =>
    intro x1 x2 w H locs ls hp hS hl
    exact False.elim hp
  | succ n ih =>
    intro x1 x2 w H locs ls hp hS hl
    unfold pX11_layClans_25 at hp
    refine lv_iload_n hx hb dX11_layClans_25 rfl (lv_at hl 2 rfl) ?_
    refine lv_aload_n hx hb dX11_layClans_26 rfl (lv_at hl 0 rfl) ?_
    refine G_300_63 hC hS m1282 dX11_layClans_27 ?_
    refine lv_icmp_ge (tgt := 188) hx hb dX11_layClans_30 (by decide) (fun c_1 => ?_) (fun c_1 => ?_)
    · have hp := hp.1 c_1
      exact hR _ _ _ _ _ dX11_layClans_188 hp hS
    · have hp := hp.2 c_1
      refine lv_iconst hx hb dX11_layClans_33 kI_0 ?_
      refine lv_istore_n (lv' := [(3, .int (0 : Int32)), (0, .ref (g.2.2 300)), (1, .int x1), (2, .int x2)]) hx hb dX11_layClans_34 rfl hl (by decide) rfl (fun ls hl => ?_)
      obtain ⟨n9, hp⟩ := hp
      exact bX11_layClans_35 hC hR ih n9 x1 x2 (0 : Int32) w _ _ _ hp hS (lv_sub hl [1, 2, 3, 0] rfl)
set_option maxHeartbeats 4000000 in
set_option maxRecDepth 100000 in
theorem bX11_layClans_2 {p : Program} {l : Launch} {e : Env} {s : State} {m : MethodId} {args : Array Value} {below : List Frame} {meth : Method} {c : Code} {Q : State → Prop} {A : Nat → Prop} {g : Gw} {post : Wd → Prop}  (hC : Cx p s m args c cX11_layClans RX11 7 g) (hR : RtV tabM p l e (rk 1) s m args below meth c Q cX11_layClans A g post)  : ∀ (n : Nat) (x1 : Int32) (x2 : Int32) (w : Wd) (H : Heap) (locs : List Loc) (ls : Array Slot), pX11_layClans_2 post n x1 x2 w → St tabM A s.heap g w H locs → lv_has ls 7 [(0, .ref (g.2.2 300)), (1, .int x1), (2, .int x2)] → W p l e (rk 1) s m args below meth c H locs 0 0 Q (F0 m 2 ls []) := by
  have hx := hC.1
  have hb := hC.2.1
  intro n
  induction n with
  | zero =>
    intro x1 x2 w H locs ls hp hS hl
    exact False.elim hp
  | succ n ih =>
    intro x1 x2 w H locs ls hp hS hl
    unfold pX11_layClans_2 at hp
    refine lv_iload_n hx hb dX11_layClans_2 rfl (lv_at hl 2 rfl) ?_
    refine lv_aload_n hx hb dX11_layClans_3 rfl (lv_at hl 0 rfl) ?_
    refine G_300_63 hC hS m1282 dX11_layClans_4 ?_
    refine lv_icmp_ge (tgt := 23) hx hb dX11_layClans_7 (by decide) (fun c_1 => ?_) (fun c_1 => ?_)
    · have hp := hp.1 c_1
      refine lv_iconst hx hb dX11_layClans_23 kI_0 ?_
      refine lv_istore_n (lv' := [(2, .int (0 : Int32)), (0, .ref (g.2.2 300)), (1, .int x1)]) hx hb dX11_layClans_24 rfl hl (by decide) rfl (fun ls hl => ?_)
      obtain ⟨n9, hp⟩ := hp
      exact bX11_layClans_25 hC hR n9 x1 (0 : Int32) w _ _ _ hp hS (lv_sub hl [1, 2, 0] rfl)
    · have hp := hp.2 c_1
      refine lv_aload_n hx hb dX11_layClans_10 rfl (lv_at hl 0 rfl) ?_
      refine G_300_64 hC hS m293 dX11_layClans_11 ?_
      refine lv_iload_n hx hb dX11_layClans_14 rfl (lv_at hl 2 rfl) ?_
      refine lv_iload_n hx hb dX11_layClans_15 rfl (lv_at hl 2 rfl) ?_
      refine Sa_365 hC hS hp.1 dX11_layClans_16 (fun w_2 H locs ew_2 hS => ?_)
      have hp := hp.2
      have hp := hp w_2 ew_2
      obtain ⟨x2_3, ex2_3⟩ : ∃ y : Int32, y = x2 + (1 : Int32) := ⟨_, rfl⟩
      have hp := hp x2_3 ex2_3
      refine lv_iinc (v := x2_3) (lv' := [(2, .int x2_3), (0, .ref (g.2.2 300)), (1, .int x1)]) hx hb dX11_layClans_17 hl (k := 2) rfl (by rw [ex2_3]; rfl) (by decide) rfl (fun ls hl => ?_)
      refine lv_goto (tgt := 2) hx hb dX11_layClans_20 (by decide) ?_
      exact ih x1 x2_3 w_2 _ _ _ hp hS (lv_sub hl [1, 2, 0] rfl)
set_option maxHeartbeats 4000000 in
set_option maxRecDepth 100000 in
theorem rX11_layClans {l : Launch} {g : Gw} {w : Wd} {post : Wd → Prop}   {x1 : Int32} (hp : pX11_layClans post x1 w) : MtV tabM l yX11_layClans cX11_layClans 7 none 1 g w [.ref (g.2.2 300), .int x1] post := by
  refine q_entV tabM_nd (by decide) rfl (Nat.le_of_ble_eq_true rfl) ?_
  intro p e s m args below meth c A Q ls hC hR hS hl
  have hx := hC.1
  have hb := hC.2.1
  have hl : lv_has ls 7 [(0, .ref (g.2.2 300)), (1, .int x1)] := hl
  unfold pX11_layClans at hp
  refine lv_iconst hx hb dX11_layClans_0 kI_0 ?_
  refine lv_istore_n (lv' := [(2, .int (0 : Int32)), (0, .ref (g.2.2 300)), (1, .int x1)]) hx hb dX11_layClans_1 rfl hl (by decide) rfl (fun ls hl => ?_)
  obtain ⟨n9, hp⟩ := hp
  exact bX11_layClans_2 hC hR n9 x1 (0 : Int32) w _ _ _ hp hS (lv_sub hl [1, 2, 0] rfl)
def pX11_clans_118 (k40 : Int32 → Int32 → Int32 → Int32 → Wd → Prop) (post : Int32 → Wd → Prop) (x2 : Int32) (x4 : Int32) (x5 : Int32) (x6 : Int32) (w : Wd) : Prop := ∀ x6_1, x6_1 = x6 + (1 : Int32) → k40 x2 x4 x5 x6_1 w
def pX11_clans_104 (k40 : Int32 → Int32 → Int32 → Int32 → Wd → Prop) (post : Int32 → Wd → Prop) (x2 : Int32) (x5 : Int32) (x6 : Int32) (x7 : Int32) (t0 : Int32) (t1 : Int32) (w : Wd) : Prop := ∀ x4_1, x4_1 = (t0 + t1) → (x7 ≤ x5 → (pX11_clans_118 k40 post x2 x4_1 x5 x6 w)) ∧ (¬ x7 ≤ x5 → (pX11_clans_118 k40 post x2 x4_1 x7 x6 w))
def pX11_clans_83 (k55 : Int32 → Int32 → Int32 → Int32 → Int32 → Int32 → Wd → Prop) (post : Int32 → Wd → Prop) (x2 : Int32) (x4 : Int32) (x5 : Int32) (x6 : Int32) (x8 : Int32) (t0 : Int32) (t1 : Int32) (w : Wd) : Prop := ∀ x7_1, x7_1 = (t0 + t1) → ∀ x8_2, x8_2 = x8 + (1 : Int32) → k55 x2 x4 x5 x6 x7_1 x8_2 w
def pX11_clans_55 (k40 : Int32 → Int32 → Int32 → Int32 → Wd → Prop) (post : Int32 → Wd → Prop) : Nat → Int32 → Int32 → Int32 → Int32 → Int32 → Int32 → Wd → Prop
  | 0, _, _, _, _, _, _, _ => False
  | n + 1, x2, x4, x5, x6, x7, x8, w => ((w.1 300 63) ≤ x8 → ((x7 ≤ 0 → (pX11_clans_104 k40 post x2 x5 x6 x7 x4 (0 : Int32) w)) ∧ (¬ x7 ≤ 0 → (pX11_clans_104 k40 post x2 x5 x6 x7 x4 (1 : Int32) w)))) ∧ (¬ (w.1 300 63) ≤ x8 → (vp_in x8 7 ∧ (¬ (w.2.1 365 x8.toNatClampNeg) = x6 → (pX11_clans_83 (pX11_clans_55 k40 post n) post x2 x4 x5 x6 x8 x7 (0 : Int32) w)) ∧ ((w.2.1 365 x8.toNatClampNeg) = x6 → (pX11_clans_83 (pX11_clans_55 k40 post n) post x2 x4 x5 x6 x8 x7 (1 : Int32) w))))
def pX11_clans_40 (post : Int32 → Wd → Prop) : Nat → Int32 → Int32 → Int32 → Int32 → Wd → Prop
  | 0, _, _, _, _, _ => False
  | n + 1, x2, x4, x5, x6, w => ((w.1 300 63) ≤ x6 → ((¬ x2 = 0 → (post x5 w)) ∧ (x2 = 0 → (post x4 w)))) ∧ (¬ (w.1 300 63) ≤ x6 → (∃ n9, pX11_clans_55 (pX11_clans_40 post n) post n9 x2 x4 x5 x6 (0 : Int32) (0 : Int32) w))
def pX11_clans (post : Int32 → Wd → Prop) (x1 : Int32) (x2 : Int32) (x3 : Int32) (w : Wd) : Prop := pX11_isIn (fun r_1 w_2 => (r_1 = 0 → (post (-1 : Int32) w_2)) ∧ (¬ r_1 = 0 → (pX11_isIn (fun r_4 w_5 => (¬ r_4 = 0 → (pX11_laySamples (fun w_7 => pX11_layClans (fun w_8 => ∃ n9, pX11_clans_40 post n9 x2 (0 : Int32) (0 : Int32) (0 : Int32) w_8) x1 w_7) x3 w_5)) ∧ (r_4 = 0 → (post (-1 : Int32) w_5))) x2 (0 : Int32) (1 : Int32) w_2))) x1 (0 : Int32) (24 : Int32) w
set_option maxHeartbeats 4000000 in
set_option maxRecDepth 100000 in
theorem bX11_clans_118 {p : Program} {l : Launch} {e : Env} {s : State} {m : MethodId} {args : Array Value} {below : List Frame} {meth : Method} {c : Code} {Q : State → Prop} {A : Nat → Prop} {g : Gw} {post : Int32 → Wd → Prop}  (hC : Cx p s m args c cX11_clans RX11 9 g) (hR : RtI tabM p l e (rk 4) s m args below meth c Q cX11_clans A g post)  {k40 : Int32 → Int32 → Int32 → Int32 → Wd → Prop} (hk40 : ∀ (x2 : Int32) (x4 : Int32) (x5 : Int32) (x6 : Int32) (w : Wd) (H : Heap) (locs : List Loc) (ls : Array Slot), k40 x2 x4 x5 x6 w → St tabM A s.heap g w H locs → lv_has ls 9 [(0, .ref (g.2.2 300)), (2, .int x2), (4, .int x4), (5, .int x5), (6, .int x6)] → W p l e (rk 4) s m args below meth c H locs 0 0 Q (F0 m 40 ls [])) : ∀ (x2 : Int32) (x4 : Int32) (x5 : Int32) (x6 : Int32) (w : Wd) (H : Heap) (locs : List Loc) (ls : Array Slot), pX11_clans_118 k40 post x2 x4 x5 x6 w → St tabM A s.heap g w H locs → lv_has ls 9 [(0, .ref (g.2.2 300)), (2, .int x2), (4, .int x4), (5, .int x5), (6, .int x6)] → W p l e (rk 4) s m args below meth c H locs 0 0 Q (F0 m 118 ls []) := by
  have hx := hC.1
  have hb := hC.2.1
  intro x2 x4 x5 x6 w H locs ls hp hS hl
  unfold pX11_clans_118 at hp
  obtain ⟨x6_1, ex6_1⟩ : ∃ y : Int32, y = x6 + (1 : Int32) := ⟨_, rfl⟩
  have hp := hp x6_1 ex6_1
  refine lv_iinc (v := x6_1) (lv' := [(6, .int x6_1), (0, .ref (g.2.2 300)), (2, .int x2), (4, .int x4), (5, .int x5)]) hx hb dX11_clans_118 hl (k := 4) rfl (by rw [ex6_1]; rfl) (by decide) rfl (fun ls hl => ?_)
  refine lv_goto (tgt := 40) hx hb dX11_clans_121 (by decide) ?_
  exact hk40 x2 x4 x5 x6_1 w _ _ _ hp hS (lv_sub hl [1, 2, 3, 4, 0] rfl)
set_option maxHeartbeats 4000000 in
set_option maxRecDepth 100000 in
theorem bX11_clans_104 {p : Program} {l : Launch} {e : Env} {s : State} {m : MethodId} {args : Array Value} {below : List Frame} {meth : Method} {c : Code} {Q : State → Prop} {A : Nat → Prop} {g : Gw} {post : Int32 → Wd → Prop}  (hC : Cx p s m args c cX11_clans RX11 9 g) (hR : RtI tabM p l e (rk 4) s m args below meth c Q cX11_clans A g post)  {k40 : Int32 → Int32 → Int32 → Int32 → Wd → Prop} (hk40 : ∀ (x2 : Int32) (x4 : Int32) (x5 : Int32) (x6 : Int32) (w : Wd) (H : Heap) (locs : List Loc) (ls : Array Slot), k40 x2 x4 x5 x6 w → St tabM A s.heap g w H locs → lv_has ls 9 [(0, .ref (g.2.2 300)), (2, .int x2), (4, .int x4), (5, .int x5), (6, .int x6)] → W p l e (rk 4) s m args below meth c H locs 0 0 Q (F0 m 40 ls [])) : ∀ (x2 : Int32) (x5 : Int32) (x6 : Int32) (x7 : Int32) (t0 : Int32) (t1 : Int32) (w : Wd) (H : Heap) (locs : List Loc) (ls : Array Slot), pX11_clans_104 k40 post x2 x5 x6 x7 t0 t1 w → St tabM A s.heap g w H locs → lv_has ls 9 [(0, .ref (g.2.2 300)), (2, .int x2), (5, .int x5), (6, .int x6), (7, .int x7)] → W p l e (rk 4) s m args below meth c H locs 0 0 Q (F0 m 104 ls [.int t1, .int t0]) := by
  have hx := hC.1
  have hb := hC.2.1
  intro x2 x5 x6 x7 t0 t1 w H locs ls hp hS hl
  unfold pX11_clans_104 at hp
  refine lv_iadd hx hb dX11_clans_104 ?_
  refine lv_topi (fun x4_1 ex4_1 => ?_)
  have hp := hp x4_1 ex4_1
  refine lv_istore (lv' := [(4, .int x4_1), (0, .ref (g.2.2 300)), (2, .int x2), (5, .int x5), (6, .int x6), (7, .int x7)]) hx hb dX11_clans_105 hl (by decide) rfl (fun ls hl => ?_)
  refine lv_iload hx hb dX11_clans_107 (lv_at hl 5 rfl) ?_
  refine lv_iload hx hb dX11_clans_109 (lv_at hl 3 rfl) ?_
  refine lv_icmp_le (tgt := 118) hx hb dX11_clans_111 (by decide) (fun c_2 => ?_) (fun c_2 => ?_)
  · have hp := hp.1 c_2
    exact bX11_clans_118 hC hR hk40 x2 x4_1 x5 x6 w _ _ _ hp hS (lv_sub hl [1, 2, 0, 3, 4] rfl)
  · have hp := hp.2 c_2
    refine lv_iload hx hb dX11_clans_114 (lv_at hl 5 rfl) ?_
    refine lv_istore (lv' := [(5, .int x7), (4, .int x4_1), (0, .ref (g.2.2 300)), (2, .int x2), (6, .int x6), (7, .int x7)]) hx hb dX11_clans_116 hl (by decide) rfl (fun ls hl => ?_)
    exact bX11_clans_118 hC hR hk40 x2 x4_1 x7 x6 w _ _ _ hp hS (lv_sub hl [2, 3, 1, 0, 4] rfl)
set_option maxHeartbeats 4000000 in
set_option maxRecDepth 100000 in
theorem bX11_clans_83 {p : Program} {l : Launch} {e : Env} {s : State} {m : MethodId} {args : Array Value} {below : List Frame} {meth : Method} {c : Code} {Q : State → Prop} {A : Nat → Prop} {g : Gw} {post : Int32 → Wd → Prop}  (hC : Cx p s m args c cX11_clans RX11 9 g) (hR : RtI tabM p l e (rk 4) s m args below meth c Q cX11_clans A g post)  {k55 : Int32 → Int32 → Int32 → Int32 → Int32 → Int32 → Wd → Prop} (hk55 : ∀ (x2 : Int32) (x4 : Int32) (x5 : Int32) (x6 : Int32) (x7 : Int32) (x8 : Int32) (w : Wd) (H : Heap) (locs : List Loc) (ls : Array Slot), k55 x2 x4 x5 x6 x7 x8 w → St tabM A s.heap g w H locs → lv_has ls 9 [(0, .ref (g.2.2 300)), (2, .int x2), (4, .int x4), (5, .int x5), (6, .int x6), (7, .int x7), (8, .int x8)] → W p l e (rk 4) s m args below meth c H locs 0 0 Q (F0 m 55 ls [])) : ∀ (x2 : Int32) (x4 : Int32) (x5 : Int32) (x6 : Int32) (x8 : Int32) (t0 : Int32) (t1 : Int32) (w : Wd) (H : Heap) (locs : List Loc) (ls : Array Slot), pX11_clans_83 k55 post x2 x4 x5 x6 x8 t0 t1 w → St tabM A s.heap g w H locs → lv_has ls 9 [(0, .ref (g.2.2 300)), (2, .int x2), (4, .int x4), (5, .int x5), (6, .int x6), (8, .int x8)] → W p l e (rk 4) s m args below meth c H locs 0 0 Q (F0 m 83 ls [.int t1, .int t0]) := by
  have hx := hC.1
  have hb := hC.2.1
  intro x2 x4 x5 x6 x8 t0 t1 w H locs ls hp hS hl
  unfold pX11_clans_83 at hp
  refine lv_iadd hx hb dX11_clans_83 ?_
  refine lv_topi (fun x7_1 ex7_1 => ?_)
  have hp := hp x7_1 ex7_1
  refine lv_istore (lv' := [(7, .int x7_1), (0, .ref (g.2.2 300)), (2, .int x2), (4, .int x4), (5, .int x5), (6, .int x6), (8, .int x8)]) hx hb dX11_clans_84 hl (by decide) rfl (fun ls hl => ?_)
  obtain ⟨x8_2, ex8_2⟩ : ∃ y : Int32, y = x8 + (1 : Int32) := ⟨_, rfl⟩
  have hp := hp x8_2 ex8_2
  refine lv_iinc (v := x8_2) (lv' := [(8, .int x8_2), (7, .int x7_1), (0, .ref (g.2.2 300)), (2, .int x2), (4, .int x4), (5, .int x5), (6, .int x6)]) hx hb dX11_clans_86 hl (k := 6) rfl (by rw [ex8_2]; rfl) (by decide) rfl (fun ls hl => ?_)
  refine lv_goto (tgt := 55) hx hb dX11_clans_89 (by decide) ?_
  exact hk55 x2 x4 x5 x6 x7_1 x8_2 w _ _ _ hp hS (lv_sub hl [2, 3, 4, 5, 6, 1, 0] rfl)
set_option maxHeartbeats 4000000 in
set_option maxRecDepth 100000 in
theorem bX11_clans_55 {p : Program} {l : Launch} {e : Env} {s : State} {m : MethodId} {args : Array Value} {below : List Frame} {meth : Method} {c : Code} {Q : State → Prop} {A : Nat → Prop} {g : Gw} {post : Int32 → Wd → Prop}  (hC : Cx p s m args c cX11_clans RX11 9 g) (hR : RtI tabM p l e (rk 4) s m args below meth c Q cX11_clans A g post)  {k40 : Int32 → Int32 → Int32 → Int32 → Wd → Prop} (hk40 : ∀ (x2 : Int32) (x4 : Int32) (x5 : Int32) (x6 : Int32) (w : Wd) (H : Heap) (locs : List Loc) (ls : Array Slot), k40 x2 x4 x5 x6 w → St tabM A s.heap g w H locs → lv_has ls 9 [(0, .ref (g.2.2 300)), (2, .int x2), (4, .int x4), (5, .int x5), (6, .int x6)] → W p l e (rk 4) s m args below meth c H locs 0 0 Q (F0 m 40 ls [])) : ∀ (n : Nat) (x2 : Int32) (x4 : Int32) (x5 : Int32) (x6 : Int32) (x7 : Int32) (x8 : Int32) (w : Wd) (H : Heap) (locs : List Loc) (ls : Array Slot), pX11_clans_55 k40 post n x2 x4 x5 x6 x7 x8 w → St tabM A s.heap g w H locs → lv_has ls 9 [(0, .ref (g.2.2 300)), (2, .int x2), (4, .int x4), (5, .int x5), (6, .int x6), (7, .int x7), (8, .int x8)] → W p l e (rk 4) s m args below meth c H locs 0 0 Q (F0 m 55 ls []) := by
  have hx := hC.1
  have hb := hC.2.1
  intro n
  induction n with
  | zero =>
    intro x2 x4 x5 x6 x7 x8 w H locs ls hp hS hl
    exact False.elim hp
  | succ n ih =>
    intro x2 x4 x5 x6 x7 x8 w H locs ls hp hS hl
    unfold pX11_clans_55 at hp
    refine lv_iload hx hb dX11_clans_55 (lv_at hl 6 rfl) ?_
    refine lv_aload_n hx hb dX11_clans_57 rfl (lv_at hl 0 rfl) ?_
    refine G_300_63 hC hS m1282 dX11_clans_58 ?_
    refine lv_icmp_ge (tgt := 92) hx hb dX11_clans_61 (by decide) (fun c_1 => ?_) (fun c_1 => ?_)
    · have hp := hp.1 c_1
      refine lv_iload hx hb dX11_clans_92 (lv_at hl 2 rfl) ?_
      refine lv_iload hx hb dX11_clans_94 (lv_at hl 5 rfl) ?_
      refine lv_if_le (tgt := 103) hx hb dX11_clans_96 (by decide) (fun c_2 => ?_) (fun c_2 => ?_)
      · have hp := hp.1 c_2
        refine lv_iconst hx hb dX11_clans_103 kI_0 ?_
        exact bX11_clans_104 hC hR hk40 x2 x5 x6 x7 x4 (0 : Int32) w _ _ _ hp hS (lv_sub hl [0, 1, 3, 4, 5] rfl)
      · have hp := hp.2 c_2
        refine lv_iconst hx hb dX11_clans_99 kI_1 ?_
        refine lv_goto (tgt := 104) hx hb dX11_clans_100 (by decide) ?_
        exact bX11_clans_104 hC hR hk40 x2 x5 x6 x7 x4 (1 : Int32) w _ _ _ hp hS (lv_sub hl [0, 1, 3, 4, 5] rfl)
    · have hp := hp.2 c_1
      refine lv_iload hx hb dX11_clans_64 (lv_at hl 5 rfl) ?_
      refine lv_aload_n hx hb dX11_clans_66 rfl (lv_at hl 0 rfl) ?_
      refine G_300_64 hC hS m293 dX11_clans_67 ?_
      refine lv_iload hx hb dX11_clans_70 (lv_at hl 6 rfl) ?_
      refine La_365 hC hS hp.1 dX11_clans_72 ?_
      have hp := hp.2
      refine lv_iload hx hb dX11_clans_73 (lv_at hl 4 rfl) ?_
      refine lv_icmp_ne (tgt := 82) hx hb dX11_clans_75 (by decide) (fun c_3 => ?_) (fun c_3 => ?_)
      · have hp := hp.1 c_3
        refine lv_iconst hx hb dX11_clans_82 kI_0 ?_
        exact bX11_clans_83 hC hR ih x2 x4 x5 x6 x8 x7 (0 : Int32) w _ _ _ hp hS (lv_sub hl [0, 1, 2, 3, 4, 6] rfl)
      · have hp := hp.2 c_3
        refine lv_iconst hx hb dX11_clans_78 kI_1 ?_
        refine lv_goto (tgt := 83) hx hb dX11_clans_79 (by decide) ?_
        exact bX11_clans_83 hC hR ih x2 x4 x5 x6 x8 x7 (1 : Int32) w _ _ _ hp hS (lv_sub hl [0, 1, 2, 3, 4, 6] rfl)
set_option maxHeartbeats 4000000 in
set_option maxRecDepth 100000 in
theorem bX11_clans_40 {p : Program} {l : Launch} {e : Env} {s : State} {m : MethodId} {args : Array Value} {below : List Frame} {meth : Method} {c : Code} {Q : State → Prop} {A : Nat → Prop} {g : Gw} {post : Int32 → Wd → Prop}  (hC : Cx p s m args c cX11_clans RX11 9 g) (hR : RtI tabM p l e (rk 4) s m args below meth c Q cX11_clans A g post)  : ∀ (n : Nat) (x2 : Int32) (x4 : Int32) (x5 : Int32) (x6 : Int32) (w : Wd) (H : Heap) (locs : List Loc) (ls : Array Slot), pX11_clans_40 post n x2 x4 x5 x6 w → St tabM A s.heap g w H locs → lv_has ls 9 [(0, .ref (g.2.2 300)), (2, .int x2), (4, .int x4), (5, .int x5), (6, .int x6)] → W p l e (rk 4) s m args below meth c H locs 0 0 Q (F0 m 40 ls []) := by
  have hx := hC.1
  have hb := hC.2.1
  intro n
  induction n with
  | zero =>
    intro x2 x4 x5 x6 w H locs ls hp hS hl
    exact False.elim hp
  | succ n ih =>
    intro x2 x4 x5 x6 w H locs ls hp hS hl
    unfold pX11_clans_40 at hp
    refine lv_iload hx hb dX11_clans_40 (lv_at hl 4 rfl) ?_
    refine lv_aload_n hx hb dX11_clans_42 rfl (lv_at hl 0 rfl) ?_
    refine G_300_63 hC hS m1282 dX11_clans_43 ?_
    refine lv_icmp_ge (tgt := 124) hx hb dX11_clans_46 (by decide) (fun c_1 => ?_) (fun c_1 => ?_)
    · have hp := hp.1 c_1
      refine lv_iload_n hx hb dX11_clans_124 rfl (lv_at hl 1 rfl) ?_
      refine lv_if_ne (tgt := 133) hx hb dX11_clans_125 (by decide) (fun c_2 => ?_) (fun c_2 => ?_)
      · have hp := hp.1 c_2
        refine lv_iload hx hb dX11_clans_133 (lv_at hl 3 rfl) ?_
        exact hR _ _ _ _ _ _ dX11_clans_135 hp hS
      · have hp := hp.2 c_2
        refine lv_iload hx hb dX11_clans_128 (lv_at hl 2 rfl) ?_
        refine lv_goto (tgt := 135) hx hb dX11_clans_130 (by decide) ?_
        exact hR _ _ _ _ _ _ dX11_clans_135 hp hS
    · have hp := hp.2 c_1
      refine lv_iconst hx hb dX11_clans_49 kI_0 ?_
      refine lv_istore (lv' := [(7, .int (0 : Int32)), (0, .ref (g.2.2 300)), (2, .int x2), (4, .int x4), (5, .int x5), (6, .int x6)]) hx hb dX11_clans_50 hl (by decide) rfl (fun ls hl => ?_)
      refine lv_iconst hx hb dX11_clans_52 kI_0 ?_
      refine lv_istore (lv' := [(8, .int (0 : Int32)), (7, .int (0 : Int32)), (0, .ref (g.2.2 300)), (2, .int x2), (4, .int x4), (5, .int x5), (6, .int x6)]) hx hb dX11_clans_53 hl (by decide) rfl (fun ls hl => ?_)
      obtain ⟨n9, hp⟩ := hp
      exact bX11_clans_55 hC hR ih n9 x2 x4 x5 x6 (0 : Int32) (0 : Int32) w _ _ _ hp hS (lv_sub hl [2, 3, 4, 5, 6, 1, 0] rfl)
set_option maxHeartbeats 4000000 in
set_option maxRecDepth 100000 in
theorem rX11_clans {l : Launch} {g : Gw} {w : Wd} {post : Int32 → Wd → Prop}   {x1 : Int32} {x2 : Int32} {x3 : Int32} (hp : pX11_clans post x1 x2 x3 w) : MtI tabM l yX11_clans cX11_clans 9 (some .int) 4 g w [.ref (g.2.2 300), .int x1, .int x2, .int x3] post := by
  refine q_entI tabM_nd (by decide) rfl (Nat.le_of_ble_eq_true rfl) ?_
  intro p e s m args below meth c A Q ls hC hR hS hl
  have hx := hC.1
  have hb := hC.2.1
  have hl : lv_has ls 9 [(0, .ref (g.2.2 300)), (1, .int x1), (2, .int x2), (3, .int x3)] := hl
  unfold pX11_clans at hp
  refine lv_iload_n hx hb dX11_clans_0 rfl (lv_at hl 1 rfl) ?_
  refine lv_iconst hx hb dX11_clans_1 kI_0 ?_
  refine lv_bipush hx hb dX11_clans_2 kB_24 ?_
  refine q_csI (As := [.int x1, .int (0 : Int32), .int (24 : Int32)]) (rest := []) hC hS hl.1 (rX11_isIn hp) cwX11_345 ysX11_isIn rfl rfl (Nat.le_of_ble_eq_true rfl) (rmk (by decide) (by decide)) dX11_clans_4 (fun r_1 w_2 H locs hp hS => ?_)
  refine lv_if_eq (tgt := 19) hx hb dX11_clans_7 (by decide) (fun c_3 => ?_) (fun c_3 => ?_)
  · have hp := hp.1 c_3
    refine lv_iconst hx hb dX11_clans_19 kI_m1 ?_
    exact hR _ _ _ _ _ _ dX11_clans_20 hp hS
  · have hp := hp.2 c_3
    refine lv_iload_n hx hb dX11_clans_10 rfl (lv_at hl 2 rfl) ?_
    refine lv_iconst hx hb dX11_clans_11 kI_0 ?_
    refine lv_iconst hx hb dX11_clans_12 kI_1 ?_
    refine q_csI (As := [.int x2, .int (0 : Int32), .int (1 : Int32)]) (rest := []) hC hS hl.1 (rX11_isIn hp) cwX11_345 ysX11_isIn rfl rfl (Nat.le_of_ble_eq_true rfl) (rmk (by decide) (by decide)) dX11_clans_13 (fun r_4 w_5 H locs hp hS => ?_)
    refine lv_if_ne (tgt := 21) hx hb dX11_clans_16 (by decide) (fun c_6 => ?_) (fun c_6 => ?_)
    · have hp := hp.1 c_6
      refine lv_aload_n hx hb dX11_clans_21 rfl (lv_at hl 0 rfl) ?_
      refine lv_iload_n hx hb dX11_clans_22 rfl (lv_at hl 3 rfl) ?_
      refine q_cvV (As := [.int x3]) (rest := []) hC hS hl.1 (rX11_laySamples hp) cwX11_433 yvX11_laySamples (rcv_300 hC hS) rfl rfl (Nat.le_of_ble_eq_true rfl) (rmk (by decide) (by decide)) dX11_clans_23 (fun w_7 H locs hp hS => ?_)
      refine lv_aload_n hx hb dX11_clans_26 rfl (lv_at hl 0 rfl) ?_
      refine lv_iload_n hx hb dX11_clans_27 rfl (lv_at hl 1 rfl) ?_
      refine q_cvV (As := [.int x1]) (rest := []) hC hS hl.1 (rX11_layClans hp) cwX11_439 yvX11_layClans (rcv_300 hC hS) rfl rfl (Nat.le_of_ble_eq_true rfl) (rmk (by decide) (by decide)) dX11_clans_28 (fun w_8 H locs hp hS => ?_)
      refine lv_iconst hx hb dX11_clans_31 kI_0 ?_
      refine lv_istore (lv' := [(4, .int (0 : Int32)), (0, .ref (g.2.2 300)), (1, .int x1), (2, .int x2), (3, .int x3)]) hx hb dX11_clans_32 hl (by decide) rfl (fun ls hl => ?_)
      refine lv_iconst hx hb dX11_clans_34 kI_0 ?_
      refine lv_istore (lv' := [(5, .int (0 : Int32)), (4, .int (0 : Int32)), (0, .ref (g.2.2 300)), (1, .int x1), (2, .int x2), (3, .int x3)]) hx hb dX11_clans_35 hl (by decide) rfl (fun ls hl => ?_)
      refine lv_iconst hx hb dX11_clans_37 kI_0 ?_
      refine lv_istore (lv' := [(6, .int (0 : Int32)), (5, .int (0 : Int32)), (4, .int (0 : Int32)), (0, .ref (g.2.2 300)), (1, .int x1), (2, .int x2), (3, .int x3)]) hx hb dX11_clans_38 hl (by decide) rfl (fun ls hl => ?_)
      obtain ⟨n9, hp⟩ := hp
      exact bX11_clans_40 hC hR n9 x2 (0 : Int32) (0 : Int32) (0 : Int32) w_8 _ _ _ hp hS (lv_sub hl [3, 5, 2, 1, 0] rfl)
    · have hp := hp.2 c_6
      refine lv_iconst hx hb dX11_clans_19 kI_m1 ?_
      exact hR _ _ _ _ _ _ dX11_clans_20 hp hS
def pX11_origin_156 (k19 : Int32 → Int32 → Int32 → Int32 → Int32 → Wd → Prop) (post : Int32 → Wd → Prop) (x1 : Int32) (x2 : Int32) (x3 : Int32) (x5 : Int32) (t0 : Int32) (t1 : Int32) (w : Wd) : Prop := ∀ x4_1, x4_1 = (t0 + t1) → ∀ x5_2, x5_2 = x5 + (1 : Int32) → k19 x1 x2 x3 x4_1 x5_2 w
def pX11_origin_136 (k19 : Int32 → Int32 → Int32 → Int32 → Int32 → Wd → Prop) (post : Int32 → Wd → Prop) (x1 : Int32) (x2 : Int32) (x3 : Int32) (x4 : Int32) (x5 : Int32) (x6 : Int32) (x7 : Int32) (w : Wd) : Prop := (((2 : Int32) * x6) ≤ x7 → (pX11_origin_156 k19 post x1 x2 x3 x5 x4 ((2 : Int32) * x6) w)) ∧ (¬ ((2 : Int32) * x6) ≤ x7 → (pX11_origin_156 k19 post x1 x2 x3 x5 x4 x7 w))
def pX11_origin_114 (k37 : Int32 → Int32 → Int32 → Int32 → Int32 → Int32 → Int32 → Int32 → Wd → Prop) (post : Int32 → Wd → Prop) (x1 : Int32) (x2 : Int32) (x3 : Int32) (x4 : Int32) (x5 : Int32) (x6 : Int32) (x7 : Int32) (x8 : Int32) (w : Wd) : Prop := ∀ x8_1, x8_1 = x8 + (1 : Int32) → k37 x1 x2 x3 x4 x5 x6 x7 x8_1 w
def pX11_origin_92 (k37 : Int32 → Int32 → Int32 → Int32 → Int32 → Int32 → Int32 → Int32 → Wd → Prop) (post : Int32 → Wd → Prop) (x1 : Int32) (x2 : Int32) (x3 : Int32) (x4 : Int32) (x5 : Int32) (x6 : Int32) (x7 : Int32) (x8 : Int32) (t0 : Int32) (w : Wd) : Prop := (¬ ((t0 >>> (x5 &&& 31)) &&& (1 : Int32)) = (1 : Int32) → (∀ x7_2, x7_2 = x7 + (1 : Int32) → pX11_origin_114 k37 post x1 x2 x3 x4 x5 x6 x7_2 x8 w)) ∧ (((t0 >>> (x5 &&& 31)) &&& (1 : Int32)) = (1 : Int32) → (∀ x6_3, x6_3 = x6 + (1 : Int32) → pX11_origin_114 k37 post x1 x2 x3 x4 x5 x6_3 x7 x8 w))
def pX11_origin_37 (k19 : Int32 → Int32 → Int32 → Int32 → Int32 → Wd → Prop) (post : Int32 → Wd → Prop) : Nat → Int32 → Int32 → Int32 → Int32 → Int32 → Int32 → Int32 → Int32 → Wd → Prop
  | 0, _, _, _, _, _, _, _, _, _ => False
  | n + 1, x1, x2, x3, x4, x5, x6, x7, x8, w => ((w.1 300 58) ≤ x8 → ((((2 : Int32) * x6) ≤ x7 → (pX11_origin_136 k19 post x1 x2 x3 x4 x5 x6 x7 w)) ∧ (¬ ((2 : Int32) * x6) ≤ x7 → (∀ x3_3, x3_3 = (x3 ||| ((1 : Int32) <<< (x5 &&& 31))) → pX11_origin_136 k19 post x1 x2 x3_3 x4 x5 x6 x7 w)))) ∧ (¬ (w.1 300 58) ≤ x8 → (False))
def pX11_origin_19 (post : Int32 → Wd → Prop) : Nat → Int32 → Int32 → Int32 → Int32 → Int32 → Wd → Prop
  | 0, _, _, _, _, _, _ => False
  | n + 1, x1, x2, x3, x4, x5, w => pX11_width (fun r_1 w_2 => (r_1 ≤ x5 → ((¬ x1 = 0 → (post x4 w_2)) ∧ (x1 = 0 → (post x3 w_2)))) ∧ (¬ r_1 ≤ x5 → (∃ n9, pX11_origin_37 (pX11_origin_19 post n) post n9 x1 x2 x3 x4 x5 (0 : Int32) (0 : Int32) (0 : Int32) w_2))) w
def pX11_origin (post : Int32 → Wd → Prop) (x1 : Int32) (x2 : Int32) (w : Wd) : Prop := pX11_isIn (fun r_1 w_2 => (¬ r_1 = 0 → (∃ n9, pX11_origin_19 post n9 x1 x2 (0 : Int32) (0 : Int32) (0 : Int32) w_2)) ∧ (r_1 = 0 → (post (-1 : Int32) w_2))) x1 (0 : Int32) (1 : Int32) w
set_option maxHeartbeats 4000000 in
set_option maxRecDepth 100000 in
theorem bX11_origin_156 {p : Program} {l : Launch} {e : Env} {s : State} {m : MethodId} {args : Array Value} {below : List Frame} {meth : Method} {c : Code} {Q : State → Prop} {A : Nat → Prop} {g : Gw} {post : Int32 → Wd → Prop}  (hC : Cx p s m args c cX11_origin RX11 10 g) (hR : RtI tabM p l e (rk 3) s m args below meth c Q cX11_origin A g post)  {k19 : Int32 → Int32 → Int32 → Int32 → Int32 → Wd → Prop} (hk19 : ∀ (x1 : Int32) (x2 : Int32) (x3 : Int32) (x4 : Int32) (x5 : Int32) (w : Wd) (H : Heap) (locs : List Loc) (ls : Array Slot), k19 x1 x2 x3 x4 x5 w → St tabM A s.heap g w H locs → lv_has ls 10 [(0, .ref (g.2.2 300)), (1, .int x1), (2, .int x2), (3, .int x3), (4, .int x4), (5, .int x5)] → W p l e (rk 3) s m args below meth c H locs 0 0 Q (F0 m 19 ls [])) : ∀ (x1 : Int32) (x2 : Int32) (x3 : Int32) (x5 : Int32) (t0 : Int32) (t1 : Int32) (w : Wd) (H : Heap) (locs : List Loc) (ls : Array Slot), pX11_origin_156 k19 post x1 x2 x3 x5 t0 t1 w → St tabM A s.heap g w H locs → lv_has ls 10 [(0, .ref (g.2.2 300)), (1, .int x1), (2, .int x2), (3, .int x3), (5, .int x5)] → W p l e (rk 3) s m args below meth c H locs 0 0 Q (F0 m 156 ls [.int t1, .int t0]) := by
  have hx := hC.1
  have hb := hC.2.1
  intro x1 x2 x3 x5 t0 t1 w H locs ls hp hS hl
  unfold pX11_origin_156 at hp
  refine lv_iadd hx hb dX11_origin_156 ?_
  refine lv_topi (fun x4_1 ex4_1 => ?_)
  have hp := hp x4_1 ex4_1
  refine lv_istore (lv' := [(4, .int x4_1), (0, .ref (g.2.2 300)), (1, .int x1), (2, .int x2), (3, .int x3), (5, .int x5)]) hx hb dX11_origin_157 hl (by decide) rfl (fun ls hl => ?_)
  obtain ⟨x5_2, ex5_2⟩ : ∃ y : Int32, y = x5 + (1 : Int32) := ⟨_, rfl⟩
  have hp := hp x5_2 ex5_2
  refine lv_iinc (v := x5_2) (lv' := [(5, .int x5_2), (4, .int x4_1), (0, .ref (g.2.2 300)), (1, .int x1), (2, .int x2), (3, .int x3)]) hx hb dX11_origin_159 hl (k := 5) rfl (by rw [ex5_2]; rfl) (by decide) rfl (fun ls hl => ?_)
  refine lv_goto (tgt := 19) hx hb dX11_origin_162 (by decide) ?_
  exact hk19 x1 x2 x3 x4_1 x5_2 w _ _ _ hp hS (lv_sub hl [2, 3, 4, 5, 1, 0] rfl)
set_option maxHeartbeats 4000000 in
set_option maxRecDepth 100000 in
theorem bX11_origin_136 {p : Program} {l : Launch} {e : Env} {s : State} {m : MethodId} {args : Array Value} {below : List Frame} {meth : Method} {c : Code} {Q : State → Prop} {A : Nat → Prop} {g : Gw} {post : Int32 → Wd → Prop}  (hC : Cx p s m args c cX11_origin RX11 10 g) (hR : RtI tabM p l e (rk 3) s m args below meth c Q cX11_origin A g post)  {k19 : Int32 → Int32 → Int32 → Int32 → Int32 → Wd → Prop} (hk19 : ∀ (x1 : Int32) (x2 : Int32) (x3 : Int32) (x4 : Int32) (x5 : Int32) (w : Wd) (H : Heap) (locs : List Loc) (ls : Array Slot), k19 x1 x2 x3 x4 x5 w → St tabM A s.heap g w H locs → lv_has ls 10 [(0, .ref (g.2.2 300)), (1, .int x1), (2, .int x2), (3, .int x3), (4, .int x4), (5, .int x5)] → W p l e (rk 3) s m args below meth c H locs 0 0 Q (F0 m 19 ls [])) : ∀ (x1 : Int32) (x2 : Int32) (x3 : Int32) (x4 : Int32) (x5 : Int32) (x6 : Int32) (x7 : Int32) (w : Wd) (H : Heap) (locs : List Loc) (ls : Array Slot), pX11_origin_136 k19 post x1 x2 x3 x4 x5 x6 x7 w → St tabM A s.heap g w H locs → lv_has ls 10 [(0, .ref (g.2.2 300)), (1, .int x1), (2, .int x2), (3, .int x3), (4, .int x4), (5, .int x5), (6, .int x6), (7, .int x7)] → W p l e (rk 3) s m args below meth c H locs 0 0 Q (F0 m 136 ls []) := by
  have hx := hC.1
  have hb := hC.2.1
  intro x1 x2 x3 x4 x5 x6 x7 w H locs ls hp hS hl
  unfold pX11_origin_136 at hp
  refine lv_iload hx hb dX11_origin_136 (lv_at hl 4 rfl) ?_
  refine lv_iload hx hb dX11_origin_138 (lv_at hl 7 rfl) ?_
  refine lv_iconst hx hb dX11_origin_140 kI_2 ?_
  refine lv_iload hx hb dX11_origin_141 (lv_at hl 6 rfl) ?_
  refine lv_imul hx hb dX11_origin_143 ?_
  refine lv_icmp_ge (tgt := 152) hx hb dX11_origin_144 (by decide) (fun c_1 => ?_) (fun c_1 => ?_)
  · have hp := hp.1 c_1
    refine lv_iconst hx hb dX11_origin_152 kI_2 ?_
    refine lv_iload hx hb dX11_origin_153 (lv_at hl 6 rfl) ?_
    refine lv_imul hx hb dX11_origin_155 ?_
    exact bX11_origin_156 hC hR hk19 x1 x2 x3 x5 x4 ((2 : Int32) * x6) w _ _ _ hp hS (lv_sub hl [0, 1, 2, 3, 5] rfl)
  · have hp := hp.2 c_1
    refine lv_iload hx hb dX11_origin_147 (lv_at hl 7 rfl) ?_
    refine lv_goto (tgt := 156) hx hb dX11_origin_149 (by decide) ?_
    exact bX11_origin_156 hC hR hk19 x1 x2 x3 x5 x4 x7 w _ _ _ hp hS (lv_sub hl [0, 1, 2, 3, 5] rfl)
set_option maxHeartbeats 4000000 in
set_option maxRecDepth 100000 in
theorem bX11_origin_114 {p : Program} {l : Launch} {e : Env} {s : State} {m : MethodId} {args : Array Value} {below : List Frame} {meth : Method} {c : Code} {Q : State → Prop} {A : Nat → Prop} {g : Gw} {post : Int32 → Wd → Prop}  (hC : Cx p s m args c cX11_origin RX11 10 g) (hR : RtI tabM p l e (rk 3) s m args below meth c Q cX11_origin A g post)  {k37 : Int32 → Int32 → Int32 → Int32 → Int32 → Int32 → Int32 → Int32 → Wd → Prop} (hk37 : ∀ (x1 : Int32) (x2 : Int32) (x3 : Int32) (x4 : Int32) (x5 : Int32) (x6 : Int32) (x7 : Int32) (x8 : Int32) (w : Wd) (H : Heap) (locs : List Loc) (ls : Array Slot), k37 x1 x2 x3 x4 x5 x6 x7 x8 w → St tabM A s.heap g w H locs → lv_has ls 10 [(0, .ref (g.2.2 300)), (1, .int x1), (2, .int x2), (3, .int x3), (4, .int x4), (5, .int x5), (6, .int x6), (7, .int x7), (8, .int x8)] → W p l e (rk 3) s m args below meth c H locs 0 0 Q (F0 m 37 ls [])) : ∀ (x1 : Int32) (x2 : Int32) (x3 : Int32) (x4 : Int32) (x5 : Int32) (x6 : Int32) (x7 : Int32) (x8 : Int32) (w : Wd) (H : Heap) (locs : List Loc) (ls : Array Slot), pX11_origin_114 k37 post x1 x2 x3 x4 x5 x6 x7 x8 w → St tabM A s.heap g w H locs → lv_has ls 10 [(0, .ref (g.2.2 300)), (1, .int x1), (2, .int x2), (3, .int x3), (4, .int x4), (5, .int x5), (6, .int x6), (7, .int x7), (8, .int x8)] → W p l e (rk 3) s m args below meth c H locs 0 0 Q (F0 m 114 ls []) := by
  have hx := hC.1
  have hb := hC.2.1
  intro x1 x2 x3 x4 x5 x6 x7 x8 w H locs ls hp hS hl
  unfold pX11_origin_114 at hp
  obtain ⟨x8_1, ex8_1⟩ : ∃ y : Int32, y = x8 + (1 : Int32) := ⟨_, rfl⟩
  have hp := hp x8_1 ex8_1
  refine lv_iinc (v := x8_1) (lv' := [(8, .int x8_1), (0, .ref (g.2.2 300)), (1, .int x1), (2, .int x2), (3, .int x3), (4, .int x4), (5, .int x5), (6, .int x6), (7, .int x7)]) hx hb dX11_origin_114 hl (k := 8) rfl (by rw [ex8_1]; rfl) (by decide) rfl (fun ls hl => ?_)
  refine lv_goto (tgt := 37) hx hb dX11_origin_117 (by decide) ?_
  exact hk37 x1 x2 x3 x4 x5 x6 x7 x8_1 w _ _ _ hp hS (lv_sub hl [1, 2, 3, 4, 5, 6, 7, 8, 0] rfl)
set_option maxHeartbeats 4000000 in
set_option maxRecDepth 100000 in
theorem bX11_origin_92 {p : Program} {l : Launch} {e : Env} {s : State} {m : MethodId} {args : Array Value} {below : List Frame} {meth : Method} {c : Code} {Q : State → Prop} {A : Nat → Prop} {g : Gw} {post : Int32 → Wd → Prop}  (hC : Cx p s m args c cX11_origin RX11 10 g) (hR : RtI tabM p l e (rk 3) s m args below meth c Q cX11_origin A g post)  {k37 : Int32 → Int32 → Int32 → Int32 → Int32 → Int32 → Int32 → Int32 → Wd → Prop} (hk37 : ∀ (x1 : Int32) (x2 : Int32) (x3 : Int32) (x4 : Int32) (x5 : Int32) (x6 : Int32) (x7 : Int32) (x8 : Int32) (w : Wd) (H : Heap) (locs : List Loc) (ls : Array Slot), k37 x1 x2 x3 x4 x5 x6 x7 x8 w → St tabM A s.heap g w H locs → lv_has ls 10 [(0, .ref (g.2.2 300)), (1, .int x1), (2, .int x2), (3, .int x3), (4, .int x4), (5, .int x5), (6, .int x6), (7, .int x7), (8, .int x8)] → W p l e (rk 3) s m args below meth c H locs 0 0 Q (F0 m 37 ls [])) : ∀ (x1 : Int32) (x2 : Int32) (x3 : Int32) (x4 : Int32) (x5 : Int32) (x6 : Int32) (x7 : Int32) (x8 : Int32) (t0 : Int32) (w : Wd) (H : Heap) (locs : List Loc) (ls : Array Slot), pX11_origin_92 k37 post x1 x2 x3 x4 x5 x6 x7 x8 t0 w → St tabM A s.heap g w H locs → lv_has ls 10 [(0, .ref (g.2.2 300)), (1, .int x1), (2, .int x2), (3, .int x3), (4, .int x4), (5, .int x5), (6, .int x6), (7, .int x7), (8, .int x8)] → W p l e (rk 3) s m args below meth c H locs 0 0 Q (F0 m 92 ls [.int t0]) := by
  have hx := hC.1
  have hb := hC.2.1
  intro x1 x2 x3 x4 x5 x6 x7 x8 t0 w H locs ls hp hS hl
  unfold pX11_origin_92 at hp
  refine lv_istore (lv' := [(9, .int t0), (0, .ref (g.2.2 300)), (1, .int x1), (2, .int x2), (3, .int x3), (4, .int x4), (5, .int x5), (6, .int x6), (7, .int x7), (8, .int x8)]) hx hb dX11_origin_92 hl (by decide) rfl (fun ls hl => ?_)
  refine lv_iload hx hb dX11_origin_94 (lv_at hl 0 rfl) ?_
  refine lv_iload hx hb dX11_origin_96 (lv_at hl 6 rfl) ?_
  refine lv_ishr hx hb dX11_origin_98 ?_
  refine lv_iconst hx hb dX11_origin_99 kI_1 ?_
  refine lv_iand hx hb dX11_origin_100 ?_
  refine lv_iconst hx hb dX11_origin_101 kI_1 ?_
  refine lv_icmp_ne (tgt := 111) hx hb dX11_origin_102 (by decide) (fun c_1 => ?_) (fun c_1 => ?_)
  · have hp := hp.1 c_1
    obtain ⟨x7_2, ex7_2⟩ : ∃ y : Int32, y = x7 + (1 : Int32) := ⟨_, rfl⟩
    have hp := hp x7_2 ex7_2
    refine lv_iinc (v := x7_2) (lv' := [(7, .int x7_2), (9, .int t0), (0, .ref (g.2.2 300)), (1, .int x1), (2, .int x2), (3, .int x3), (4, .int x4), (5, .int x5), (6, .int x6), (8, .int x8)]) hx hb dX11_origin_111 hl (k := 8) rfl (by rw [ex7_2]; rfl) (by decide) rfl (fun ls hl => ?_)
    exact bX11_origin_114 hC hR hk37 x1 x2 x3 x4 x5 x6 x7_2 x8 w _ _ _ hp hS (lv_sub hl [2, 3, 4, 5, 6, 7, 8, 0, 9] rfl)
  · have hp := hp.2 c_1
    obtain ⟨x6_3, ex6_3⟩ : ∃ y : Int32, y = x6 + (1 : Int32) := ⟨_, rfl⟩
    have hp := hp x6_3 ex6_3
    refine lv_iinc (v := x6_3) (lv' := [(6, .int x6_3), (9, .int t0), (0, .ref (g.2.2 300)), (1, .int x1), (2, .int x2), (3, .int x3), (4, .int x4), (5, .int x5), (7, .int x7), (8, .int x8)]) hx hb dX11_origin_105 hl (k := 7) rfl (by rw [ex6_3]; rfl) (by decide) rfl (fun ls hl => ?_)
    refine lv_goto (tgt := 114) hx hb dX11_origin_108 (by decide) ?_
    exact bX11_origin_114 hC hR hk37 x1 x2 x3 x4 x5 x6_3 x7 x8 w _ _ _ hp hS (lv_sub hl [2, 3, 4, 5, 6, 7, 0, 8, 9] rfl)
set_option maxHeartbeats 4000000 in
set_option maxRecDepth 100000 in
theorem bX11_origin_37 {p : Program} {l : Launch} {e : Env} {s : State} {m : MethodId} {args : Array Value} {below : List Frame} {meth : Method} {c : Code} {Q : State → Prop} {A : Nat → Prop} {g : Gw} {post : Int32 → Wd → Prop}  (hC : Cx p s m args c cX11_origin RX11 10 g) (hR : RtI tabM p l e (rk 3) s m args below meth c Q cX11_origin A g post)  {k19 : Int32 → Int32 → Int32 → Int32 → Int32 → Wd → Prop} (hk19 : ∀ (x1 : Int32) (x2 : Int32) (x3 : Int32) (x4 : Int32) (x5 : Int32) (w : Wd) (H : Heap) (locs : List Loc) (ls : Array Slot), k19 x1 x2 x3 x4 x5 w → St tabM A s.heap g w H locs → lv_has ls 10 [(0, .ref (g.2.2 300)), (1, .int x1), (2, .int x2), (3, .int x3), (4, .int x4), (5, .int x5)] → W p l e (rk 3) s m args below meth c H locs 0 0 Q (F0 m 19 ls [])) : ∀ (n : Nat) (x1 : Int32) (x2 : Int32) (x3 : Int32) (x4 : Int32) (x5 : Int32) (x6 : Int32) (x7 : Int32) (x8 : Int32) (w : Wd) (H : Heap) (locs : List Loc) (ls : Array Slot), pX11_origin_37 k19 post n x1 x2 x3 x4 x5 x6 x7 x8 w → St tabM A s.heap g w H locs → lv_has ls 10 [(0, .ref (g.2.2 300)), (1, .int x1), (2, .int x2), (3, .int x3), (4, .int x4), (5, .int x5), (6, .int x6), (7, .int x7), (8, .int x8)] → W p l e (rk 3) s m args below meth c H locs 0 0 Q (F0 m 37 ls []) := by
  have hx := hC.1
  have hb := hC.2.1
  intro n
  induction n with
  | zero =>
    intro x1 x2 x3 x4 x5 x6 x7 x8 w H locs ls hp hS hl
    exact False.elim hp
  | succ n ih =>
    intro x1 x2 x3 x4 x5 x6 x7 x8 w H locs ls hp hS hl
    unfold pX11_origin_37 at hp
    refine lv_iload hx hb dX11_origin_37 (lv_at hl 8 rfl) ?_
    refine lv_aload_n hx hb dX11_origin_39 rfl (lv_at hl 0 rfl) ?_
    refine G_300_58 hC hS m311 dX11_origin_40 ?_
    refine lv_icmp_ge (tgt := 120) hx hb dX11_origin_43 (by decide) (fun c_1 => ?_) (fun c_1 => ?_)
    · have hp := hp.1 c_1
      refine lv_iload hx hb dX11_origin_120 (lv_at hl 7 rfl) ?_
      refine lv_iconst hx hb dX11_origin_122 kI_2 ?_
      refine lv_iload hx hb dX11_origin_123 (lv_at hl 6 rfl) ?_
      refine lv_imul hx hb dX11_origin_125 ?_
      refine lv_icmp_ge (tgt := 136) hx hb dX11_origin_126 (by decide) (fun c_2 => ?_) (fun c_2 => ?_)
      · have hp := hp.1 c_2
        exact bX11_origin_136 hC hR hk19 x1 x2 x3 x4 x5 x6 x7 w _ _ _ hp hS (lv_sub hl [0, 1, 2, 3, 4, 5, 6, 7] rfl)
      · have hp := hp.2 c_2
        refine lv_iload_n hx hb dX11_origin_129 rfl (lv_at hl 3 rfl) ?_
        refine lv_iconst hx hb dX11_origin_130 kI_1 ?_
        refine lv_iload hx hb dX11_origin_131 (lv_at hl 5 rfl) ?_
        refine lv_ishl hx hb dX11_origin_133 ?_
        refine lv_ior hx hb dX11_origin_134 ?_
        refine lv_topi (fun x3_3 ex3_3 => ?_)
        have hp := hp x3_3 ex3_3
        refine lv_istore_n (lv' := [(3, .int x3_3), (0, .ref (g.2.2 300)), (1, .int x1), (2, .int x2), (4, .int x4), (5, .int x5), (6, .int x6), (7, .int x7), (8, .int x8)]) hx hb dX11_origin_135 rfl hl (by decide) rfl (fun ls hl => ?_)
        exact bX11_origin_136 hC hR hk19 x1 x2 x3_3 x4 x5 x6 x7 w _ _ _ hp hS (lv_sub hl [1, 2, 3, 0, 4, 5, 6, 7] rfl)
    · have hp := hp.2 c_1
      refine lv_aload_n hx hb dX11_origin_46 rfl (lv_at hl 0 rfl) ?_
      refine lv_iload hx hb dX11_origin_47 (lv_at hl 8 rfl) ?_
      refine lv_iconst hx hb dX11_origin_49 kI_0 ?_
      refine lv_iload_n hx hb dX11_origin_50 rfl (lv_at hl 2 rfl) ?_
      exact False.elim hp
set_option maxHeartbeats 4000000 in
set_option maxRecDepth 100000 in
theorem bX11_origin_19 {p : Program} {l : Launch} {e : Env} {s : State} {m : MethodId} {args : Array Value} {below : List Frame} {meth : Method} {c : Code} {Q : State → Prop} {A : Nat → Prop} {g : Gw} {post : Int32 → Wd → Prop}  (hC : Cx p s m args c cX11_origin RX11 10 g) (hR : RtI tabM p l e (rk 3) s m args below meth c Q cX11_origin A g post)  : ∀ (n : Nat) (x1 : Int32) (x2 : Int32) (x3 : Int32) (x4 : Int32) (x5 : Int32) (w : Wd) (H : Heap) (locs : List Loc) (ls : Array Slot), pX11_origin_19 post n x1 x2 x3 x4 x5 w → St tabM A s.heap g w H locs → lv_has ls 10 [(0, .ref (g.2.2 300)), (1, .int x1), (2, .int x2), (3, .int x3), (4, .int x4), (5, .int x5)] → W p l e (rk 3) s m args below meth c H locs 0 0 Q (F0 m 19 ls []) := by
  have hx := hC.1
  have hb := hC.2.1
  intro n
  induction n with
  | zero =>
    intro x1 x2 x3 x4 x5 w H locs ls hp hS hl
    exact False.elim hp
  | succ n ih =>
    intro x1 x2 x3 x4 x5 w H locs ls hp hS hl
    unfold pX11_origin_19 at hp
    refine lv_iload hx hb dX11_origin_19 (lv_at hl 5 rfl) ?_
    refine lv_aload_n hx hb dX11_origin_21 rfl (lv_at hl 0 rfl) ?_
    refine q_cvI (As := []) (rest := [.int x5]) hC hS hl.1 (rX11_width hp) cwX11_342 yvX11_width (rcv_300 hC hS) rfl rfl (Nat.le_of_ble_eq_true rfl) (rmk (by decide) (by decide)) dX11_origin_22 (fun r_1 w_2 H locs hp hS => ?_)
    refine lv_icmp_ge (tgt := 165) hx hb dX11_origin_25 (by decide) (fun c_3 => ?_) (fun c_3 => ?_)
    · have hp := hp.1 c_3
      refine lv_iload_n hx hb dX11_origin_165 rfl (lv_at hl 1 rfl) ?_
      refine lv_if_ne (tgt := 173) hx hb dX11_origin_166 (by decide) (fun c_4 => ?_) (fun c_4 => ?_)
      · have hp := hp.1 c_4
        refine lv_iload hx hb dX11_origin_173 (lv_at hl 4 rfl) ?_
        exact hR _ _ _ _ _ _ dX11_origin_175 hp hS
      · have hp := hp.2 c_4
        refine lv_iload_n hx hb dX11_origin_169 rfl (lv_at hl 3 rfl) ?_
        refine lv_goto (tgt := 175) hx hb dX11_origin_170 (by decide) ?_
        exact hR _ _ _ _ _ _ dX11_origin_175 hp hS
    · have hp := hp.2 c_3
      refine lv_iconst hx hb dX11_origin_28 kI_0 ?_
      refine lv_istore (lv' := [(6, .int (0 : Int32)), (0, .ref (g.2.2 300)), (1, .int x1), (2, .int x2), (3, .int x3), (4, .int x4), (5, .int x5)]) hx hb dX11_origin_29 hl (by decide) rfl (fun ls hl => ?_)
      refine lv_iconst hx hb dX11_origin_31 kI_0 ?_
      refine lv_istore (lv' := [(7, .int (0 : Int32)), (6, .int (0 : Int32)), (0, .ref (g.2.2 300)), (1, .int x1), (2, .int x2), (3, .int x3), (4, .int x4), (5, .int x5)]) hx hb dX11_origin_32 hl (by decide) rfl (fun ls hl => ?_)
      refine lv_iconst hx hb dX11_origin_34 kI_0 ?_
      refine lv_istore (lv' := [(8, .int (0 : Int32)), (7, .int (0 : Int32)), (6, .int (0 : Int32)), (0, .ref (g.2.2 300)), (1, .int x1), (2, .int x2), (3, .int x3), (4, .int x4), (5, .int x5)]) hx hb dX11_origin_35 hl (by decide) rfl (fun ls hl => ?_)
      obtain ⟨n9, hp⟩ := hp
      exact bX11_origin_37 hC hR ih n9 x1 x2 x3 x4 x5 (0 : Int32) (0 : Int32) (0 : Int32) w_2 _ _ _ hp hS (lv_sub hl [3, 4, 5, 6, 7, 8, 2, 1, 0] rfl)
set_option maxHeartbeats 4000000 in
set_option maxRecDepth 100000 in
theorem rX11_origin {l : Launch} {g : Gw} {w : Wd} {post : Int32 → Wd → Prop}   {x1 : Int32} {x2 : Int32} (hp : pX11_origin post x1 x2 w) : MtI tabM l yX11_origin cX11_origin 10 (some .int) 3 g w [.ref (g.2.2 300), .int x1, .int x2] post := by
  refine q_entI tabM_nd (by decide) rfl (Nat.le_of_ble_eq_true rfl) ?_
  intro p e s m args below meth c A Q ls hC hR hS hl
  have hx := hC.1
  have hb := hC.2.1
  have hl : lv_has ls 10 [(0, .ref (g.2.2 300)), (1, .int x1), (2, .int x2)] := hl
  unfold pX11_origin at hp
  refine lv_iload_n hx hb dX11_origin_0 rfl (lv_at hl 1 rfl) ?_
  refine lv_iconst hx hb dX11_origin_1 kI_0 ?_
  refine lv_iconst hx hb dX11_origin_2 kI_1 ?_
  refine q_csI (As := [.int x1, .int (0 : Int32), .int (1 : Int32)]) (rest := []) hC hS hl.1 (rX11_isIn hp) cwX11_345 ysX11_isIn rfl rfl (Nat.le_of_ble_eq_true rfl) (rmk (by decide) (by decide)) dX11_origin_3 (fun r_1 w_2 H locs hp hS => ?_)
  refine lv_if_ne (tgt := 11) hx hb dX11_origin_6 (by decide) (fun c_3 => ?_) (fun c_3 => ?_)
  · have hp := hp.1 c_3
    refine lv_iconst hx hb dX11_origin_11 kI_0 ?_
    refine lv_istore_n (lv' := [(3, .int (0 : Int32)), (0, .ref (g.2.2 300)), (1, .int x1), (2, .int x2)]) hx hb dX11_origin_12 rfl hl (by decide) rfl (fun ls hl => ?_)
    refine lv_iconst hx hb dX11_origin_13 kI_0 ?_
    refine lv_istore (lv' := [(4, .int (0 : Int32)), (3, .int (0 : Int32)), (0, .ref (g.2.2 300)), (1, .int x1), (2, .int x2)]) hx hb dX11_origin_14 hl (by decide) rfl (fun ls hl => ?_)
    refine lv_iconst hx hb dX11_origin_16 kI_0 ?_
    refine lv_istore (lv' := [(5, .int (0 : Int32)), (4, .int (0 : Int32)), (3, .int (0 : Int32)), (0, .ref (g.2.2 300)), (1, .int x1), (2, .int x2)]) hx hb dX11_origin_17 hl (by decide) rfl (fun ls hl => ?_)
    obtain ⟨n9, hp⟩ := hp
    exact bX11_origin_19 hC hR n9 x1 x2 (0 : Int32) (0 : Int32) (0 : Int32) w_2 _ _ _ hp hS (lv_sub hl [3, 4, 5, 2, 1, 0] rfl)
  · have hp := hp.2 c_3
    refine lv_iconst hx hb dX11_origin_9 kI_m1 ?_
    exact hR _ _ _ _ _ _ dX11_origin_10 hp hS
def pX11_falses_73 (k9 : Int32 → Int32 → Int32 → Wd → Prop) (post : Int32 → Wd → Prop) (x1 : Int32) (x2 : Int32) (x3 : Int32) (w : Wd) : Prop := ∀ x3_1, x3_1 = x3 + (1 : Int32) → k9 x1 x2 x3_1 w
def pX11_falses_9 (post : Int32 → Wd → Prop) : Nat → Int32 → Int32 → Int32 → Wd → Prop
  | 0, _, _, _, _ => False
  | n + 1, x1, x2, x3, w => ((w.1 300 58) ≤ x3 → (post x2 w)) ∧ (¬ (w.1 300 58) ≤ x3 → (False))
def pX11_falses (post : Int32 → Wd → Prop) (x1 : Int32) (w : Wd) : Prop := ∀ w_1, w_1 = sI w 300 48 (0 : Int32) → ∃ n9, pX11_falses_9 post n9 x1 (0 : Int32) (0 : Int32) w_1
set_option maxHeartbeats 4000000 in
set_option maxRecDepth 100000 in
theorem bX11_falses_73 {p : Program} {l : Launch} {e : Env} {s : State} {m : MethodId} {args : Array Value} {below : List Frame} {meth : Method} {c : Code} {Q : State → Prop} {A : Nat → Prop} {g : Gw} {post : Int32 → Wd → Prop}  (hC : Cx p s m args c cX11_falses RX11 4 g) (hR : RtI tabM p l e (rk 1) s m args below meth c Q cX11_falses A g post)  {k9 : Int32 → Int32 → Int32 → Wd → Prop} (hk9 : ∀ (x1 : Int32) (x2 : Int32) (x3 : Int32) (w : Wd) (H : Heap) (locs : List Loc) (ls : Array Slot), k9 x1 x2 x3 w → St tabM A s.heap g w H locs → lv_has ls 4 [(0, .ref (g.2.2 300)), (1, .int x1), (2, .int x2), (3, .int x3)] → W p l e (rk 1) s m args below meth c H locs 0 0 Q (F0 m 9 ls [])) : ∀ (x1 : Int32) (x2 : Int32) (x3 : Int32) (w : Wd) (H : Heap) (locs : List Loc) (ls : Array Slot), pX11_falses_73 k9 post x1 x2 x3 w → St tabM A s.heap g w H locs → lv_has ls 4 [(0, .ref (g.2.2 300)), (1, .int x1), (2, .int x2), (3, .int x3)] → W p l e (rk 1) s m args below meth c H locs 0 0 Q (F0 m 73 ls []) := by
  have hx := hC.1
  have hb := hC.2.1
  intro x1 x2 x3 w H locs ls hp hS hl
  unfold pX11_falses_73 at hp
  obtain ⟨x3_1, ex3_1⟩ : ∃ y : Int32, y = x3 + (1 : Int32) := ⟨_, rfl⟩
  have hp := hp x3_1 ex3_1
  refine lv_iinc (v := x3_1) (lv' := [(3, .int x3_1), (0, .ref (g.2.2 300)), (1, .int x1), (2, .int x2)]) hx hb dX11_falses_73 hl (k := 3) rfl (by rw [ex3_1]; rfl) (by decide) rfl (fun ls hl => ?_)
  refine lv_goto (tgt := 9) hx hb dX11_falses_76 (by decide) ?_
  exact hk9 x1 x2 x3_1 w _ _ _ hp hS (lv_sub hl [1, 2, 3, 0] rfl)
set_option maxHeartbeats 4000000 in
set_option maxRecDepth 100000 in
theorem bX11_falses_9 {p : Program} {l : Launch} {e : Env} {s : State} {m : MethodId} {args : Array Value} {below : List Frame} {meth : Method} {c : Code} {Q : State → Prop} {A : Nat → Prop} {g : Gw} {post : Int32 → Wd → Prop}  (hC : Cx p s m args c cX11_falses RX11 4 g) (hR : RtI tabM p l e (rk 1) s m args below meth c Q cX11_falses A g post)  : ∀ (n : Nat) (x1 : Int32) (x2 : Int32) (x3 : Int32) (w : Wd) (H : Heap) (locs : List Loc) (ls : Array Slot), pX11_falses_9 post n x1 x2 x3 w → St tabM A s.heap g w H locs → lv_has ls 4 [(0, .ref (g.2.2 300)), (1, .int x1), (2, .int x2), (3, .int x3)] → W p l e (rk 1) s m args below meth c H locs 0 0 Q (F0 m 9 ls []) := by
  have hx := hC.1
  have hb := hC.2.1
  intro n
  induction n with
  | zero =>
    intro x1 x2 x3 w H locs ls hp hS hl
    exact False.elim hp
  | succ n ih =>
    intro x1 x2 x3 w H locs ls hp hS hl
    unfold pX11_falses_9 at hp
    refine lv_iload_n hx hb dX11_falses_9 rfl (lv_at hl 3 rfl) ?_
    refine lv_aload_n hx hb dX11_falses_10 rfl (lv_at hl 0 rfl) ?_
    refine G_300_58 hC hS m311 dX11_falses_11 ?_
    refine lv_icmp_ge (tgt := 79) hx hb dX11_falses_14 (by decide) (fun c_1 => ?_) (fun c_1 => ?_)
    · have hp := hp.1 c_1
      refine lv_iload_n hx hb dX11_falses_79 rfl (lv_at hl 2 rfl) ?_
      exact hR _ _ _ _ _ _ dX11_falses_80 hp hS
    · have hp := hp.2 c_1
      refine lv_aload_n hx hb dX11_falses_17 rfl (lv_at hl 0 rfl) ?_
      refine lv_iload_n hx hb dX11_falses_18 rfl (lv_at hl 3 rfl) ?_
      refine lv_iconst hx hb dX11_falses_19 kI_1 ?_
      refine lv_iload_n hx hb dX11_falses_20 rfl (lv_at hl 1 rfl) ?_
      exact False.elim hp
set_option maxHeartbeats 4000000 in
set_option maxRecDepth 100000 in
theorem rX11_falses {l : Launch} {g : Gw} {w : Wd} {post : Int32 → Wd → Prop}   {x1 : Int32} (hp : pX11_falses post x1 w) : MtI tabM l yX11_falses cX11_falses 4 (some .int) 1 g w [.ref (g.2.2 300), .int x1] post := by
  refine q_entI tabM_nd (by decide) rfl (Nat.le_of_ble_eq_true rfl) ?_
  intro p e s m args below meth c A Q ls hC hR hS hl
  have hx := hC.1
  have hb := hC.2.1
  have hl : lv_has ls 4 [(0, .ref (g.2.2 300)), (1, .int x1)] := hl
  unfold pX11_falses at hp
  refine lv_aload_n hx hb dX11_falses_0 rfl (lv_at hl 0 rfl) ?_
  refine lv_iconst hx hb dX11_falses_1 kI_0 ?_
  refine P_300_48 hC hS m312 dX11_falses_2 (fun w_1 H locs ew_1 hS => ?_)
  have hp := hp w_1 ew_1
  refine lv_iconst hx hb dX11_falses_5 kI_0 ?_
  refine lv_istore_n (lv' := [(2, .int (0 : Int32)), (0, .ref (g.2.2 300)), (1, .int x1)]) hx hb dX11_falses_6 rfl hl (by decide) rfl (fun ls hl => ?_)
  refine lv_iconst hx hb dX11_falses_7 kI_0 ?_
  refine lv_istore_n (lv' := [(3, .int (0 : Int32)), (2, .int (0 : Int32)), (0, .ref (g.2.2 300)), (1, .int x1)]) hx hb dX11_falses_8 rfl hl (by decide) rfl (fun ls hl => ?_)
  obtain ⟨n9, hp⟩ := hp
  exact bX11_falses_9 hC hR n9 x1 (0 : Int32) (0 : Int32) w_1 _ _ _ hp hS (lv_sub hl [2, 3, 1, 0] rfl)
def pX11_span_137 (k36 : Int32 → Int32 → Int32 → Int32 → Int32 → Int32 → Wd → Prop) (post : Int32 → Wd → Prop) (x1 : Int32) (x2 : Int32) (x3 : Int32) (x4 : Int32) (x5 : Int32) (x6 : Int32) (w : Wd) : Prop := ∀ x6_1, x6_1 = x6 + (1 : Int32) → k36 x1 x2 x3 x4 x5 x6_1 w
def pX11_span_106 (k36 : Int32 → Int32 → Int32 → Int32 → Int32 → Int32 → Wd → Prop) (post : Int32 → Wd → Prop) (x1 : Int32) (x2 : Int32) (x3 : Int32) (x4 : Int32) (x5 : Int32) (x6 : Int32) (w : Wd) : Prop := vp_in x6 40 ∧ (¬ (w.2.1 356 x6.toNatClampNeg) = 0 → (pX11_span_137 k36 post x1 x2 x3 x4 x5 x6 w)) ∧ ((w.2.1 356 x6.toNatClampNeg) = 0 → (vp_in x6 40 ∧ (x5 ≤ (w.2.1 355 x6.toNatClampNeg) → (pX11_span_137 k36 post x1 x2 x3 x4 x5 x6 w)) ∧ (¬ x5 ≤ (w.2.1 355 x6.toNatClampNeg) → (vp_in x6 40 ∧ ∀ x5_3, x5_3 = (w.2.1 355 x6.toNatClampNeg) → pX11_span_137 k36 post x1 x2 x3 x4 x5_3 x6 w))))
def pX11_span_36 (post : Int32 → Wd → Prop) : Nat → Int32 → Int32 → Int32 → Int32 → Int32 → Int32 → Wd → Prop
  | 0, _, _, _, _, _, _, _ => False
  | n + 1, x1, x2, x3, x4, x5, x6, w => ((w.1 300 58) ≤ x6 → ((¬ x2 = (2 : Int32) → ((x4 ≤ x5 → ((¬ x2 = 0 → (post x5 w)) ∧ (x2 = 0 → (post x4 w)))) ∧ (¬ x4 ≤ x5 → (post (-1 : Int32) w)))) ∧ (x2 = (2 : Int32) → ((x4 ≤ x5 → (post ((x5 - x4) + (1 : Int32)) w)) ∧ (¬ x4 ≤ x5 → (post (0 : Int32) w)))))) ∧ (¬ (w.1 300 58) ≤ x6 → (False))
def pX11_span (post : Int32 → Wd → Prop) (x1 : Int32) (x2 : Int32) (x3 : Int32) (w : Wd) : Prop := pX11_width (fun r_1 w_2 => pX11_isIn (fun r_3 w_4 => (r_3 = 0 → (post (-1 : Int32) w_4)) ∧ (¬ r_3 = 0 → (pX11_isIn (fun r_6 w_7 => (¬ r_6 = 0 → (∃ n9, pX11_span_36 post n9 x1 x2 x3 (0 : Int32) (999 : Int32) (0 : Int32) w_7)) ∧ (r_6 = 0 → (post (-1 : Int32) w_7))) x2 (0 : Int32) (2 : Int32) w_4))) x1 (0 : Int32) (r_1 - (1 : Int32)) w_2) w
set_option maxHeartbeats 4000000 in
set_option maxRecDepth 100000 in
theorem bX11_span_137 {p : Program} {l : Launch} {e : Env} {s : State} {m : MethodId} {args : Array Value} {below : List Frame} {meth : Method} {c : Code} {Q : State → Prop} {A : Nat → Prop} {g : Gw} {post : Int32 → Wd → Prop}  (hC : Cx p s m args c cX11_span RX11 7 g) (hR : RtI tabM p l e (rk 2) s m args below meth c Q cX11_span A g post)  {k36 : Int32 → Int32 → Int32 → Int32 → Int32 → Int32 → Wd → Prop} (hk36 : ∀ (x1 : Int32) (x2 : Int32) (x3 : Int32) (x4 : Int32) (x5 : Int32) (x6 : Int32) (w : Wd) (H : Heap) (locs : List Loc) (ls : Array Slot), k36 x1 x2 x3 x4 x5 x6 w → St tabM A s.heap g w H locs → lv_has ls 7 [(0, .ref (g.2.2 300)), (1, .int x1), (2, .int x2), (3, .int x3), (4, .int x4), (5, .int x5), (6, .int x6)] → W p l e (rk 2) s m args below meth c H locs 0 0 Q (F0 m 36 ls [])) : ∀ (x1 : Int32) (x2 : Int32) (x3 : Int32) (x4 : Int32) (x5 : Int32) (x6 : Int32) (w : Wd) (H : Heap) (locs : List Loc) (ls : Array Slot), pX11_span_137 k36 post x1 x2 x3 x4 x5 x6 w → St tabM A s.heap g w H locs → lv_has ls 7 [(0, .ref (g.2.2 300)), (1, .int x1), (2, .int x2), (3, .int x3), (4, .int x4), (5, .int x5), (6, .int x6)] → W p l e (rk 2) s m args below meth c H locs 0 0 Q (F0 m 137 ls []) := by
  have hx := hC.1
  have hb := hC.2.1
  intro x1 x2 x3 x4 x5 x6 w H locs ls hp hS hl
  unfold pX11_span_137 at hp
  obtain ⟨x6_1, ex6_1⟩ : ∃ y : Int32, y = x6 + (1 : Int32) := ⟨_, rfl⟩
  have hp := hp x6_1 ex6_1
  refine lv_iinc (v := x6_1) (lv' := [(6, .int x6_1), (0, .ref (g.2.2 300)), (1, .int x1), (2, .int x2), (3, .int x3), (4, .int x4), (5, .int x5)]) hx hb dX11_span_137 hl (k := 6) rfl (by rw [ex6_1]; rfl) (by decide) rfl (fun ls hl => ?_)
  refine lv_goto (tgt := 36) hx hb dX11_span_140 (by decide) ?_
  exact hk36 x1 x2 x3 x4 x5 x6_1 w _ _ _ hp hS (lv_sub hl [1, 2, 3, 4, 5, 6, 0] rfl)
set_option maxHeartbeats 4000000 in
set_option maxRecDepth 100000 in
theorem bX11_span_106 {p : Program} {l : Launch} {e : Env} {s : State} {m : MethodId} {args : Array Value} {below : List Frame} {meth : Method} {c : Code} {Q : State → Prop} {A : Nat → Prop} {g : Gw} {post : Int32 → Wd → Prop}  (hC : Cx p s m args c cX11_span RX11 7 g) (hR : RtI tabM p l e (rk 2) s m args below meth c Q cX11_span A g post)  {k36 : Int32 → Int32 → Int32 → Int32 → Int32 → Int32 → Wd → Prop} (hk36 : ∀ (x1 : Int32) (x2 : Int32) (x3 : Int32) (x4 : Int32) (x5 : Int32) (x6 : Int32) (w : Wd) (H : Heap) (locs : List Loc) (ls : Array Slot), k36 x1 x2 x3 x4 x5 x6 w → St tabM A s.heap g w H locs → lv_has ls 7 [(0, .ref (g.2.2 300)), (1, .int x1), (2, .int x2), (3, .int x3), (4, .int x4), (5, .int x5), (6, .int x6)] → W p l e (rk 2) s m args below meth c H locs 0 0 Q (F0 m 36 ls [])) : ∀ (x1 : Int32) (x2 : Int32) (x3 : Int32) (x4 : Int32) (x5 : Int32) (x6 : Int32) (w : Wd) (H : Heap) (locs : List Loc) (ls : Array Slot), pX11_span_106 k36 post x1 x2 x3 x4 x5 x6 w → St tabM A s.heap g w H locs → lv_has ls 7 [(0, .ref (g.2.2 300)), (1, .int x1), (2, .int x2), (3, .int x3), (4, .int x4), (5, .int x5), (6, .int x6)] → W p l e (rk 2) s m args below meth c H locs 0 0 Q (F0 m 106 ls []) := by
  have hx := hC.1
  have hb := hC.2.1
  intro x1 x2 x3 x4 x5 x6 w H locs ls hp hS hl
  unfold pX11_span_106 at hp
  refine lv_aload_n hx hb dX11_span_106 rfl (lv_at hl 0 rfl) ?_
  refine G_300_55 hC hS m287 dX11_span_107 ?_
  refine lv_iload hx hb dX11_span_110 (lv_at hl 6 rfl) ?_
  refine La_356 hC hS hp.1 dX11_span_112 ?_
  have hp := hp.2
  refine lv_if_ne (tgt := 137) hx hb dX11_span_113 (by decide) (fun c_1 => ?_) (fun c_1 => ?_)
  · have hp := hp.1 c_1
    exact bX11_span_137 hC hR hk36 x1 x2 x3 x4 x5 x6 w _ _ _ hp hS (lv_sub hl [0, 1, 2, 3, 4, 5, 6] rfl)
  · have hp := hp.2 c_1
    refine lv_aload_n hx hb dX11_span_116 rfl (lv_at hl 0 rfl) ?_
    refine G_300_54 hC hS m286 dX11_span_117 ?_
    refine lv_iload hx hb dX11_span_120 (lv_at hl 6 rfl) ?_
    refine La_355 hC hS hp.1 dX11_span_122 ?_
    have hp := hp.2
    refine lv_iload hx hb dX11_span_123 (lv_at hl 5 rfl) ?_
    refine lv_icmp_ge (tgt := 137) hx hb dX11_span_125 (by decide) (fun c_2 => ?_) (fun c_2 => ?_)
    · have hp := hp.1 c_2
      exact bX11_span_137 hC hR hk36 x1 x2 x3 x4 x5 x6 w _ _ _ hp hS (lv_sub hl [0, 1, 2, 3, 4, 5, 6] rfl)
    · have hp := hp.2 c_2
      refine lv_aload_n hx hb dX11_span_128 rfl (lv_at hl 0 rfl) ?_
      refine G_300_54 hC hS m286 dX11_span_129 ?_
      refine lv_iload hx hb dX11_span_132 (lv_at hl 6 rfl) ?_
      refine La_355 hC hS hp.1 dX11_span_134 ?_
      have hp := hp.2
      refine lv_topi (fun x5_3 ex5_3 => ?_)
      have hp := hp x5_3 ex5_3
      refine lv_istore (lv' := [(5, .int x5_3), (0, .ref (g.2.2 300)), (1, .int x1), (2, .int x2), (3, .int x3), (4, .int x4), (6, .int x6)]) hx hb dX11_span_135 hl (by decide) rfl (fun ls hl => ?_)
      exact bX11_span_137 hC hR hk36 x1 x2 x3 x4 x5_3 x6 w _ _ _ hp hS (lv_sub hl [1, 2, 3, 4, 5, 0, 6] rfl)
set_option maxHeartbeats 4000000 in
set_option maxRecDepth 100000 in
theorem bX11_span_36 {p : Program} {l : Launch} {e : Env} {s : State} {m : MethodId} {args : Array Value} {below : List Frame} {meth : Method} {c : Code} {Q : State → Prop} {A : Nat → Prop} {g : Gw} {post : Int32 → Wd → Prop}  (hC : Cx p s m args c cX11_span RX11 7 g) (hR : RtI tabM p l e (rk 2) s m args below meth c Q cX11_span A g post)  : ∀ (n : Nat) (x1 : Int32) (x2 : Int32) (x3 : Int32) (x4 : Int32) (x5 : Int32) (x6 : Int32) (w : Wd) (H : Heap) (locs : List Loc) (ls : Array Slot), pX11_span_36 post n x1 x2 x3 x4 x5 x6 w → St tabM A s.heap g w H locs → lv_has ls 7 [(0, .ref (g.2.2 300)), (1, .int x1), (2, .int x2), (3, .int x3), (4, .int x4), (5, .int x5), (6, .int x6)] → W p l e (rk 2) s m args below meth c H locs 0 0 Q (F0 m 36 ls []) := by
  have hx := hC.1
  have hb := hC.2.1
  intro n
  induction n with
  | zero =>
    intro x1 x2 x3 x4 x5 x6 w H locs ls hp hS hl
    exact False.elim hp
  | succ n ih =>
    intro x1 x2 x3 x4 x5 x6 w H locs ls hp hS hl
    unfold pX11_span_36 at hp
    refine lv_iload hx hb dX11_span_36 (lv_at hl 6 rfl) ?_
    refine lv_aload_n hx hb dX11_span_38 rfl (lv_at hl 0 rfl) ?_
    refine G_300_58 hC hS m311 dX11_span_39 ?_
    refine lv_icmp_ge (tgt := 143) hx hb dX11_span_42 (by decide) (fun c_1 => ?_) (fun c_1 => ?_)
    · have hp := hp.1 c_1
      refine lv_iload_n hx hb dX11_span_143 rfl (lv_at hl 2 rfl) ?_
      refine lv_iconst hx hb dX11_span_144 kI_2 ?_
      refine lv_icmp_ne (tgt := 167) hx hb dX11_span_145 (by decide) (fun c_2 => ?_) (fun c_2 => ?_)
      · have hp := hp.1 c_2
        refine lv_iload hx hb dX11_span_167 (lv_at hl 5 rfl) ?_
        refine lv_iload hx hb dX11_span_169 (lv_at hl 4 rfl) ?_
        refine lv_icmp_ge (tgt := 178) hx hb dX11_span_171 (by decide) (fun c_3 => ?_) (fun c_3 => ?_)
        · have hp := hp.1 c_3
          refine lv_iload_n hx hb dX11_span_178 rfl (lv_at hl 2 rfl) ?_
          refine lv_if_ne (tgt := 187) hx hb dX11_span_179 (by decide) (fun c_4 => ?_) (fun c_4 => ?_)
          · have hp := hp.1 c_4
            refine lv_iload hx hb dX11_span_187 (lv_at hl 5 rfl) ?_
            exact hR _ _ _ _ _ _ dX11_span_189 hp hS
          · have hp := hp.2 c_4
            refine lv_iload hx hb dX11_span_182 (lv_at hl 4 rfl) ?_
            refine lv_goto (tgt := 189) hx hb dX11_span_184 (by decide) ?_
            exact hR _ _ _ _ _ _ dX11_span_189 hp hS
        · have hp := hp.2 c_3
          refine lv_iconst hx hb dX11_span_174 kI_m1 ?_
          refine lv_goto (tgt := 189) hx hb dX11_span_175 (by decide) ?_
          exact hR _ _ _ _ _ _ dX11_span_189 hp hS
      · have hp := hp.2 c_2
        refine lv_iload hx hb dX11_span_148 (lv_at hl 5 rfl) ?_
        refine lv_iload hx hb dX11_span_150 (lv_at hl 4 rfl) ?_
        refine lv_icmp_ge (tgt := 159) hx hb dX11_span_152 (by decide) (fun c_5 => ?_) (fun c_5 => ?_)
        · have hp := hp.1 c_5
          refine lv_iload hx hb dX11_span_159 (lv_at hl 5 rfl) ?_
          refine lv_iload hx hb dX11_span_161 (lv_at hl 4 rfl) ?_
          refine lv_isub hx hb dX11_span_163 ?_
          refine lv_iconst hx hb dX11_span_164 kI_1 ?_
          refine lv_iadd hx hb dX11_span_165 ?_
          exact hR _ _ _ _ _ _ dX11_span_166 hp hS
        · have hp := hp.2 c_5
          refine lv_iconst hx hb dX11_span_155 kI_0 ?_
          refine lv_goto (tgt := 166) hx hb dX11_span_156 (by decide) ?_
          exact hR _ _ _ _ _ _ dX11_span_166 hp hS
    · have hp := hp.2 c_1
      refine lv_aload_n hx hb dX11_span_45 rfl (lv_at hl 0 rfl) ?_
      refine lv_iload hx hb dX11_span_46 (lv_at hl 6 rfl) ?_
      refine lv_iconst hx hb dX11_span_48 kI_2 ?_
      refine lv_iload_n hx hb dX11_span_49 rfl (lv_at hl 3 rfl) ?_
      exact False.elim hp
set_option maxHeartbeats 4000000 in
set_option maxRecDepth 100000 in
theorem rX11_span {l : Launch} {g : Gw} {w : Wd} {post : Int32 → Wd → Prop}   {x1 : Int32} {x2 : Int32} {x3 : Int32} (hp : pX11_span post x1 x2 x3 w) : MtI tabM l yX11_span cX11_span 7 (some .int) 2 g w [.ref (g.2.2 300), .int x1, .int x2, .int x3] post := by
  refine q_entI tabM_nd (by decide) rfl (Nat.le_of_ble_eq_true rfl) ?_
  intro p e s m args below meth c A Q ls hC hR hS hl
  have hx := hC.1
  have hb := hC.2.1
  have hl : lv_has ls 7 [(0, .ref (g.2.2 300)), (1, .int x1), (2, .int x2), (3, .int x3)] := hl
  unfold pX11_span at hp
  refine lv_iload_n hx hb dX11_span_0 rfl (lv_at hl 1 rfl) ?_
  refine lv_iconst hx hb dX11_span_1 kI_0 ?_
  refine lv_aload_n hx hb dX11_span_2 rfl (lv_at hl 0 rfl) ?_
  refine q_cvI (As := []) (rest := [.int (0 : Int32), .int x1]) hC hS hl.1 (rX11_width hp) cwX11_342 yvX11_width (rcv_300 hC hS) rfl rfl (Nat.le_of_ble_eq_true rfl) (rmk (by decide) (by decide)) dX11_span_3 (fun r_1 w_2 H locs hp hS => ?_)
  refine lv_iconst hx hb dX11_span_6 kI_1 ?_
  refine lv_isub hx hb dX11_span_7 ?_
  refine q_csI (As := [.int x1, .int (0 : Int32), .int (r_1 - (1 : Int32))]) (rest := []) hC hS hl.1 (rX11_isIn hp) cwX11_345 ysX11_isIn rfl rfl (Nat.le_of_ble_eq_true rfl) (rmk (by decide) (by decide)) dX11_span_8 (fun r_3 w_4 H locs hp hS => ?_)
  refine lv_if_eq (tgt := 23) hx hb dX11_span_11 (by decide) (fun c_5 => ?_) (fun c_5 => ?_)
  · have hp := hp.1 c_5
    refine lv_iconst hx hb dX11_span_23 kI_m1 ?_
    exact hR _ _ _ _ _ _ dX11_span_24 hp hS
  · have hp := hp.2 c_5
    refine lv_iload_n hx hb dX11_span_14 rfl (lv_at hl 2 rfl) ?_
    refine lv_iconst hx hb dX11_span_15 kI_0 ?_
    refine lv_iconst hx hb dX11_span_16 kI_2 ?_
    refine q_csI (As := [.int x2, .int (0 : Int32), .int (2 : Int32)]) (rest := []) hC hS hl.1 (rX11_isIn hp) cwX11_345 ysX11_isIn rfl rfl (Nat.le_of_ble_eq_true rfl) (rmk (by decide) (by decide)) dX11_span_17 (fun r_6 w_7 H locs hp hS => ?_)
    refine lv_if_ne (tgt := 25) hx hb dX11_span_20 (by decide) (fun c_8 => ?_) (fun c_8 => ?_)
    · have hp := hp.1 c_8
      refine lv_iconst hx hb dX11_span_25 kI_0 ?_
      refine lv_istore (lv' := [(4, .int (0 : Int32)), (0, .ref (g.2.2 300)), (1, .int x1), (2, .int x2), (3, .int x3)]) hx hb dX11_span_26 hl (by decide) rfl (fun ls hl => ?_)
      refine lv_sipush hx hb dX11_span_28 kS_999 ?_
      refine lv_istore (lv' := [(5, .int (999 : Int32)), (4, .int (0 : Int32)), (0, .ref (g.2.2 300)), (1, .int x1), (2, .int x2), (3, .int x3)]) hx hb dX11_span_31 hl (by decide) rfl (fun ls hl => ?_)
      refine lv_iconst hx hb dX11_span_33 kI_0 ?_
      refine lv_istore (lv' := [(6, .int (0 : Int32)), (5, .int (999 : Int32)), (4, .int (0 : Int32)), (0, .ref (g.2.2 300)), (1, .int x1), (2, .int x2), (3, .int x3)]) hx hb dX11_span_34 hl (by decide) rfl (fun ls hl => ?_)
      obtain ⟨n9, hp⟩ := hp
      exact bX11_span_36 hC hR n9 x1 x2 x3 (0 : Int32) (999 : Int32) (0 : Int32) w_7 _ _ _ hp hS (lv_sub hl [3, 4, 5, 6, 2, 1, 0] rfl)
    · have hp := hp.2 c_8
      refine lv_iconst hx hb dX11_span_23 kI_m1 ?_
      exact hR _ _ _ _ _ _ dX11_span_24 hp hS
