def pX11_changesOf_155 (k109 : Int32 → Int32 → Int32 → Wd → Prop) (post : Int32 → Wd → Prop) (x2 : Int32) (x4 : Int32) (x5 : Int32) (x6 : Int32) (w : Wd) : Prop := (x6 = x2 → (∀ x5_2, x5_2 = x5 + (1 : Int32) → k109 x2 x4 x5_2 w)) ∧ (¬ x6 = x2 → (post (-1 : Int32) w))
def pX11_changesOf_125 (k109 : Int32 → Int32 → Int32 → Wd → Prop) (post : Int32 → Wd → Prop) : Nat → Int32 → Int32 → Int32 → Int32 → Int32 → Wd → Prop
  | 0, _, _, _, _, _, _ => False
  | n + 1, x2, x4, x5, x6, x7, w => ((w.1 300 63) ≤ x7 → (pX11_changesOf_155 k109 post x2 x4 x5 x6 w)) ∧ (¬ (w.1 300 63) ≤ x7 → ((x6 = x2 → (pX11_changesOf_155 k109 post x2 x4 x5 x6 w)) ∧ (¬ x6 = x2 → (vp_in x6 7 ∧ ∀ x6_3, x6_3 = (w.2.1 362 x6.toNatClampNeg) → ∀ x7_4, x7_4 = x7 + (1 : Int32) → pX11_changesOf_125 k109 post n x2 x4 x5 x6_3 x7_4 w))))
def pX11_changesOf_109 (post : Int32 → Wd → Prop) : Nat → Int32 → Int32 → Int32 → Wd → Prop
  | 0, _, _, _, _ => False
  | n + 1, x2, x4, x5, w => ((w.1 300 63) ≤ x5 → (post x4 w)) ∧ (¬ (w.1 300 63) ≤ x5 → (∃ n9, pX11_changesOf_125 (pX11_changesOf_109 post n) post n9 x2 x4 x5 x5 (0 : Int32) w))
def pX11_changesOf_100 (k13 : Int32 → Int32 → Int32 → Int32 → Wd → Prop) (post : Int32 → Wd → Prop) (x2 : Int32) (x3 : Int32) (x4 : Int32) (x5 : Int32) (w : Wd) : Prop := ∀ x5_1, x5_1 = x5 + (-1 : Int32) → k13 x2 x3 x4 x5_1 w
def pX11_changesOf_76 (k13 : Int32 → Int32 → Int32 → Int32 → Wd → Prop) (post : Int32 → Wd → Prop) (x2 : Int32) (x3 : Int32) (x4 : Int32) (x5 : Int32) (t1 : Int32) (t2 : Int32) (w : Wd) : Prop := vp_in t1 7 ∧ ∀ w_1, w_1 = sA w 362 t1.toNatClampNeg t2 → vp_in x5 7 ∧ vp_in (((7 : Int32) * (w_1.2.1 362 x5.toNatClampNeg)) + x5) 49 ∧ ∀ x4_2, x4_2 = (x4 + (w_1.2.1 363 (((7 : Int32) * (w_1.2.1 362 x5.toNatClampNeg)) + x5).toNatClampNeg)) → pX11_changesOf_100 k13 post x2 x3 x4_2 x5 w_1
def pX11_changesOf_13 (post : Int32 → Wd → Prop) : Nat → Int32 → Int32 → Int32 → Int32 → Wd → Prop
  | 0, _, _, _, _, _ => False
  | n + 1, x2, x3, x4, x5, w => (x5 < 0 → (∃ n9, pX11_changesOf_109 post n9 x2 x4 (0 : Int32) w)) ∧ (¬ x5 < 0 → (vp_in x5 7 ∧ ∀ w_2, w_2 = sA w 362 x5.toNatClampNeg (-1 : Int32) → (¬ x5 = x2 → (¬ ((w_2.1 300 63) - (1 : Int32)) = 0 ∧ ∀ x6_4, x6_4 = (x3 - x3 / ((w_2.1 300 63) - (1 : Int32)) * ((w_2.1 300 63) - (1 : Int32))) → ¬ ((w_2.1 300 63) - (1 : Int32)) = 0 ∧ ∀ x3_5, x3_5 = (x3 / ((w_2.1 300 63) - (1 : Int32))) → (x5 ≤ x6_4 → (pX11_changesOf_76 (pX11_changesOf_13 post n) post x2 x3_5 x4 x5 x5 (x6_4 + (1 : Int32)) w_2)) ∧ (¬ x5 ≤ x6_4 → (pX11_changesOf_76 (pX11_changesOf_13 post n) post x2 x3_5 x4 x5 x5 x6_4 w_2)))) ∧ (x5 = x2 → (pX11_changesOf_100 (pX11_changesOf_13 post n) post x2 x3 x4 x5 w_2))))
def pX11_changesOf (post : Int32 → Wd → Prop) (x1 : Int32) (x2 : Int32) (w : Wd) : Prop := ∀ x5_1, x5_1 = ((w.1 300 63) - (1 : Int32)) → ∃ n9, pX11_changesOf_13 post n9 x2 x1 (0 : Int32) x5_1 w
set_option maxHeartbeats 4000000 in
set_option maxRecDepth 100000 in
theorem bX11_changesOf_155 {p : Program} {l : Launch} {e : Env} {s : State} {m : MethodId} {args : Array Value} {below : List Frame} {meth : Method} {c : Code} {Q : State → Prop} {A : Nat → Prop} {g : Gw} {post : Int32 → Wd → Prop}  (hC : Cx p s m args c cX11_changesOf RX11 8 g) (hR : RtI tabM p l e (rk 1) s m args below meth c Q cX11_changesOf A g post)  {k109 : Int32 → Int32 → Int32 → Wd → Prop} (hk109 : ∀ (x2 : Int32) (x4 : Int32) (x5 : Int32) (w : Wd) (H : Heap) (locs : List Loc) (ls : Array Slot), k109 x2 x4 x5 w → St tabM A s.heap g w H locs → lv_has ls 8 [(0, .ref (g.2.2 300)), (2, .int x2), (4, .int x4), (5, .int x5)] → W p l e (rk 1) s m args below meth c H locs 0 0 Q (F0 m 109 ls [])) : ∀ (x2 : Int32) (x4 : Int32) (x5 : Int32) (x6 : Int32) (w : Wd) (H : Heap) (locs : List Loc) (ls : Array Slot), pX11_changesOf_155 k109 post x2 x4 x5 x6 w → St tabM A s.heap g w H locs → lv_has ls 8 [(0, .ref (g.2.2 300)), (2, .int x2), (4, .int x4), (5, .int x5), (6, .int x6)] → W p l e (rk 1) s m args below meth c H locs 0 0 Q (F0 m 155 ls []) := by
  have hx := hC.1
  have hb := hC.2.1
  intro x2 x4 x5 x6 w H locs ls hp hS hl
  unfold pX11_changesOf_155 at hp
  refine lv_iload hx hb dX11_changesOf_155 (lv_at hl 4 rfl) ?_
  refine lv_iload_n hx hb dX11_changesOf_157 rfl (lv_at hl 1 rfl) ?_
  refine lv_icmp_eq (tgt := 163) hx hb dX11_changesOf_158 (by decide) (fun c_1 => ?_) (fun c_1 => ?_)
  · have hp := hp.1 c_1
    obtain ⟨x5_2, ex5_2⟩ : ∃ y : Int32, y = x5 + (1 : Int32) := ⟨_, rfl⟩
    have hp := hp x5_2 ex5_2
    refine lv_iinc (v := x5_2) (lv' := [(5, .int x5_2), (0, .ref (g.2.2 300)), (2, .int x2), (4, .int x4), (6, .int x6)]) hx hb dX11_changesOf_163 hl (k := 3) rfl (by rw [ex5_2]; rfl) (by decide) rfl (fun ls hl => ?_)
    refine lv_goto (tgt := 109) hx hb dX11_changesOf_166 (by decide) ?_
    exact hk109 x2 x4 x5_2 w _ _ _ hp hS (lv_sub hl [1, 2, 3, 0] rfl)
  · have hp := hp.2 c_1
    refine lv_iconst hx hb dX11_changesOf_161 kI_m1 ?_
    exact hR _ _ _ _ _ _ dX11_changesOf_162 hp hS
set_option maxHeartbeats 4000000 in
set_option maxRecDepth 100000 in
theorem bX11_changesOf_125 {p : Program} {l : Launch} {e : Env} {s : State} {m : MethodId} {args : Array Value} {below : List Frame} {meth : Method} {c : Code} {Q : State → Prop} {A : Nat → Prop} {g : Gw} {post : Int32 → Wd → Prop}  (hC : Cx p s m args c cX11_changesOf RX11 8 g) (hR : RtI tabM p l e (rk 1) s m args below meth c Q cX11_changesOf A g post)  {k109 : Int32 → Int32 → Int32 → Wd → Prop} (hk109 : ∀ (x2 : Int32) (x4 : Int32) (x5 : Int32) (w : Wd) (H : Heap) (locs : List Loc) (ls : Array Slot), k109 x2 x4 x5 w → St tabM A s.heap g w H locs → lv_has ls 8 [(0, .ref (g.2.2 300)), (2, .int x2), (4, .int x4), (5, .int x5)] → W p l e (rk 1) s m args below meth c H locs 0 0 Q (F0 m 109 ls [])) : ∀ (n : Nat) (x2 : Int32) (x4 : Int32) (x5 : Int32) (x6 : Int32) (x7 : Int32) (w : Wd) (H : Heap) (locs : List Loc) (ls : Array Slot), pX11_changesOf_125 k109 post n x2 x4 x5 x6 x7 w → St tabM A s.heap g w H locs → lv_has ls 8 [(0, .ref (g.2.2 300)), (2, .int x2), (4, .int x4), (5, .int x5), (6, .int x6), (7, .int x7)] → W p l e (rk 1) s m args below meth c H locs 0 0 Q (F0 m 125 ls []) := by
  have hx := hC.1
  have hb := hC.2.1
  intro n
  induction n with
  | zero =>
    intro x2 x4 x5 x6 x7 w H locs ls hp hS hl
    exact False.elim hp
  | succ n ih =>
    intro x2 x4 x5 x6 x7 w H locs ls hp hS hl
    unfold pX11_changesOf_125 at hp
    refine lv_iload hx hb dX11_changesOf_125 (lv_at hl 5 rfl) ?_
    refine lv_aload_n hx hb dX11_changesOf_127 rfl (lv_at hl 0 rfl) ?_
    refine G_300_63 hC hS m1282 dX11_changesOf_128 ?_
    refine lv_icmp_ge (tgt := 155) hx hb dX11_changesOf_131 (by decide) (fun c_1 => ?_) (fun c_1 => ?_)
    · have hp := hp.1 c_1
      exact bX11_changesOf_155 hC hR hk109 x2 x4 x5 x6 w _ _ _ hp hS (lv_sub hl [0, 1, 2, 3, 4] rfl)
    · have hp := hp.2 c_1
      refine lv_iload hx hb dX11_changesOf_134 (lv_at hl 4 rfl) ?_
      refine lv_iload_n hx hb dX11_changesOf_136 rfl (lv_at hl 1 rfl) ?_
      refine lv_icmp_eq (tgt := 155) hx hb dX11_changesOf_137 (by decide) (fun c_2 => ?_) (fun c_2 => ?_)
      · have hp := hp.1 c_2
        exact bX11_changesOf_155 hC hR hk109 x2 x4 x5 x6 w _ _ _ hp hS (lv_sub hl [0, 1, 2, 3, 4] rfl)
      · have hp := hp.2 c_2
        refine lv_aload_n hx hb dX11_changesOf_140 rfl (lv_at hl 0 rfl) ?_
        refine G_300_61 hC hS m291 dX11_changesOf_141 ?_
        refine lv_iload hx hb dX11_changesOf_144 (lv_at hl 4 rfl) ?_
        refine La_362 hC hS hp.1 dX11_changesOf_146 ?_
        have hp := hp.2
        refine lv_topi (fun x6_3 ex6_3 => ?_)
        have hp := hp x6_3 ex6_3
        refine lv_istore (lv' := [(6, .int x6_3), (0, .ref (g.2.2 300)), (2, .int x2), (4, .int x4), (5, .int x5), (7, .int x7)]) hx hb dX11_changesOf_147 hl (by decide) rfl (fun ls hl => ?_)
        obtain ⟨x7_4, ex7_4⟩ : ∃ y : Int32, y = x7 + (1 : Int32) := ⟨_, rfl⟩
        have hp := hp x7_4 ex7_4
        refine lv_iinc (v := x7_4) (lv' := [(7, .int x7_4), (6, .int x6_3), (0, .ref (g.2.2 300)), (2, .int x2), (4, .int x4), (5, .int x5)]) hx hb dX11_changesOf_149 hl (k := 5) rfl (by rw [ex7_4]; rfl) (by decide) rfl (fun ls hl => ?_)
        refine lv_goto (tgt := 125) hx hb dX11_changesOf_152 (by decide) ?_
        exact ih x2 x4 x5 x6_3 x7_4 w _ _ _ hp hS (lv_sub hl [2, 3, 4, 5, 1, 0] rfl)
set_option maxHeartbeats 4000000 in
set_option maxRecDepth 100000 in
theorem bX11_changesOf_109 {p : Program} {l : Launch} {e : Env} {s : State} {m : MethodId} {args : Array Value} {below : List Frame} {meth : Method} {c : Code} {Q : State → Prop} {A : Nat → Prop} {g : Gw} {post : Int32 → Wd → Prop}  (hC : Cx p s m args c cX11_changesOf RX11 8 g) (hR : RtI tabM p l e (rk 1) s m args below meth c Q cX11_changesOf A g post)  : ∀ (n : Nat) (x2 : Int32) (x4 : Int32) (x5 : Int32) (w : Wd) (H : Heap) (locs : List Loc) (ls : Array Slot), pX11_changesOf_109 post n x2 x4 x5 w → St tabM A s.heap g w H locs → lv_has ls 8 [(0, .ref (g.2.2 300)), (2, .int x2), (4, .int x4), (5, .int x5)] → W p l e (rk 1) s m args below meth c H locs 0 0 Q (F0 m 109 ls []) := by
  have hx := hC.1
  have hb := hC.2.1
  intro n
  induction n with
  | zero =>
    intro x2 x4 x5 w H locs ls hp hS hl
    exact False.elim hp
  | succ n ih =>
    intro x2 x4 x5 w H locs ls hp hS hl
    unfold pX11_changesOf_109 at hp
    refine lv_iload hx hb dX11_changesOf_109 (lv_at hl 3 rfl) ?_
    refine lv_aload_n hx hb dX11_changesOf_111 rfl (lv_at hl 0 rfl) ?_
    refine G_300_63 hC hS m1282 dX11_changesOf_112 ?_
    refine lv_icmp_ge (tgt := 169) hx hb dX11_changesOf_115 (by decide) (fun c_1 => ?_) (fun c_1 => ?_)
    · have hp := hp.1 c_1
      refine lv_iload hx hb dX11_changesOf_169 (lv_at hl 2 rfl) ?_
      exact hR _ _ _ _ _ _ dX11_changesOf_171 hp hS
    · have hp := hp.2 c_1
      refine lv_iload hx hb dX11_changesOf_118 (lv_at hl 3 rfl) ?_
      refine lv_istore (lv' := [(6, .int x5), (0, .ref (g.2.2 300)), (2, .int x2), (4, .int x4), (5, .int x5)]) hx hb dX11_changesOf_120 hl (by decide) rfl (fun ls hl => ?_)
      refine lv_iconst hx hb dX11_changesOf_122 kI_0 ?_
      refine lv_istore (lv' := [(7, .int (0 : Int32)), (6, .int x5), (0, .ref (g.2.2 300)), (2, .int x2), (4, .int x4), (5, .int x5)]) hx hb dX11_changesOf_123 hl (by decide) rfl (fun ls hl => ?_)
      obtain ⟨n9, hp⟩ := hp
      exact bX11_changesOf_125 hC hR ih n9 x2 x4 x5 x5 (0 : Int32) w _ _ _ hp hS (lv_sub hl [2, 3, 4, 5, 1, 0] rfl)
set_option maxHeartbeats 4000000 in
set_option maxRecDepth 100000 in
theorem bX11_changesOf_100 {p : Program} {l : Launch} {e : Env} {s : State} {m : MethodId} {args : Array Value} {below : List Frame} {meth : Method} {c : Code} {Q : State → Prop} {A : Nat → Prop} {g : Gw} {post : Int32 → Wd → Prop}  (hC : Cx p s m args c cX11_changesOf RX11 8 g) (hR : RtI tabM p l e (rk 1) s m args below meth c Q cX11_changesOf A g post)  {k13 : Int32 → Int32 → Int32 → Int32 → Wd → Prop} (hk13 : ∀ (x2 : Int32) (x3 : Int32) (x4 : Int32) (x5 : Int32) (w : Wd) (H : Heap) (locs : List Loc) (ls : Array Slot), k13 x2 x3 x4 x5 w → St tabM A s.heap g w H locs → lv_has ls 8 [(0, .ref (g.2.2 300)), (2, .int x2), (3, .int x3), (4, .int x4), (5, .int x5)] → W p l e (rk 1) s m args below meth c H locs 0 0 Q (F0 m 13 ls [])) : ∀ (x2 : Int32) (x3 : Int32) (x4 : Int32) (x5 : Int32) (w : Wd) (H : Heap) (locs : List Loc) (ls : Array Slot), pX11_changesOf_100 k13 post x2 x3 x4 x5 w → St tabM A s.heap g w H locs → lv_has ls 8 [(0, .ref (g.2.2 300)), (2, .int x2), (3, .int x3), (4, .int x4), (5, .int x5)] → W p l e (rk 1) s m args below meth c H locs 0 0 Q (F0 m 100 ls []) := by
  have hx := hC.1
  have hb := hC.2.1
  intro x2 x3 x4 x5 w H locs ls hp hS hl
  unfold pX11_changesOf_100 at hp
  obtain ⟨x5_1, ex5_1⟩ : ∃ y : Int32, y = x5 + (-1 : Int32) := ⟨_, rfl⟩
  have hp := hp x5_1 ex5_1
  refine lv_iinc (v := x5_1) (lv' := [(5, .int x5_1), (0, .ref (g.2.2 300)), (2, .int x2), (3, .int x3), (4, .int x4)]) hx hb dX11_changesOf_100 hl (k := 4) rfl (by rw [ex5_1]; rfl) (by decide) rfl (fun ls hl => ?_)
  refine lv_goto (tgt := 13) hx hb dX11_changesOf_103 (by decide) ?_
  exact hk13 x2 x3 x4 x5_1 w _ _ _ hp hS (lv_sub hl [1, 2, 3, 4, 0] rfl)
set_option maxHeartbeats 4000000 in
set_option maxRecDepth 100000 in
theorem bX11_changesOf_76 {p : Program} {l : Launch} {e : Env} {s : State} {m : MethodId} {args : Array Value} {below : List Frame} {meth : Method} {c : Code} {Q : State → Prop} {A : Nat → Prop} {g : Gw} {post : Int32 → Wd → Prop}  (hC : Cx p s m args c cX11_changesOf RX11 8 g) (hR : RtI tabM p l e (rk 1) s m args below meth c Q cX11_changesOf A g post)  {k13 : Int32 → Int32 → Int32 → Int32 → Wd → Prop} (hk13 : ∀ (x2 : Int32) (x3 : Int32) (x4 : Int32) (x5 : Int32) (w : Wd) (H : Heap) (locs : List Loc) (ls : Array Slot), k13 x2 x3 x4 x5 w → St tabM A s.heap g w H locs → lv_has ls 8 [(0, .ref (g.2.2 300)), (2, .int x2), (3, .int x3), (4, .int x4), (5, .int x5)] → W p l e (rk 1) s m args below meth c H locs 0 0 Q (F0 m 13 ls [])) : ∀ (x2 : Int32) (x3 : Int32) (x4 : Int32) (x5 : Int32) (t1 : Int32) (t2 : Int32) (w : Wd) (H : Heap) (locs : List Loc) (ls : Array Slot), pX11_changesOf_76 k13 post x2 x3 x4 x5 t1 t2 w → St tabM A s.heap g w H locs → lv_has ls 8 [(0, .ref (g.2.2 300)), (2, .int x2), (3, .int x3), (4, .int x4), (5, .int x5)] → W p l e (rk 1) s m args below meth c H locs 0 0 Q (F0 m 76 ls [.int t2, .int t1, .ref (g.2.2 362)]) := by
  have hx := hC.1
  have hb := hC.2.1
  intro x2 x3 x4 x5 t1 t2 w H locs ls hp hS hl
  unfold pX11_changesOf_76 at hp
  refine Sa_362 hC hS hp.1 dX11_changesOf_76 (fun w_1 H locs ew_1 hS => ?_)
  have hp := hp.2
  have hp := hp w_1 ew_1
  refine lv_iload hx hb dX11_changesOf_77 (lv_at hl 3 rfl) ?_
  refine lv_aload_n hx hb dX11_changesOf_79 rfl (lv_at hl 0 rfl) ?_
  refine G_300_62 hC hS m292 dX11_changesOf_80 ?_
  refine lv_bipush hx hb dX11_changesOf_83 kB_7 ?_
  refine lv_aload_n hx hb dX11_changesOf_85 rfl (lv_at hl 0 rfl) ?_
  refine G_300_61 hC hS m291 dX11_changesOf_86 ?_
  refine lv_iload hx hb dX11_changesOf_89 (lv_at hl 4 rfl) ?_
  refine La_362 hC hS hp.1 dX11_changesOf_91 ?_
  have hp := hp.2
  refine lv_imul hx hb dX11_changesOf_92 ?_
  refine lv_iload hx hb dX11_changesOf_93 (lv_at hl 4 rfl) ?_
  refine lv_iadd hx hb dX11_changesOf_95 ?_
  refine La_363 hC hS hp.1 dX11_changesOf_96 ?_
  have hp := hp.2
  refine lv_iadd hx hb dX11_changesOf_97 ?_
  refine lv_topi (fun x4_2 ex4_2 => ?_)
  have hp := hp x4_2 ex4_2
  refine lv_istore (lv' := [(4, .int x4_2), (0, .ref (g.2.2 300)), (2, .int x2), (3, .int x3), (5, .int x5)]) hx hb dX11_changesOf_98 hl (by decide) rfl (fun ls hl => ?_)
  exact bX11_changesOf_100 hC hR hk13 x2 x3 x4_2 x5 w_1 _ _ _ hp hS (lv_sub hl [1, 2, 3, 0, 4] rfl)
set_option maxHeartbeats 4000000 in
set_option maxRecDepth 100000 in
theorem bX11_changesOf_13 {p : Program} {l : Launch} {e : Env} {s : State} {m : MethodId} {args : Array Value} {below : List Frame} {meth : Method} {c : Code} {Q : State → Prop} {A : Nat → Prop} {g : Gw} {post : Int32 → Wd → Prop}  (hC : Cx p s m args c cX11_changesOf RX11 8 g) (hR : RtI tabM p l e (rk 1) s m args below meth c Q cX11_changesOf A g post)  : ∀ (n : Nat) (x2 : Int32) (x3 : Int32) (x4 : Int32) (x5 : Int32) (w : Wd) (H : Heap) (locs : List Loc) (ls : Array Slot), pX11_changesOf_13 post n x2 x3 x4 x5 w → St tabM A s.heap g w H locs → lv_has ls 8 [(0, .ref (g.2.2 300)), (2, .int x2), (3, .int x3), (4, .int x4), (5, .int x5)] → W p l e (rk 1) s m args below meth c H locs 0 0 Q (F0 m 13 ls []) := by
  have hx := hC.1
  have hb := hC.2.1
  intro n
  induction n with
  | zero =>
    intro x2 x3 x4 x5 w H locs ls hp hS hl
    exact False.elim hp
  | succ n ih =>
    intro x2 x3 x4 x5 w H locs ls hp hS hl
    unfold pX11_changesOf_13 at hp
    refine lv_iload hx hb dX11_changesOf_13 (lv_at hl 4 rfl) ?_
    refine lv_if_lt (tgt := 106) hx hb dX11_changesOf_15 (by decide) (fun c_1 => ?_) (fun c_1 => ?_)
    · have hp := hp.1 c_1
      refine lv_iconst hx hb dX11_changesOf_106 kI_0 ?_
      refine lv_istore (lv' := [(5, .int (0 : Int32)), (0, .ref (g.2.2 300)), (2, .int x2), (3, .int x3), (4, .int x4)]) hx hb dX11_changesOf_107 hl (by decide) rfl (fun ls hl => ?_)
      obtain ⟨n9, hp⟩ := hp
      exact bX11_changesOf_109 hC hR n9 x2 x4 (0 : Int32) w _ _ _ hp hS (lv_sub hl [1, 2, 4, 0] rfl)
    · have hp := hp.2 c_1
      refine lv_aload_n hx hb dX11_changesOf_18 rfl (lv_at hl 0 rfl) ?_
      refine G_300_61 hC hS m291 dX11_changesOf_19 ?_
      refine lv_iload hx hb dX11_changesOf_22 (lv_at hl 4 rfl) ?_
      refine lv_iconst hx hb dX11_changesOf_24 kI_m1 ?_
      refine Sa_362 hC hS hp.1 dX11_changesOf_25 (fun w_2 H locs ew_2 hS => ?_)
      have hp := hp.2
      have hp := hp w_2 ew_2
      refine lv_iload hx hb dX11_changesOf_26 (lv_at hl 4 rfl) ?_
      refine lv_iload_n hx hb dX11_changesOf_28 rfl (lv_at hl 1 rfl) ?_
      refine lv_icmp_ne (tgt := 35) hx hb dX11_changesOf_29 (by decide) (fun c_3 => ?_) (fun c_3 => ?_)
      · have hp := hp.1 c_3
        refine lv_iload_n hx hb dX11_changesOf_35 rfl (lv_at hl 2 rfl) ?_
        refine lv_aload_n hx hb dX11_changesOf_36 rfl (lv_at hl 0 rfl) ?_
        refine G_300_63 hC hS m1282 dX11_changesOf_37 ?_
        refine lv_iconst hx hb dX11_changesOf_40 kI_1 ?_
        refine lv_isub hx hb dX11_changesOf_41 ?_
        refine lv_irem hx hb dX11_changesOf_42 hp.1 ?_
        have hp := hp.2
        refine lv_topi (fun x6_4 ex6_4 => ?_)
        have hp := hp x6_4 ex6_4
        refine lv_istore (lv' := [(6, .int x6_4), (0, .ref (g.2.2 300)), (2, .int x2), (3, .int x3), (4, .int x4), (5, .int x5)]) hx hb dX11_changesOf_43 hl (by decide) rfl (fun ls hl => ?_)
        refine lv_iload_n hx hb dX11_changesOf_45 rfl (lv_at hl 3 rfl) ?_
        refine lv_aload_n hx hb dX11_changesOf_46 rfl (lv_at hl 1 rfl) ?_
        refine G_300_63 hC hS m1282 dX11_changesOf_47 ?_
        refine lv_iconst hx hb dX11_changesOf_50 kI_1 ?_
        refine lv_isub hx hb dX11_changesOf_51 ?_
        refine lv_idiv hx hb dX11_changesOf_52 hp.1 ?_
        have hp := hp.2
        refine lv_topi (fun x3_5 ex3_5 => ?_)
        have hp := hp x3_5 ex3_5
        refine lv_istore_n (lv' := [(3, .int x3_5), (6, .int x6_4), (0, .ref (g.2.2 300)), (2, .int x2), (4, .int x4), (5, .int x5)]) hx hb dX11_changesOf_53 rfl hl (by decide) rfl (fun ls hl => ?_)
        refine lv_aload_n hx hb dX11_changesOf_54 rfl (lv_at hl 2 rfl) ?_
        refine G_300_61 hC hS m291 dX11_changesOf_55 ?_
        refine lv_iload hx hb dX11_changesOf_58 (lv_at hl 5 rfl) ?_
        refine lv_iload hx hb dX11_changesOf_60 (lv_at hl 1 rfl) ?_
        refine lv_iload hx hb dX11_changesOf_62 (lv_at hl 5 rfl) ?_
        refine lv_icmp_ge (tgt := 72) hx hb dX11_changesOf_64 (by decide) (fun c_6 => ?_) (fun c_6 => ?_)
        · have hp := hp.1 c_6
          refine lv_iload hx hb dX11_changesOf_72 (lv_at hl 1 rfl) ?_
          refine lv_iconst hx hb dX11_changesOf_74 kI_1 ?_
          refine lv_iadd hx hb dX11_changesOf_75 ?_
          exact bX11_changesOf_76 hC hR ih x2 x3_5 x4 x5 x5 (x6_4 + (1 : Int32)) w_2 _ _ _ hp hS (lv_sub hl [2, 3, 0, 4, 5] rfl)
        · have hp := hp.2 c_6
          refine lv_iload hx hb dX11_changesOf_67 (lv_at hl 1 rfl) ?_
          refine lv_goto (tgt := 76) hx hb dX11_changesOf_69 (by decide) ?_
          exact bX11_changesOf_76 hC hR ih x2 x3_5 x4 x5 x5 x6_4 w_2 _ _ _ hp hS (lv_sub hl [2, 3, 0, 4, 5] rfl)
      · have hp := hp.2 c_3
        refine lv_goto (tgt := 100) hx hb dX11_changesOf_32 (by decide) ?_
        exact bX11_changesOf_100 hC hR ih x2 x3 x4 x5 w_2 _ _ _ hp hS (lv_sub hl [0, 1, 2, 3, 4] rfl)
set_option maxHeartbeats 4000000 in
set_option maxRecDepth 100000 in
theorem rX11_changesOf {l : Launch} {g : Gw} {w : Wd} {post : Int32 → Wd → Prop}   {x1 : Int32} {x2 : Int32} (hp : pX11_changesOf post x1 x2 w) : MtI tabM l yX11_changesOf cX11_changesOf 8 (some .int) 1 g w [.ref (g.2.2 300), .int x1, .int x2] post := by
  refine q_entI tabM_nd (by decide) rfl (Nat.le_of_ble_eq_true rfl) ?_
  intro p e s m args below meth c A Q ls hC hR hS hl
  have hx := hC.1
  have hb := hC.2.1
  have hl : lv_has ls 8 [(0, .ref (g.2.2 300)), (1, .int x1), (2, .int x2)] := hl
  unfold pX11_changesOf at hp
  refine lv_iload_n hx hb dX11_changesOf_0 rfl (lv_at hl 1 rfl) ?_
  refine lv_istore_n (lv' := [(3, .int x1), (0, .ref (g.2.2 300)), (1, .int x1), (2, .int x2)]) hx hb dX11_changesOf_1 rfl hl (by decide) rfl (fun ls hl => ?_)
  refine lv_iconst hx hb dX11_changesOf_2 kI_0 ?_
  refine lv_istore (lv' := [(4, .int (0 : Int32)), (3, .int x1), (0, .ref (g.2.2 300)), (1, .int x1), (2, .int x2)]) hx hb dX11_changesOf_3 hl (by decide) rfl (fun ls hl => ?_)
  refine lv_aload_n hx hb dX11_changesOf_5 rfl (lv_at hl 2 rfl) ?_
  refine G_300_63 hC hS m1282 dX11_changesOf_6 ?_
  refine lv_iconst hx hb dX11_changesOf_9 kI_1 ?_
  refine lv_isub hx hb dX11_changesOf_10 ?_
  refine lv_topi (fun x5_1 ex5_1 => ?_)
  have hp := hp x5_1 ex5_1
  refine lv_istore (lv' := [(5, .int x5_1), (4, .int (0 : Int32)), (3, .int x1), (0, .ref (g.2.2 300)), (1, .int x1), (2, .int x2)]) hx hb dX11_changesOf_11 hl (by decide) rfl (fun ls hl => ?_)
  obtain ⟨n9, hp⟩ := hp
  exact bX11_changesOf_13 hC hR n9 x2 x1 (0 : Int32) x5_1 w _ _ _ hp hS (lv_sub hl [3, 5, 2, 1, 0] rfl)
def pX11_counts (post : Int32 → Wd → Prop) (x1 : Int32) (x2 : Int32) (x3 : Int32) (w : Wd) : Prop := vp_in x1 40 ∧ (¬ (w.2.1 353 x1.toNatClampNeg) = x2 → (post (0 : Int32) w)) ∧ ((w.2.1 353 x1.toNatClampNeg) = x2 → (vp_in x1 40 ∧ (x3 < (w.2.1 357 x1.toNatClampNeg) → (post (0 : Int32) w)) ∧ (¬ x3 < (w.2.1 357 x1.toNatClampNeg) → (vp_in x1 40 ∧ ((w.2.1 358 x1.toNatClampNeg) < 0 → (post (1 : Int32) w)) ∧ (¬ (w.2.1 358 x1.toNatClampNeg) < 0 → (vp_in x1 40 ∧ ((w.2.1 358 x1.toNatClampNeg) ≤ x3 → (post (0 : Int32) w)) ∧ (¬ (w.2.1 358 x1.toNatClampNeg) ≤ x3 → (post (1 : Int32) w))))))))
set_option maxHeartbeats 4000000 in
set_option maxRecDepth 100000 in
theorem rX11_counts {l : Launch} {g : Gw} {w : Wd} {post : Int32 → Wd → Prop}   {x1 : Int32} {x2 : Int32} {x3 : Int32} (hp : pX11_counts post x1 x2 x3 w) : MtI tabM l yX11_counts cX11_counts 4 (some .boolean) 1 g w [.ref (g.2.2 300), .int x1, .int x2, .int x3] post := by
  refine q_entZ tabM_nd (by decide) rfl (Nat.le_of_ble_eq_true rfl) ?_
  intro p e s m args below meth c A Q ls hC hR hS hl
  have hx := hC.1
  have hb := hC.2.1
  have hl : lv_has ls 4 [(0, .ref (g.2.2 300)), (1, .int x1), (2, .int x2), (3, .int x3)] := hl
  unfold pX11_counts at hp
  refine lv_aload_n hx hb dX11_counts_0 rfl (lv_at hl 0 rfl) ?_
  refine G_300_52 hC hS m284 dX11_counts_1 ?_
  refine lv_iload_n hx hb dX11_counts_4 rfl (lv_at hl 1 rfl) ?_
  refine La_353 hC hS hp.1 dX11_counts_5 ?_
  have hp := hp.2
  refine lv_iload_n hx hb dX11_counts_6 rfl (lv_at hl 2 rfl) ?_
  refine lv_icmp_ne (tgt := 43) hx hb dX11_counts_7 (by decide) (fun c_1 => ?_) (fun c_1 => ?_)
  · have hp := hp.1 c_1
    refine lv_iconst hx hb dX11_counts_43 kI_0 ?_
    exact hR _ _ _ _ _ _ dX11_counts_44 (by decide) hp hS
  · have hp := hp.2 c_1
    refine lv_aload_n hx hb dX11_counts_10 rfl (lv_at hl 0 rfl) ?_
    refine G_300_56 hC hS m288 dX11_counts_11 ?_
    refine lv_iload_n hx hb dX11_counts_14 rfl (lv_at hl 1 rfl) ?_
    refine La_357 hC hS hp.1 dX11_counts_15 ?_
    have hp := hp.2
    refine lv_iload_n hx hb dX11_counts_16 rfl (lv_at hl 3 rfl) ?_
    refine lv_icmp_gt (tgt := 43) hx hb dX11_counts_17 (by decide) (fun c_2 => ?_) (fun c_2 => ?_)
    · have hp := hp.1 c_2
      refine lv_iconst hx hb dX11_counts_43 kI_0 ?_
      exact hR _ _ _ _ _ _ dX11_counts_44 (by decide) hp hS
    · have hp := hp.2 c_2
      refine lv_aload_n hx hb dX11_counts_20 rfl (lv_at hl 0 rfl) ?_
      refine G_300_57 hC hS m289 dX11_counts_21 ?_
      refine lv_iload_n hx hb dX11_counts_24 rfl (lv_at hl 1 rfl) ?_
      refine La_358 hC hS hp.1 dX11_counts_25 ?_
      have hp := hp.2
      refine lv_if_lt (tgt := 39) hx hb dX11_counts_26 (by decide) (fun c_3 => ?_) (fun c_3 => ?_)
      · have hp := hp.1 c_3
        refine lv_iconst hx hb dX11_counts_39 kI_1 ?_
        refine lv_goto (tgt := 44) hx hb dX11_counts_40 (by decide) ?_
        exact hR _ _ _ _ _ _ dX11_counts_44 (by decide) hp hS
      · have hp := hp.2 c_3
        refine lv_aload_n hx hb dX11_counts_29 rfl (lv_at hl 0 rfl) ?_
        refine G_300_57 hC hS m289 dX11_counts_30 ?_
        refine lv_iload_n hx hb dX11_counts_33 rfl (lv_at hl 1 rfl) ?_
        refine La_358 hC hS hp.1 dX11_counts_34 ?_
        have hp := hp.2
        refine lv_iload_n hx hb dX11_counts_35 rfl (lv_at hl 3 rfl) ?_
        refine lv_icmp_le (tgt := 43) hx hb dX11_counts_36 (by decide) (fun c_4 => ?_) (fun c_4 => ?_)
        · have hp := hp.1 c_4
          refine lv_iconst hx hb dX11_counts_43 kI_0 ?_
          exact hR _ _ _ _ _ _ dX11_counts_44 (by decide) hp hS
        · have hp := hp.2 c_4
          refine lv_iconst hx hb dX11_counts_39 kI_1 ?_
          refine lv_goto (tgt := 44) hx hb dX11_counts_40 (by decide) ?_
          exact hR _ _ _ _ _ _ dX11_counts_44 (by decide) hp hS
def pX11_laySamples_92 (k70 : Int32 → Wd → Prop) (post : Wd → Prop) : Nat → Int32 → Int32 → Int32 → Wd → Prop
  | 0, _, _, _, _ => False
  | n + 1, x2, x3, x4, w => ((w.1 300 63) ≤ x4 → (∀ x2_2, x2_2 = x2 + (1 : Int32) → k70 x2_2 w)) ∧ (¬ (w.1 300 63) ≤ x4 → (vp_in x4 7 ∧ pX11_bitsOf (fun r_3 w_4 => vp_in x4 7 ∧ pX11_bitsOf (fun r_5 w_6 => vp_in (((7 : Int32) * x2) + x4) 49 ∧ ∀ w_7, w_7 = sA w_6 363 (((7 : Int32) * x2) + x4).toNatClampNeg (r_3 + ((2 : Int32) * r_5)) → ∀ x4_8, x4_8 = x4 + (1 : Int32) → pX11_laySamples_92 k70 post n x2 x3 x4_8 w_7) ((w_4.2.1 361 x4.toNatClampNeg) &&& (x3 ^^^ (-1 : Int32))) w_4) (x3 &&& ((w.2.1 361 x4.toNatClampNeg) ^^^ (-1 : Int32))) w))
def pX11_laySamples_70 (post : Wd → Prop) : Nat → Int32 → Wd → Prop
  | 0, _, _ => False
  | n + 1, x2, w => ((w.1 300 63) ≤ x2 → (post w)) ∧ (¬ (w.1 300 63) ≤ x2 → (vp_in x2 7 ∧ pX11_turnedRow (fun r_2 w_3 => ∃ n9, pX11_laySamples_92 (pX11_laySamples_70 post n) post n9 x2 r_2 (0 : Int32) w_3) (w.2.1 361 x2.toNatClampNeg) w))
def pX11_laySamples_68 (post : Wd → Prop)  (w : Wd) : Prop := ∃ n9, pX11_laySamples_70 post n9 (0 : Int32) w
def pX11_laySamples_62 (k7 : Int32 → Int32 → Wd → Prop) (post : Wd → Prop) (x1 : Int32) (x2 : Int32) (w : Wd) : Prop := ∀ x2_1, x2_1 = x2 + (1 : Int32) → k7 x1 x2_1 w
def pX11_laySamples_7 (post : Wd → Prop) : Nat → Int32 → Int32 → Wd → Prop
  | 0, _, _, _ => False
  | n + 1, x1, x2, w => ((w.1 300 58) ≤ x2 → (pX11_laySamples_68 post  w)) ∧ (¬ (w.1 300 58) ≤ x2 → (((7 : Int32) ≤ (w.1 300 63) → (pX11_laySamples_68 post  w)) ∧ (¬ (7 : Int32) ≤ (w.1 300 63) → (pX11_counts (fun r_3 w_4 => (¬ r_3 = 0 → (vp_in x2 40 ∧ vp_in (w_4.1 300 63) 7 ∧ ∀ w_6, w_6 = sA w_4 361 (w_4.1 300 63).toNatClampNeg (w_4.2.1 354 x2.toNatClampNeg) → ∀ w_7, w_7 = sI w_6 300 63 ((w_6.1 300 63) + (1 : Int32)) → pX11_laySamples_62 (pX11_laySamples_7 post n) post x1 x2 w_7)) ∧ (r_3 = 0 → (pX11_laySamples_62 (pX11_laySamples_7 post n) post x1 x2 w_4))) x2 (0 : Int32) x1 w))))
def pX11_laySamples (post : Wd → Prop) (x1 : Int32) (w : Wd) : Prop := ∀ w_1, w_1 = sI w 300 63 (0 : Int32) → ∃ n9, pX11_laySamples_7 post n9 x1 (0 : Int32) w_1
set_option maxHeartbeats 4000000 in
set_option maxRecDepth 100000 in
theorem bX11_laySamples_92 {p : Program} {l : Launch} {e : Env} {s : State} {m : MethodId} {args : Array Value} {below : List Frame} {meth : Method} {c : Code} {Q : State → Prop} {A : Nat → Prop} {g : Gw} {post : Wd → Prop}  (hC : Cx p s m args c cX11_laySamples RX11 5 g) (hR : RtV tabM p l e (rk 3) s m args below meth c Q cX11_laySamples A g post)  {k70 : Int32 → Wd → Prop} (hk70 : ∀ (x2 : Int32) (w : Wd) (H : Heap) (locs : List Loc) (ls : Array Slot), k70 x2 w → St tabM A s.heap g w H locs → lv_has ls 5 [(0, .ref (g.2.2 300)), (2, .int x2)] → W p l e (rk 3) s m args below meth c H locs 0 0 Q (F0 m 70 ls [])) : ∀ (n : Nat) (x2 : Int32) (x3 : Int32) (x4 : Int32) (w : Wd) (H : Heap) (locs : List Loc) (ls : Array Slot), pX11_laySamples_92 k70 post n x2 x3 x4 w → St tabM A s.heap g w H locs → lv_has ls 5 [(0, .ref (g.2.2 300)), (2, .int x2), (3, .int x3), (4, .int x4)] → W p l e (rk 3) s m args below meth c H locs 0 0 Q (F0 m 92 ls []) := by
  have hx := hC.1
  have hb := hC.2.1
  intro n
  induction n with
  | zero =>
    intro x2 x3 x4 w H locs ls hp hS hl
    exact False.elim hp
  | succ n ih =>
    intro x2 x3 x4 w H locs ls hp hS hl
    unfold pX11_laySamples_92 at hp
    refine lv_iload hx hb dX11_laySamples_92 (lv_at hl 3 rfl) ?_
    refine lv_aload_n hx hb dX11_laySamples_94 rfl (lv_at hl 0 rfl) ?_
    refine G_300_63 hC hS m1282 dX11_laySamples_95 ?_
    refine lv_icmp_ge (tgt := 150) hx hb dX11_laySamples_98 (by decide) (fun c_1 => ?_) (fun c_1 => ?_)
    · have hp := hp.1 c_1
      obtain ⟨x2_2, ex2_2⟩ : ∃ y : Int32, y = x2 + (1 : Int32) := ⟨_, rfl⟩
      have hp := hp x2_2 ex2_2
      refine lv_iinc (v := x2_2) (lv' := [(2, .int x2_2), (0, .ref (g.2.2 300)), (3, .int x3), (4, .int x4)]) hx hb dX11_laySamples_150 hl (k := 1) rfl (by rw [ex2_2]; rfl) (by decide) rfl (fun ls hl => ?_)
      refine lv_goto (tgt := 70) hx hb dX11_laySamples_153 (by decide) ?_
      exact hk70 x2_2 w _ _ _ hp hS (lv_sub hl [1, 0] rfl)
    · have hp := hp.2 c_1
      refine lv_aload_n hx hb dX11_laySamples_101 rfl (lv_at hl 0 rfl) ?_
      refine G_300_62 hC hS m292 dX11_laySamples_102 ?_
      refine lv_bipush hx hb dX11_laySamples_105 kB_7 ?_
      refine lv_iload_n hx hb dX11_laySamples_107 rfl (lv_at hl 1 rfl) ?_
      refine lv_imul hx hb dX11_laySamples_108 ?_
      refine lv_iload hx hb dX11_laySamples_109 (lv_at hl 3 rfl) ?_
      refine lv_iadd hx hb dX11_laySamples_111 ?_
      refine lv_iload_n hx hb dX11_laySamples_112 rfl (lv_at hl 2 rfl) ?_
      refine lv_aload_n hx hb dX11_laySamples_113 rfl (lv_at hl 0 rfl) ?_
      refine G_300_60 hC hS m290 dX11_laySamples_114 ?_
      refine lv_iload hx hb dX11_laySamples_117 (lv_at hl 3 rfl) ?_
      refine La_361 hC hS hp.1 dX11_laySamples_119 ?_
      have hp := hp.2
      refine lv_iconst hx hb dX11_laySamples_120 kI_m1 ?_
      refine lv_ixor hx hb dX11_laySamples_121 ?_
      refine lv_iand hx hb dX11_laySamples_122 ?_
      refine q_csI (As := [.int (x3 &&& ((w.2.1 361 x4.toNatClampNeg) ^^^ (-1 : Int32)))]) (rest := [.int (((7 : Int32) * x2) + x4), .ref (g.2.2 363)]) hC hS hl.1 (rX11_bitsOf hp) cwX11_352 ysX11_bitsOf rfl rfl (Nat.le_of_ble_eq_true rfl) (rmk (by decide) (by decide)) dX11_laySamples_123 (fun r_3 w_4 H locs hp hS => ?_)
      refine lv_iconst hx hb dX11_laySamples_126 kI_2 ?_
      refine lv_aload_n hx hb dX11_laySamples_127 rfl (lv_at hl 0 rfl) ?_
      refine G_300_60 hC hS m290 dX11_laySamples_128 ?_
      refine lv_iload hx hb dX11_laySamples_131 (lv_at hl 3 rfl) ?_
      refine La_361 hC hS hp.1 dX11_laySamples_133 ?_
      have hp := hp.2
      refine lv_iload_n hx hb dX11_laySamples_134 rfl (lv_at hl 2 rfl) ?_
      refine lv_iconst hx hb dX11_laySamples_135 kI_m1 ?_
      refine lv_ixor hx hb dX11_laySamples_136 ?_
      refine lv_iand hx hb dX11_laySamples_137 ?_
      refine q_csI (As := [.int ((w_4.2.1 361 x4.toNatClampNeg) &&& (x3 ^^^ (-1 : Int32)))]) (rest := [.int (2 : Int32), .int r_3, .int (((7 : Int32) * x2) + x4), .ref (g.2.2 363)]) hC hS hl.1 (rX11_bitsOf hp) cwX11_352 ysX11_bitsOf rfl rfl (Nat.le_of_ble_eq_true rfl) (rmk (by decide) (by decide)) dX11_laySamples_138 (fun r_5 w_6 H locs hp hS => ?_)
      refine lv_imul hx hb dX11_laySamples_141 ?_
      refine lv_iadd hx hb dX11_laySamples_142 ?_
      refine Sa_363 hC hS hp.1 dX11_laySamples_143 (fun w_7 H locs ew_7 hS => ?_)
      have hp := hp.2
      have hp := hp w_7 ew_7
      obtain ⟨x4_8, ex4_8⟩ : ∃ y : Int32, y = x4 + (1 : Int32) := ⟨_, rfl⟩
      have hp := hp x4_8 ex4_8
      refine lv_iinc (v := x4_8) (lv' := [(4, .int x4_8), (0, .ref (g.2.2 300)), (2, .int x2), (3, .int x3)]) hx hb dX11_laySamples_144 hl (k := 3) rfl (by rw [ex4_8]; rfl) (by decide) rfl (fun ls hl => ?_)
      refine lv_goto (tgt := 92) hx hb dX11_laySamples_147 (by decide) ?_
      exact ih x2 x3 x4_8 w_7 _ _ _ hp hS (lv_sub hl [1, 2, 3, 0] rfl)
set_option maxHeartbeats 4000000 in
set_option maxRecDepth 100000 in
theorem bX11_laySamples_70 {p : Program} {l : Launch} {e : Env} {s : State} {m : MethodId} {args : Array Value} {below : List Frame} {meth : Method} {c : Code} {Q : State → Prop} {A : Nat → Prop} {g : Gw} {post : Wd → Prop}  (hC : Cx p s m args c cX11_laySamples RX11 5 g) (hR : RtV tabM p l e (rk 3) s m args below meth c Q cX11_laySamples A g post)  : ∀ (n : Nat) (x2 : Int32) (w : Wd) (H : Heap) (locs : List Loc) (ls : Array Slot), pX11_laySamples_70 post n x2 w → St tabM A s.heap g w H locs → lv_has ls 5 [(0, .ref (g.2.2 300)), (2, .int x2)] → W p l e (rk 3) s m args below meth c H locs 0 0 Q (F0 m 70 ls []) := by
  have hx := hC.1
  have hb := hC.2.1
  intro n
  induction n with
  | zero =>
    intro x2 w H locs ls hp hS hl
    exact False.elim hp
  | succ n ih =>
    intro x2 w H locs ls hp hS hl
    unfold pX11_laySamples_70 at hp
    refine lv_iload_n hx hb dX11_laySamples_70 rfl (lv_at hl 1 rfl) ?_
    refine lv_aload_n hx hb dX11_laySamples_71 rfl (lv_at hl 0 rfl) ?_
    refine G_300_63 hC hS m1282 dX11_laySamples_72 ?_
    refine lv_icmp_ge (tgt := 156) hx hb dX11_laySamples_75 (by decide) (fun c_1 => ?_) (fun c_1 => ?_)
    · have hp := hp.1 c_1
      exact hR _ _ _ _ _ dX11_laySamples_156 hp hS
    · have hp := hp.2 c_1
      refine lv_aload_n hx hb dX11_laySamples_78 rfl (lv_at hl 0 rfl) ?_
      refine lv_aload_n hx hb dX11_laySamples_79 rfl (lv_at hl 0 rfl) ?_
      refine G_300_60 hC hS m290 dX11_laySamples_80 ?_
      refine lv_iload_n hx hb dX11_laySamples_83 rfl (lv_at hl 1 rfl) ?_
      refine La_361 hC hS hp.1 dX11_laySamples_84 ?_
      have hp := hp.2
      refine q_cvI (As := [.int (w.2.1 361 x2.toNatClampNeg)]) (rest := []) hC hS hl.1 (rX11_turnedRow hp) cwX11_349 yvX11_turnedRow (rcv_300 hC hS) rfl rfl (Nat.le_of_ble_eq_true rfl) (rmk (by decide) (by decide)) dX11_laySamples_85 (fun r_2 w_3 H locs hp hS => ?_)
      refine lv_istore_n (lv' := [(3, .int r_2), (0, .ref (g.2.2 300)), (2, .int x2)]) hx hb dX11_laySamples_88 rfl hl (by decide) rfl (fun ls hl => ?_)
      refine lv_iconst hx hb dX11_laySamples_89 kI_0 ?_
      refine lv_istore (lv' := [(4, .int (0 : Int32)), (3, .int r_2), (0, .ref (g.2.2 300)), (2, .int x2)]) hx hb dX11_laySamples_90 hl (by decide) rfl (fun ls hl => ?_)
      obtain ⟨n9, hp⟩ := hp
      exact bX11_laySamples_92 hC hR ih n9 x2 r_2 (0 : Int32) w_3 _ _ _ hp hS (lv_sub hl [2, 3, 1, 0] rfl)
set_option maxHeartbeats 4000000 in
set_option maxRecDepth 100000 in
theorem bX11_laySamples_68 {p : Program} {l : Launch} {e : Env} {s : State} {m : MethodId} {args : Array Value} {below : List Frame} {meth : Method} {c : Code} {Q : State → Prop} {A : Nat → Prop} {g : Gw} {post : Wd → Prop}  (hC : Cx p s m args c cX11_laySamples RX11 5 g) (hR : RtV tabM p l e (rk 3) s m args below meth c Q cX11_laySamples A g post)  : ∀  (w : Wd) (H : Heap) (locs : List Loc) (ls : Array Slot), pX11_laySamples_68 post  w → St tabM A s.heap g w H locs → lv_has ls 5 [(0, .ref (g.2.2 300))] → W p l e (rk 3) s m args below meth c H locs 0 0 Q (F0 m 68 ls []) := by
  have hx := hC.1
  have hb := hC.2.1
  intro  w H locs ls hp hS hl
  unfold pX11_laySamples_68 at hp
  refine lv_iconst hx hb dX11_laySamples_68 kI_0 ?_
  refine lv_istore_n (lv' := [(2, .int (0 : Int32)), (0, .ref (g.2.2 300))]) hx hb dX11_laySamples_69 rfl hl (by decide) rfl (fun ls hl => ?_)
  obtain ⟨n9, hp⟩ := hp
  exact bX11_laySamples_70 hC hR n9 (0 : Int32) w _ _ _ hp hS (lv_sub hl [1, 0] rfl)
set_option maxHeartbeats 4000000 in
set_option maxRecDepth 100000 in
theorem bX11_laySamples_62 {p : Program} {l : Launch} {e : Env} {s : State} {m : MethodId} {args : Array Value} {below : List Frame} {meth : Method} {c : Code} {Q : State → Prop} {A : Nat → Prop} {g : Gw} {post : Wd → Prop}  (hC : Cx p s m args c cX11_laySamples RX11 5 g) (hR : RtV tabM p l e (rk 3) s m args below meth c Q cX11_laySamples A g post)  {k7 : Int32 → Int32 → Wd → Prop} (hk7 : ∀ (x1 : Int32) (x2 : Int32) (w : Wd) (H : Heap) (locs : List Loc) (ls : Array Slot), k7 x1 x2 w → St tabM A s.heap g w H locs → lv_has ls 5 [(0, .ref (g.2.2 300)), (1, .int x1), (2, .int x2)] → W p l e (rk 3) s m args below meth c H locs 0 0 Q (F0 m 7 ls [])) : ∀ (x1 : Int32) (x2 : Int32) (w : Wd) (H : Heap) (locs : List Loc) (ls : Array Slot), pX11_laySamples_62 k7 post x1 x2 w → St tabM A s.heap g w H locs → lv_has ls 5 [(0, .ref (g.2.2 300)), (1, .int x1), (2, .int x2)] → W p l e (rk 3) s m args below meth c H locs 0 0 Q (F0 m 62 ls []) := by
  have hx := hC.1
  have hb := hC.2.1
  intro x1 x2 w H locs ls hp hS hl
  unfold pX11_laySamples_62 at hp
  obtain ⟨x2_1, ex2_1⟩ : ∃ y : Int32, y = x2 + (1 : Int32) := ⟨_, rfl⟩
  have hp := hp x2_1 ex2_1
  refine lv_iinc (v := x2_1) (lv' := [(2, .int x2_1), (0, .ref (g.2.2 300)), (1, .int x1)]) hx hb dX11_laySamples_62 hl (k := 2) rfl (by rw [ex2_1]; rfl) (by decide) rfl (fun ls hl => ?_)
  refine lv_goto (tgt := 7) hx hb dX11_laySamples_65 (by decide) ?_
  exact hk7 x1 x2_1 w _ _ _ hp hS (lv_sub hl [1, 2, 0] rfl)
set_option maxHeartbeats 4000000 in
set_option maxRecDepth 100000 in
theorem bX11_laySamples_7 {p : Program} {l : Launch} {e : Env} {s : State} {m : MethodId} {args : Array Value} {below : List Frame} {meth : Method} {c : Code} {Q : State → Prop} {A : Nat → Prop} {g : Gw} {post : Wd → Prop}  (hC : Cx p s m args c cX11_laySamples RX11 5 g) (hR : RtV tabM p l e (rk 3) s m args below meth c Q cX11_laySamples A g post)  : ∀ (n : Nat) (x1 : Int32) (x2 : Int32) (w : Wd) (H : Heap) (locs : List Loc) (ls : Array Slot), pX11_laySamples_7 post n x1 x2 w → St tabM A s.heap g w H locs → lv_has ls 5 [(0, .ref (g.2.2 300)), (1, .int x1), (2, .int x2)] → W p l e (rk 3) s m args below meth c H locs 0 0 Q (F0 m 7 ls []) := by
  have hx := hC.1
  have hb := hC.2.1
  intro n
  induction n with
  | zero =>
    intro x1 x2 w H locs ls hp hS hl
    exact False.elim hp
  | succ n ih =>
    intro x1 x2 w H locs ls hp hS hl
    unfold pX11_laySamples_7 at hp
    refine lv_iload_n hx hb dX11_laySamples_7 rfl (lv_at hl 2 rfl) ?_
    refine lv_aload_n hx hb dX11_laySamples_8 rfl (lv_at hl 0 rfl) ?_
    refine G_300_58 hC hS m311 dX11_laySamples_9 ?_
    refine lv_icmp_ge (tgt := 68) hx hb dX11_laySamples_12 (by decide) (fun c_1 => ?_) (fun c_1 => ?_)
    · have hp := hp.1 c_1
      exact bX11_laySamples_68 hC hR  w _ _ _ hp hS (lv_sub hl [0] rfl)
    · have hp := hp.2 c_1
      refine lv_aload_n hx hb dX11_laySamples_15 rfl (lv_at hl 0 rfl) ?_
      refine G_300_63 hC hS m1282 dX11_laySamples_16 ?_
      refine lv_bipush hx hb dX11_laySamples_19 kB_7 ?_
      refine lv_icmp_ge (tgt := 68) hx hb dX11_laySamples_21 (by decide) (fun c_2 => ?_) (fun c_2 => ?_)
      · have hp := hp.1 c_2
        exact bX11_laySamples_68 hC hR  w _ _ _ hp hS (lv_sub hl [0] rfl)
      · have hp := hp.2 c_2
        refine lv_aload_n hx hb dX11_laySamples_24 rfl (lv_at hl 0 rfl) ?_
        refine lv_iload_n hx hb dX11_laySamples_25 rfl (lv_at hl 2 rfl) ?_
        refine lv_iconst hx hb dX11_laySamples_26 kI_0 ?_
        refine lv_iload_n hx hb dX11_laySamples_27 rfl (lv_at hl 1 rfl) ?_
        refine q_cvI (As := [.int x2, .int (0 : Int32), .int x1]) (rest := []) hC hS hl.1 (rX11_counts hp) cwX11_430 yvX11_counts (rcv_300 hC hS) rfl rfl (Nat.le_of_ble_eq_true rfl) (rmk (by decide) (by decide)) dX11_laySamples_28 (fun r_3 w_4 H locs hp hS => ?_)
        refine lv_if_ne (tgt := 37) hx hb dX11_laySamples_31 (by decide) (fun c_5 => ?_) (fun c_5 => ?_)
        · have hp := hp.1 c_5
          refine lv_aload_n hx hb dX11_laySamples_37 rfl (lv_at hl 0 rfl) ?_
          refine G_300_60 hC hS m290 dX11_laySamples_38 ?_
          refine lv_aload_n hx hb dX11_laySamples_41 rfl (lv_at hl 0 rfl) ?_
          refine G_300_63 hC hS m1282 dX11_laySamples_42 ?_
          refine lv_aload_n hx hb dX11_laySamples_45 rfl (lv_at hl 0 rfl) ?_
          refine G_300_53 hC hS m285 dX11_laySamples_46 ?_
          refine lv_iload_n hx hb dX11_laySamples_49 rfl (lv_at hl 2 rfl) ?_
          refine La_354 hC hS hp.1 dX11_laySamples_50 ?_
          have hp := hp.2
          refine Sa_361 hC hS hp.1 dX11_laySamples_51 (fun w_6 H locs ew_6 hS => ?_)
          have hp := hp.2
          have hp := hp w_6 ew_6
          refine lv_aload_n hx hb dX11_laySamples_52 rfl (lv_at hl 0 rfl) ?_
          refine lv_dup hx hb dX11_laySamples_53 rfl ?_
          refine G_300_63 hC hS m1282 dX11_laySamples_54 ?_
          refine lv_iconst hx hb dX11_laySamples_57 kI_1 ?_
          refine lv_iadd hx hb dX11_laySamples_58 ?_
          refine P_300_63 hC hS m1282 dX11_laySamples_59 (fun w_7 H locs ew_7 hS => ?_)
          have hp := hp w_7 ew_7
          exact bX11_laySamples_62 hC hR ih x1 x2 w_7 _ _ _ hp hS (lv_sub hl [0, 1, 2] rfl)
        · have hp := hp.2 c_5
          refine lv_goto (tgt := 62) hx hb dX11_laySamples_34 (by decide) ?_
          exact bX11_laySamples_62 hC hR ih x1 x2 w_4 _ _ _ hp hS (lv_sub hl [0, 1, 2] rfl)
set_option maxHeartbeats 4000000 in
set_option maxRecDepth 100000 in
theorem rX11_laySamples {l : Launch} {g : Gw} {w : Wd} {post : Wd → Prop}   {x1 : Int32} (hp : pX11_laySamples post x1 w) : MtV tabM l yX11_laySamples cX11_laySamples 5 none 3 g w [.ref (g.2.2 300), .int x1] post := by
  refine q_entV tabM_nd (by decide) rfl (Nat.le_of_ble_eq_true rfl) ?_
  intro p e s m args below meth c A Q ls hC hR hS hl
  have hx := hC.1
  have hb := hC.2.1
  have hl : lv_has ls 5 [(0, .ref (g.2.2 300)), (1, .int x1)] := hl
  unfold pX11_laySamples at hp
  refine lv_aload_n hx hb dX11_laySamples_0 rfl (lv_at hl 0 rfl) ?_
  refine lv_iconst hx hb dX11_laySamples_1 kI_0 ?_
  refine P_300_63 hC hS m1282 dX11_laySamples_2 (fun w_1 H locs ew_1 hS => ?_)
  have hp := hp w_1 ew_1
  refine lv_iconst hx hb dX11_laySamples_5 kI_0 ?_
  refine lv_istore_n (lv' := [(2, .int (0 : Int32)), (0, .ref (g.2.2 300)), (1, .int x1)]) hx hb dX11_laySamples_6 rfl hl (by decide) rfl (fun ls hl => ?_)
  obtain ⟨n9, hp⟩ := hp
  exact bX11_laySamples_7 hC hR n9 x1 (0 : Int32) w_1 _ _ _ hp hS (lv_sub hl [1, 2, 0] rfl)
def pX11_tree_176 (k76 : Int32 → Int32 → Int32 → Int32 → Int32 → Int32 → Wd → Prop) (post : Int32 → Wd → Prop) (x1 : Int32) (x2 : Int32) (x4 : Int32) (x5 : Int32) (x6 : Int32) (x7 : Int32) (w : Wd) : Prop := ∀ x7_1, x7_1 = x7 + (1 : Int32) → k76 x1 x2 x4 x5 x6 x7_1 w
def pX11_tree_172 (k76 : Int32 → Int32 → Int32 → Int32 → Int32 → Int32 → Wd → Prop) (post : Int32 → Wd → Prop) (x1 : Int32) (x2 : Int32) (x4 : Int32) (x6 : Int32) (x7 : Int32) (x8 : Int32) (w : Wd) : Prop := pX11_tree_176 k76 post x1 x2 x4 x8 x6 x7 w
def pX11_tree_143 (k76 : Int32 → Int32 → Int32 → Int32 → Int32 → Int32 → Wd → Prop) (post : Int32 → Wd → Prop) : Nat → Int32 → Int32 → Int32 → Int32 → Int32 → Int32 → Int32 → Wd → Prop
  | 0, _, _, _, _, _, _, _, _ => False
  | n + 1, x1, x2, x4, x6, x7, x8, x9, w => ((w.1 300 63) ≤ x9 → (pX11_tree_172 k76 post x1 x2 x4 x6 x7 x8 w)) ∧ (¬ (w.1 300 63) ≤ x9 → (vp_in x9 7 ∧ vp_in x9 12 ∧ ∀ w_2, w_2 = sA w 348 x9.toNatClampNeg (w.2.1 362 x9.toNatClampNeg) → ∀ x9_3, x9_3 = x9 + (1 : Int32) → pX11_tree_143 k76 post n x1 x2 x4 x6 x7 x8 x9_3 w_2))
def pX11_tree_132 (k76 : Int32 → Int32 → Int32 → Int32 → Int32 → Int32 → Wd → Prop) (post : Int32 → Wd → Prop) (x1 : Int32) (x2 : Int32) (x4 : Int32) (x7 : Int32) (x8 : Int32) (t0 : Int32) (w : Wd) : Prop := (¬ t0 = (1 : Int32) → (pX11_tree_172 k76 post x1 x2 x4 t0 x7 x8 w)) ∧ (t0 = (1 : Int32) → (∃ n9, pX11_tree_143 k76 post n9 x1 x2 x4 t0 x7 x8 (0 : Int32) w))
def pX11_tree_124 (k76 : Int32 → Int32 → Int32 → Int32 → Int32 → Int32 → Wd → Prop) (post : Int32 → Wd → Prop) (x1 : Int32) (x2 : Int32) (x4 : Int32) (x7 : Int32) (x8 : Int32) (w : Wd) : Prop := pX11_tree_132 k76 post x1 x2 x4 x7 x8 (1 : Int32) w
def pX11_tree_112 (k76 : Int32 → Int32 → Int32 → Int32 → Int32 → Int32 → Wd → Prop) (post : Int32 → Wd → Prop) (x1 : Int32) (x2 : Int32) (x4 : Int32) (x5 : Int32) (x6 : Int32) (x7 : Int32) (x8 : Int32) (w : Wd) : Prop := (x5 < 0 → (pX11_tree_124 k76 post x1 x2 x4 x7 x8 w)) ∧ (¬ x5 < 0 → ((x5 ≤ x8 → (pX11_tree_132 k76 post x1 x2 x4 x7 x8 (x6 + (1 : Int32)) w)) ∧ (¬ x5 ≤ x8 → (pX11_tree_124 k76 post x1 x2 x4 x7 x8 w))))
def pX11_tree_76 (post : Int32 → Wd → Prop) : Nat → Int32 → Int32 → Int32 → Int32 → Int32 → Int32 → Wd → Prop
  | 0, _, _, _, _, _, _, _ => False
  | n + 1, x1, x2, x4, x5, x6, x7, w => (x4 ≤ x7 → (∀ w_2, w_2 = sI w 300 48 (w.1 300 63) → (¬ x2 = 0 → (post x6 w_2)) ∧ (x2 = 0 → (post x5 w_2)))) ∧ (¬ x4 ≤ x7 → (pX11_changesOf (fun r_4 w_5 => (r_4 < 0 → (pX11_tree_176 (pX11_tree_76 post n) post x1 x2 x4 x5 x6 x7 w_5)) ∧ (¬ r_4 < 0 → ((x5 < 0 → (pX11_tree_112 (pX11_tree_76 post n) post x1 x2 x4 x5 x6 x7 r_4 w_5)) ∧ (¬ x5 < 0 → ((r_4 ≤ x5 → (pX11_tree_112 (pX11_tree_76 post n) post x1 x2 x4 x5 x6 x7 r_4 w_5)) ∧ (¬ r_4 ≤ x5 → (pX11_tree_176 (pX11_tree_76 post n) post x1 x2 x4 x5 x6 x7 w_5))))))) x7 x1 w))
def pX11_tree_41 (post : Int32 → Wd → Prop) : Nat → Int32 → Int32 → Int32 → Int32 → Wd → Prop
  | 0, _, _, _, _, _ => False
  | n + 1, x1, x2, x4, x5, w => ((w.1 300 63) ≤ x5 → (∃ n9, pX11_tree_76 post n9 x1 x2 x4 (-1 : Int32) (0 : Int32) (0 : Int32) w)) ∧ (¬ (w.1 300 63) ≤ x5 → (∀ x4_2, x4_2 = (x4 * ((w.1 300 63) - (1 : Int32))) → ∀ x5_3, x5_3 = x5 + (1 : Int32) → pX11_tree_41 post n x1 x2 x4_2 x5_3 w))
def pX11_tree (post : Int32 → Wd → Prop) (x1 : Int32) (x2 : Int32) (x3 : Int32) (w : Wd) : Prop := ∀ w_1, w_1 = sI w 300 48 (0 : Int32) → pX11_laySamples (fun w_2 => pX11_isIn (fun r_3 w_4 => (r_3 = 0 → (post (-1 : Int32) w_4)) ∧ (¬ r_3 = 0 → (pX11_isIn (fun r_6 w_7 => (¬ r_6 = 0 → (∃ n9, pX11_tree_41 post n9 x1 x2 (1 : Int32) (1 : Int32) w_7)) ∧ (r_6 = 0 → (post (-1 : Int32) w_7))) x2 (0 : Int32) (1 : Int32) w_4))) x1 (0 : Int32) ((w_2.1 300 63) - (1 : Int32)) w_2) x3 w_1
set_option maxHeartbeats 4000000 in
set_option maxRecDepth 100000 in
theorem bX11_tree_176 {p : Program} {l : Launch} {e : Env} {s : State} {m : MethodId} {args : Array Value} {below : List Frame} {meth : Method} {c : Code} {Q : State → Prop} {A : Nat → Prop} {g : Gw} {post : Int32 → Wd → Prop}  (hC : Cx p s m args c cX11_tree RX11 10 g) (hR : RtI tabM p l e (rk 4) s m args below meth c Q cX11_tree A g post)  {k76 : Int32 → Int32 → Int32 → Int32 → Int32 → Int32 → Wd → Prop} (hk76 : ∀ (x1 : Int32) (x2 : Int32) (x4 : Int32) (x5 : Int32) (x6 : Int32) (x7 : Int32) (w : Wd) (H : Heap) (locs : List Loc) (ls : Array Slot), k76 x1 x2 x4 x5 x6 x7 w → St tabM A s.heap g w H locs → lv_has ls 10 [(0, .ref (g.2.2 300)), (1, .int x1), (2, .int x2), (4, .int x4), (5, .int x5), (6, .int x6), (7, .int x7)] → W p l e (rk 4) s m args below meth c H locs 0 0 Q (F0 m 76 ls [])) : ∀ (x1 : Int32) (x2 : Int32) (x4 : Int32) (x5 : Int32) (x6 : Int32) (x7 : Int32) (w : Wd) (H : Heap) (locs : List Loc) (ls : Array Slot), pX11_tree_176 k76 post x1 x2 x4 x5 x6 x7 w → St tabM A s.heap g w H locs → lv_has ls 10 [(0, .ref (g.2.2 300)), (1, .int x1), (2, .int x2), (4, .int x4), (5, .int x5), (6, .int x6), (7, .int x7)] → W p l e (rk 4) s m args below meth c H locs 0 0 Q (F0 m 176 ls []) := by
  have hx := hC.1
  have hb := hC.2.1
  intro x1 x2 x4 x5 x6 x7 w H locs ls hp hS hl
  unfold pX11_tree_176 at hp
  obtain ⟨x7_1, ex7_1⟩ : ∃ y : Int32, y = x7 + (1 : Int32) := ⟨_, rfl⟩
  have hp := hp x7_1 ex7_1
  refine lv_iinc (v := x7_1) (lv' := [(7, .int x7_1), (0, .ref (g.2.2 300)), (1, .int x1), (2, .int x2), (4, .int x4), (5, .int x5), (6, .int x6)]) hx hb dX11_tree_176 hl (k := 6) rfl (by rw [ex7_1]; rfl) (by decide) rfl (fun ls hl => ?_)
  refine lv_goto (tgt := 76) hx hb dX11_tree_179 (by decide) ?_
  exact hk76 x1 x2 x4 x5 x6 x7_1 w _ _ _ hp hS (lv_sub hl [1, 2, 3, 4, 5, 6, 0] rfl)
set_option maxHeartbeats 4000000 in
set_option maxRecDepth 100000 in
theorem bX11_tree_172 {p : Program} {l : Launch} {e : Env} {s : State} {m : MethodId} {args : Array Value} {below : List Frame} {meth : Method} {c : Code} {Q : State → Prop} {A : Nat → Prop} {g : Gw} {post : Int32 → Wd → Prop}  (hC : Cx p s m args c cX11_tree RX11 10 g) (hR : RtI tabM p l e (rk 4) s m args below meth c Q cX11_tree A g post)  {k76 : Int32 → Int32 → Int32 → Int32 → Int32 → Int32 → Wd → Prop} (hk76 : ∀ (x1 : Int32) (x2 : Int32) (x4 : Int32) (x5 : Int32) (x6 : Int32) (x7 : Int32) (w : Wd) (H : Heap) (locs : List Loc) (ls : Array Slot), k76 x1 x2 x4 x5 x6 x7 w → St tabM A s.heap g w H locs → lv_has ls 10 [(0, .ref (g.2.2 300)), (1, .int x1), (2, .int x2), (4, .int x4), (5, .int x5), (6, .int x6), (7, .int x7)] → W p l e (rk 4) s m args below meth c H locs 0 0 Q (F0 m 76 ls [])) : ∀ (x1 : Int32) (x2 : Int32) (x4 : Int32) (x6 : Int32) (x7 : Int32) (x8 : Int32) (w : Wd) (H : Heap) (locs : List Loc) (ls : Array Slot), pX11_tree_172 k76 post x1 x2 x4 x6 x7 x8 w → St tabM A s.heap g w H locs → lv_has ls 10 [(0, .ref (g.2.2 300)), (1, .int x1), (2, .int x2), (4, .int x4), (6, .int x6), (7, .int x7), (8, .int x8)] → W p l e (rk 4) s m args below meth c H locs 0 0 Q (F0 m 172 ls []) := by
  have hx := hC.1
  have hb := hC.2.1
  intro x1 x2 x4 x6 x7 x8 w H locs ls hp hS hl
  unfold pX11_tree_172 at hp
  refine lv_iload hx hb dX11_tree_172 (lv_at hl 6 rfl) ?_
  refine lv_istore (lv' := [(5, .int x8), (0, .ref (g.2.2 300)), (1, .int x1), (2, .int x2), (4, .int x4), (6, .int x6), (7, .int x7), (8, .int x8)]) hx hb dX11_tree_174 hl (by decide) rfl (fun ls hl => ?_)
  exact bX11_tree_176 hC hR hk76 x1 x2 x4 x8 x6 x7 w _ _ _ hp hS (lv_sub hl [1, 2, 3, 4, 0, 5, 6] rfl)
set_option maxHeartbeats 4000000 in
set_option maxRecDepth 100000 in
theorem bX11_tree_143 {p : Program} {l : Launch} {e : Env} {s : State} {m : MethodId} {args : Array Value} {below : List Frame} {meth : Method} {c : Code} {Q : State → Prop} {A : Nat → Prop} {g : Gw} {post : Int32 → Wd → Prop}  (hC : Cx p s m args c cX11_tree RX11 10 g) (hR : RtI tabM p l e (rk 4) s m args below meth c Q cX11_tree A g post)  {k76 : Int32 → Int32 → Int32 → Int32 → Int32 → Int32 → Wd → Prop} (hk76 : ∀ (x1 : Int32) (x2 : Int32) (x4 : Int32) (x5 : Int32) (x6 : Int32) (x7 : Int32) (w : Wd) (H : Heap) (locs : List Loc) (ls : Array Slot), k76 x1 x2 x4 x5 x6 x7 w → St tabM A s.heap g w H locs → lv_has ls 10 [(0, .ref (g.2.2 300)), (1, .int x1), (2, .int x2), (4, .int x4), (5, .int x5), (6, .int x6), (7, .int x7)] → W p l e (rk 4) s m args below meth c H locs 0 0 Q (F0 m 76 ls [])) : ∀ (n : Nat) (x1 : Int32) (x2 : Int32) (x4 : Int32) (x6 : Int32) (x7 : Int32) (x8 : Int32) (x9 : Int32) (w : Wd) (H : Heap) (locs : List Loc) (ls : Array Slot), pX11_tree_143 k76 post n x1 x2 x4 x6 x7 x8 x9 w → St tabM A s.heap g w H locs → lv_has ls 10 [(0, .ref (g.2.2 300)), (1, .int x1), (2, .int x2), (4, .int x4), (6, .int x6), (7, .int x7), (8, .int x8), (9, .int x9)] → W p l e (rk 4) s m args below meth c H locs 0 0 Q (F0 m 143 ls []) := by
  have hx := hC.1
  have hb := hC.2.1
  intro n
  induction n with
  | zero =>
    intro x1 x2 x4 x6 x7 x8 x9 w H locs ls hp hS hl
    exact False.elim hp
  | succ n ih =>
    intro x1 x2 x4 x6 x7 x8 x9 w H locs ls hp hS hl
    unfold pX11_tree_143 at hp
    refine lv_iload hx hb dX11_tree_143 (lv_at hl 7 rfl) ?_
    refine lv_aload_n hx hb dX11_tree_145 rfl (lv_at hl 0 rfl) ?_
    refine G_300_63 hC hS m1282 dX11_tree_146 ?_
    refine lv_icmp_ge (tgt := 172) hx hb dX11_tree_149 (by decide) (fun c_1 => ?_) (fun c_1 => ?_)
    · have hp := hp.1 c_1
      exact bX11_tree_172 hC hR hk76 x1 x2 x4 x6 x7 x8 w _ _ _ hp hS (lv_sub hl [0, 1, 2, 3, 4, 5, 6] rfl)
    · have hp := hp.2 c_1
      refine lv_aload_n hx hb dX11_tree_152 rfl (lv_at hl 0 rfl) ?_
      refine G_300_47 hC hS m279 dX11_tree_153 ?_
      refine lv_iload hx hb dX11_tree_156 (lv_at hl 7 rfl) ?_
      refine lv_aload_n hx hb dX11_tree_158 rfl (lv_at hl 0 rfl) ?_
      refine G_300_61 hC hS m291 dX11_tree_159 ?_
      refine lv_iload hx hb dX11_tree_162 (lv_at hl 7 rfl) ?_
      refine La_362 hC hS hp.1 dX11_tree_164 ?_
      have hp := hp.2
      refine Sa_348 hC hS hp.1 dX11_tree_165 (fun w_2 H locs ew_2 hS => ?_)
      have hp := hp.2
      have hp := hp w_2 ew_2
      obtain ⟨x9_3, ex9_3⟩ : ∃ y : Int32, y = x9 + (1 : Int32) := ⟨_, rfl⟩
      have hp := hp x9_3 ex9_3
      refine lv_iinc (v := x9_3) (lv' := [(9, .int x9_3), (0, .ref (g.2.2 300)), (1, .int x1), (2, .int x2), (4, .int x4), (6, .int x6), (7, .int x7), (8, .int x8)]) hx hb dX11_tree_166 hl (k := 7) rfl (by rw [ex9_3]; rfl) (by decide) rfl (fun ls hl => ?_)
      refine lv_goto (tgt := 143) hx hb dX11_tree_169 (by decide) ?_
      exact ih x1 x2 x4 x6 x7 x8 x9_3 w_2 _ _ _ hp hS (lv_sub hl [1, 2, 3, 4, 5, 6, 7, 0] rfl)
set_option maxHeartbeats 4000000 in
set_option maxRecDepth 100000 in
theorem bX11_tree_132 {p : Program} {l : Launch} {e : Env} {s : State} {m : MethodId} {args : Array Value} {below : List Frame} {meth : Method} {c : Code} {Q : State → Prop} {A : Nat → Prop} {g : Gw} {post : Int32 → Wd → Prop}  (hC : Cx p s m args c cX11_tree RX11 10 g) (hR : RtI tabM p l e (rk 4) s m args below meth c Q cX11_tree A g post)  {k76 : Int32 → Int32 → Int32 → Int32 → Int32 → Int32 → Wd → Prop} (hk76 : ∀ (x1 : Int32) (x2 : Int32) (x4 : Int32) (x5 : Int32) (x6 : Int32) (x7 : Int32) (w : Wd) (H : Heap) (locs : List Loc) (ls : Array Slot), k76 x1 x2 x4 x5 x6 x7 w → St tabM A s.heap g w H locs → lv_has ls 10 [(0, .ref (g.2.2 300)), (1, .int x1), (2, .int x2), (4, .int x4), (5, .int x5), (6, .int x6), (7, .int x7)] → W p l e (rk 4) s m args below meth c H locs 0 0 Q (F0 m 76 ls [])) : ∀ (x1 : Int32) (x2 : Int32) (x4 : Int32) (x7 : Int32) (x8 : Int32) (t0 : Int32) (w : Wd) (H : Heap) (locs : List Loc) (ls : Array Slot), pX11_tree_132 k76 post x1 x2 x4 x7 x8 t0 w → St tabM A s.heap g w H locs → lv_has ls 10 [(0, .ref (g.2.2 300)), (1, .int x1), (2, .int x2), (4, .int x4), (7, .int x7), (8, .int x8)] → W p l e (rk 4) s m args below meth c H locs 0 0 Q (F0 m 132 ls [.int t0]) := by
  have hx := hC.1
  have hb := hC.2.1
  intro x1 x2 x4 x7 x8 t0 w H locs ls hp hS hl
  unfold pX11_tree_132 at hp
  refine lv_istore (lv' := [(6, .int t0), (0, .ref (g.2.2 300)), (1, .int x1), (2, .int x2), (4, .int x4), (7, .int x7), (8, .int x8)]) hx hb dX11_tree_132 hl (by decide) rfl (fun ls hl => ?_)
  refine lv_iload hx hb dX11_tree_134 (lv_at hl 0 rfl) ?_
  refine lv_iconst hx hb dX11_tree_136 kI_1 ?_
  refine lv_icmp_ne (tgt := 172) hx hb dX11_tree_137 (by decide) (fun c_1 => ?_) (fun c_1 => ?_)
  · have hp := hp.1 c_1
    exact bX11_tree_172 hC hR hk76 x1 x2 x4 t0 x7 x8 w _ _ _ hp hS (lv_sub hl [1, 2, 3, 4, 0, 5, 6] rfl)
  · have hp := hp.2 c_1
    refine lv_iconst hx hb dX11_tree_140 kI_0 ?_
    refine lv_istore (lv' := [(9, .int (0 : Int32)), (6, .int t0), (0, .ref (g.2.2 300)), (1, .int x1), (2, .int x2), (4, .int x4), (7, .int x7), (8, .int x8)]) hx hb dX11_tree_141 hl (by decide) rfl (fun ls hl => ?_)
    obtain ⟨n9, hp⟩ := hp
    exact bX11_tree_143 hC hR hk76 n9 x1 x2 x4 t0 x7 x8 (0 : Int32) w _ _ _ hp hS (lv_sub hl [2, 3, 4, 5, 1, 6, 7, 0] rfl)
set_option maxHeartbeats 4000000 in
set_option maxRecDepth 100000 in
theorem bX11_tree_124 {p : Program} {l : Launch} {e : Env} {s : State} {m : MethodId} {args : Array Value} {below : List Frame} {meth : Method} {c : Code} {Q : State → Prop} {A : Nat → Prop} {g : Gw} {post : Int32 → Wd → Prop}  (hC : Cx p s m args c cX11_tree RX11 10 g) (hR : RtI tabM p l e (rk 4) s m args below meth c Q cX11_tree A g post)  {k76 : Int32 → Int32 → Int32 → Int32 → Int32 → Int32 → Wd → Prop} (hk76 : ∀ (x1 : Int32) (x2 : Int32) (x4 : Int32) (x5 : Int32) (x6 : Int32) (x7 : Int32) (w : Wd) (H : Heap) (locs : List Loc) (ls : Array Slot), k76 x1 x2 x4 x5 x6 x7 w → St tabM A s.heap g w H locs → lv_has ls 10 [(0, .ref (g.2.2 300)), (1, .int x1), (2, .int x2), (4, .int x4), (5, .int x5), (6, .int x6), (7, .int x7)] → W p l e (rk 4) s m args below meth c H locs 0 0 Q (F0 m 76 ls [])) : ∀ (x1 : Int32) (x2 : Int32) (x4 : Int32) (x7 : Int32) (x8 : Int32) (w : Wd) (H : Heap) (locs : List Loc) (ls : Array Slot), pX11_tree_124 k76 post x1 x2 x4 x7 x8 w → St tabM A s.heap g w H locs → lv_has ls 10 [(0, .ref (g.2.2 300)), (1, .int x1), (2, .int x2), (4, .int x4), (7, .int x7), (8, .int x8)] → W p l e (rk 4) s m args below meth c H locs 0 0 Q (F0 m 124 ls []) := by
  have hx := hC.1
  have hb := hC.2.1
  intro x1 x2 x4 x7 x8 w H locs ls hp hS hl
  unfold pX11_tree_124 at hp
  refine lv_iconst hx hb dX11_tree_124 kI_1 ?_
  refine lv_goto (tgt := 132) hx hb dX11_tree_125 (by decide) ?_
  exact bX11_tree_132 hC hR hk76 x1 x2 x4 x7 x8 (1 : Int32) w _ _ _ hp hS (lv_sub hl [0, 1, 2, 3, 4, 5] rfl)
set_option maxHeartbeats 4000000 in
set_option maxRecDepth 100000 in
theorem bX11_tree_112 {p : Program} {l : Launch} {e : Env} {s : State} {m : MethodId} {args : Array Value} {below : List Frame} {meth : Method} {c : Code} {Q : State → Prop} {A : Nat → Prop} {g : Gw} {post : Int32 → Wd → Prop}  (hC : Cx p s m args c cX11_tree RX11 10 g) (hR : RtI tabM p l e (rk 4) s m args below meth c Q cX11_tree A g post)  {k76 : Int32 → Int32 → Int32 → Int32 → Int32 → Int32 → Wd → Prop} (hk76 : ∀ (x1 : Int32) (x2 : Int32) (x4 : Int32) (x5 : Int32) (x6 : Int32) (x7 : Int32) (w : Wd) (H : Heap) (locs : List Loc) (ls : Array Slot), k76 x1 x2 x4 x5 x6 x7 w → St tabM A s.heap g w H locs → lv_has ls 10 [(0, .ref (g.2.2 300)), (1, .int x1), (2, .int x2), (4, .int x4), (5, .int x5), (6, .int x6), (7, .int x7)] → W p l e (rk 4) s m args below meth c H locs 0 0 Q (F0 m 76 ls [])) : ∀ (x1 : Int32) (x2 : Int32) (x4 : Int32) (x5 : Int32) (x6 : Int32) (x7 : Int32) (x8 : Int32) (w : Wd) (H : Heap) (locs : List Loc) (ls : Array Slot), pX11_tree_112 k76 post x1 x2 x4 x5 x6 x7 x8 w → St tabM A s.heap g w H locs → lv_has ls 10 [(0, .ref (g.2.2 300)), (1, .int x1), (2, .int x2), (4, .int x4), (5, .int x5), (6, .int x6), (7, .int x7), (8, .int x8)] → W p l e (rk 4) s m args below meth c H locs 0 0 Q (F0 m 112 ls []) := by
  have hx := hC.1
  have hb := hC.2.1
  intro x1 x2 x4 x5 x6 x7 x8 w H locs ls hp hS hl
  unfold pX11_tree_112 at hp
  refine lv_iload hx hb dX11_tree_112 (lv_at hl 4 rfl) ?_
  refine lv_if_lt (tgt := 124) hx hb dX11_tree_114 (by decide) (fun c_1 => ?_) (fun c_1 => ?_)
  · have hp := hp.1 c_1
    exact bX11_tree_124 hC hR hk76 x1 x2 x4 x7 x8 w _ _ _ hp hS (lv_sub hl [0, 1, 2, 3, 6, 7] rfl)
  · have hp := hp.2 c_1
    refine lv_iload hx hb dX11_tree_117 (lv_at hl 7 rfl) ?_
    refine lv_iload hx hb dX11_tree_119 (lv_at hl 4 rfl) ?_
    refine lv_icmp_ge (tgt := 128) hx hb dX11_tree_121 (by decide) (fun c_2 => ?_) (fun c_2 => ?_)
    · have hp := hp.1 c_2
      refine lv_iload hx hb dX11_tree_128 (lv_at hl 5 rfl) ?_
      refine lv_iconst hx hb dX11_tree_130 kI_1 ?_
      refine lv_iadd hx hb dX11_tree_131 ?_
      exact bX11_tree_132 hC hR hk76 x1 x2 x4 x7 x8 (x6 + (1 : Int32)) w _ _ _ hp hS (lv_sub hl [0, 1, 2, 3, 6, 7] rfl)
    · have hp := hp.2 c_2
      exact bX11_tree_124 hC hR hk76 x1 x2 x4 x7 x8 w _ _ _ hp hS (lv_sub hl [0, 1, 2, 3, 6, 7] rfl)
set_option maxHeartbeats 4000000 in
set_option maxRecDepth 100000 in
theorem bX11_tree_76 {p : Program} {l : Launch} {e : Env} {s : State} {m : MethodId} {args : Array Value} {below : List Frame} {meth : Method} {c : Code} {Q : State → Prop} {A : Nat → Prop} {g : Gw} {post : Int32 → Wd → Prop}  (hC : Cx p s m args c cX11_tree RX11 10 g) (hR : RtI tabM p l e (rk 4) s m args below meth c Q cX11_tree A g post)  : ∀ (n : Nat) (x1 : Int32) (x2 : Int32) (x4 : Int32) (x5 : Int32) (x6 : Int32) (x7 : Int32) (w : Wd) (H : Heap) (locs : List Loc) (ls : Array Slot), pX11_tree_76 post n x1 x2 x4 x5 x6 x7 w → St tabM A s.heap g w H locs → lv_has ls 10 [(0, .ref (g.2.2 300)), (1, .int x1), (2, .int x2), (4, .int x4), (5, .int x5), (6, .int x6), (7, .int x7)] → W p l e (rk 4) s m args below meth c H locs 0 0 Q (F0 m 76 ls []) := by
  have hx := hC.1
  have hb := hC.2.1
  intro n
  induction n with
  | zero =>
    intro x1 x2 x4 x5 x6 x7 w H locs ls hp hS hl
    exact False.elim hp
  | succ n ih =>
    intro x1 x2 x4 x5 x6 x7 w H locs ls hp hS hl
    unfold pX11_tree_76 at hp
    refine lv_iload hx hb dX11_tree_76 (lv_at hl 6 rfl) ?_
    refine lv_iload hx hb dX11_tree_78 (lv_at hl 3 rfl) ?_
    refine lv_icmp_ge (tgt := 182) hx hb dX11_tree_80 (by decide) (fun c_1 => ?_) (fun c_1 => ?_)
    · have hp := hp.1 c_1
      refine lv_aload_n hx hb dX11_tree_182 rfl (lv_at hl 0 rfl) ?_
      refine lv_aload_n hx hb dX11_tree_183 rfl (lv_at hl 0 rfl) ?_
      refine G_300_63 hC hS m1282 dX11_tree_184 ?_
      refine P_300_48 hC hS m312 dX11_tree_187 (fun w_2 H locs ew_2 hS => ?_)
      have hp := hp w_2 ew_2
      refine lv_iload_n hx hb dX11_tree_190 rfl (lv_at hl 2 rfl) ?_
      refine lv_if_ne (tgt := 199) hx hb dX11_tree_191 (by decide) (fun c_3 => ?_) (fun c_3 => ?_)
      · have hp := hp.1 c_3
        refine lv_iload hx hb dX11_tree_199 (lv_at hl 5 rfl) ?_
        exact hR _ _ _ _ _ _ dX11_tree_201 hp hS
      · have hp := hp.2 c_3
        refine lv_iload hx hb dX11_tree_194 (lv_at hl 4 rfl) ?_
        refine lv_goto (tgt := 201) hx hb dX11_tree_196 (by decide) ?_
        exact hR _ _ _ _ _ _ dX11_tree_201 hp hS
    · have hp := hp.2 c_1
      refine lv_aload_n hx hb dX11_tree_83 rfl (lv_at hl 0 rfl) ?_
      refine lv_iload hx hb dX11_tree_84 (lv_at hl 6 rfl) ?_
      refine lv_iload_n hx hb dX11_tree_86 rfl (lv_at hl 1 rfl) ?_
      refine q_cvI (As := [.int x7, .int x1]) (rest := []) hC hS hl.1 (rX11_changesOf hp) cwX11_436 yvX11_changesOf (rcv_300 hC hS) rfl rfl (Nat.le_of_ble_eq_true rfl) (rmk (by decide) (by decide)) dX11_tree_87 (fun r_4 w_5 H locs hp hS => ?_)
      refine lv_istore (lv' := [(8, .int r_4), (0, .ref (g.2.2 300)), (1, .int x1), (2, .int x2), (4, .int x4), (5, .int x5), (6, .int x6), (7, .int x7)]) hx hb dX11_tree_90 hl (by decide) rfl (fun ls hl => ?_)
      refine lv_iload hx hb dX11_tree_92 (lv_at hl 0 rfl) ?_
      refine lv_if_lt (tgt := 176) hx hb dX11_tree_94 (by decide) (fun c_6 => ?_) (fun c_6 => ?_)
      · have hp := hp.1 c_6
        exact bX11_tree_176 hC hR ih x1 x2 x4 x5 x6 x7 w_5 _ _ _ hp hS (lv_sub hl [1, 2, 3, 4, 5, 6, 7] rfl)
      · have hp := hp.2 c_6
        refine lv_iload hx hb dX11_tree_97 (lv_at hl 5 rfl) ?_
        refine lv_if_lt (tgt := 112) hx hb dX11_tree_99 (by decide) (fun c_7 => ?_) (fun c_7 => ?_)
        · have hp := hp.1 c_7
          exact bX11_tree_112 hC hR ih x1 x2 x4 x5 x6 x7 r_4 w_5 _ _ _ hp hS (lv_sub hl [1, 2, 3, 4, 5, 6, 7, 0] rfl)
        · have hp := hp.2 c_7
          refine lv_iload hx hb dX11_tree_102 (lv_at hl 0 rfl) ?_
          refine lv_iload hx hb dX11_tree_104 (lv_at hl 5 rfl) ?_
          refine lv_icmp_le (tgt := 112) hx hb dX11_tree_106 (by decide) (fun c_8 => ?_) (fun c_8 => ?_)
          · have hp := hp.1 c_8
            exact bX11_tree_112 hC hR ih x1 x2 x4 x5 x6 x7 r_4 w_5 _ _ _ hp hS (lv_sub hl [1, 2, 3, 4, 5, 6, 7, 0] rfl)
          · have hp := hp.2 c_8
            refine lv_goto (tgt := 176) hx hb dX11_tree_109 (by decide) ?_
            exact bX11_tree_176 hC hR ih x1 x2 x4 x5 x6 x7 w_5 _ _ _ hp hS (lv_sub hl [1, 2, 3, 4, 5, 6, 7] rfl)
set_option maxHeartbeats 4000000 in
set_option maxRecDepth 100000 in
theorem bX11_tree_41 {p : Program} {l : Launch} {e : Env} {s : State} {m : MethodId} {args : Array Value} {below : List Frame} {meth : Method} {c : Code} {Q : State → Prop} {A : Nat → Prop} {g : Gw} {post : Int32 → Wd → Prop}  (hC : Cx p s m args c cX11_tree RX11 10 g) (hR : RtI tabM p l e (rk 4) s m args below meth c Q cX11_tree A g post)  : ∀ (n : Nat) (x1 : Int32) (x2 : Int32) (x4 : Int32) (x5 : Int32) (w : Wd) (H : Heap) (locs : List Loc) (ls : Array Slot), pX11_tree_41 post n x1 x2 x4 x5 w → St tabM A s.heap g w H locs → lv_has ls 10 [(0, .ref (g.2.2 300)), (1, .int x1), (2, .int x2), (4, .int x4), (5, .int x5)] → W p l e (rk 4) s m args below meth c H locs 0 0 Q (F0 m 41 ls []) := by
  have hx := hC.1
  have hb := hC.2.1
  intro n
  induction n with
  | zero =>
    intro x1 x2 x4 x5 w H locs ls hp hS hl
    exact False.elim hp
  | succ n ih =>
    intro x1 x2 x4 x5 w H locs ls hp hS hl
    unfold pX11_tree_41 at hp
    refine lv_iload hx hb dX11_tree_41 (lv_at hl 4 rfl) ?_
    refine lv_aload_n hx hb dX11_tree_43 rfl (lv_at hl 0 rfl) ?_
    refine G_300_63 hC hS m1282 dX11_tree_44 ?_
    refine lv_icmp_ge (tgt := 67) hx hb dX11_tree_47 (by decide) (fun c_1 => ?_) (fun c_1 => ?_)
    · have hp := hp.1 c_1
      refine lv_iconst hx hb dX11_tree_67 kI_m1 ?_
      refine lv_istore (lv' := [(5, .int (-1 : Int32)), (0, .ref (g.2.2 300)), (1, .int x1), (2, .int x2), (4, .int x4)]) hx hb dX11_tree_68 hl (by decide) rfl (fun ls hl => ?_)
      refine lv_iconst hx hb dX11_tree_70 kI_0 ?_
      refine lv_istore (lv' := [(6, .int (0 : Int32)), (5, .int (-1 : Int32)), (0, .ref (g.2.2 300)), (1, .int x1), (2, .int x2), (4, .int x4)]) hx hb dX11_tree_71 hl (by decide) rfl (fun ls hl => ?_)
      refine lv_iconst hx hb dX11_tree_73 kI_0 ?_
      refine lv_istore (lv' := [(7, .int (0 : Int32)), (6, .int (0 : Int32)), (5, .int (-1 : Int32)), (0, .ref (g.2.2 300)), (1, .int x1), (2, .int x2), (4, .int x4)]) hx hb dX11_tree_74 hl (by decide) rfl (fun ls hl => ?_)
      obtain ⟨n9, hp⟩ := hp
      exact bX11_tree_76 hC hR n9 x1 x2 x4 (-1 : Int32) (0 : Int32) (0 : Int32) w _ _ _ hp hS (lv_sub hl [3, 4, 5, 6, 2, 1, 0] rfl)
    · have hp := hp.2 c_1
      refine lv_iload hx hb dX11_tree_50 (lv_at hl 3 rfl) ?_
      refine lv_aload_n hx hb dX11_tree_52 rfl (lv_at hl 0 rfl) ?_
      refine G_300_63 hC hS m1282 dX11_tree_53 ?_
      refine lv_iconst hx hb dX11_tree_56 kI_1 ?_
      refine lv_isub hx hb dX11_tree_57 ?_
      refine lv_imul hx hb dX11_tree_58 ?_
      refine lv_topi (fun x4_2 ex4_2 => ?_)
      have hp := hp x4_2 ex4_2
      refine lv_istore (lv' := [(4, .int x4_2), (0, .ref (g.2.2 300)), (1, .int x1), (2, .int x2), (5, .int x5)]) hx hb dX11_tree_59 hl (by decide) rfl (fun ls hl => ?_)
      obtain ⟨x5_3, ex5_3⟩ : ∃ y : Int32, y = x5 + (1 : Int32) := ⟨_, rfl⟩
      have hp := hp x5_3 ex5_3
      refine lv_iinc (v := x5_3) (lv' := [(5, .int x5_3), (4, .int x4_2), (0, .ref (g.2.2 300)), (1, .int x1), (2, .int x2)]) hx hb dX11_tree_61 hl (k := 4) rfl (by rw [ex5_3]; rfl) (by decide) rfl (fun ls hl => ?_)
      refine lv_goto (tgt := 41) hx hb dX11_tree_64 (by decide) ?_
      exact ih x1 x2 x4_2 x5_3 w _ _ _ hp hS (lv_sub hl [2, 3, 4, 1, 0] rfl)
set_option maxHeartbeats 4000000 in
set_option maxRecDepth 100000 in
theorem rX11_tree {l : Launch} {g : Gw} {w : Wd} {post : Int32 → Wd → Prop}   {x1 : Int32} {x2 : Int32} {x3 : Int32} (hp : pX11_tree post x1 x2 x3 w) : MtI tabM l yX11_tree cX11_tree 10 (some .int) 4 g w [.ref (g.2.2 300), .int x1, .int x2, .int x3] post := by
  refine q_entI tabM_nd (by decide) rfl (Nat.le_of_ble_eq_true rfl) ?_
  intro p e s m args below meth c A Q ls hC hR hS hl
  have hx := hC.1
  have hb := hC.2.1
  have hl : lv_has ls 10 [(0, .ref (g.2.2 300)), (1, .int x1), (2, .int x2), (3, .int x3)] := hl
  unfold pX11_tree at hp
  refine lv_aload_n hx hb dX11_tree_0 rfl (lv_at hl 0 rfl) ?_
  refine lv_iconst hx hb dX11_tree_1 kI_0 ?_
  refine P_300_48 hC hS m312 dX11_tree_2 (fun w_1 H locs ew_1 hS => ?_)
  have hp := hp w_1 ew_1
  refine lv_aload_n hx hb dX11_tree_5 rfl (lv_at hl 0 rfl) ?_
  refine lv_iload_n hx hb dX11_tree_6 rfl (lv_at hl 3 rfl) ?_
  refine q_cvV (As := [.int x3]) (rest := []) hC hS hl.1 (rX11_laySamples hp) cwX11_433 yvX11_laySamples (rcv_300 hC hS) rfl rfl (Nat.le_of_ble_eq_true rfl) (rmk (by decide) (by decide)) dX11_tree_7 (fun w_2 H locs hp hS => ?_)
  refine lv_iload_n hx hb dX11_tree_10 rfl (lv_at hl 1 rfl) ?_
  refine lv_iconst hx hb dX11_tree_11 kI_0 ?_
  refine lv_aload_n hx hb dX11_tree_12 rfl (lv_at hl 0 rfl) ?_
  refine G_300_63 hC hS m1282 dX11_tree_13 ?_
  refine lv_iconst hx hb dX11_tree_16 kI_1 ?_
  refine lv_isub hx hb dX11_tree_17 ?_
  refine q_csI (As := [.int x1, .int (0 : Int32), .int ((w_2.1 300 63) - (1 : Int32))]) (rest := []) hC hS hl.1 (rX11_isIn hp) cwX11_345 ysX11_isIn rfl rfl (Nat.le_of_ble_eq_true rfl) (rmk (by decide) (by decide)) dX11_tree_18 (fun r_3 w_4 H locs hp hS => ?_)
  refine lv_if_eq (tgt := 33) hx hb dX11_tree_21 (by decide) (fun c_5 => ?_) (fun c_5 => ?_)
  · have hp := hp.1 c_5
    refine lv_iconst hx hb dX11_tree_33 kI_m1 ?_
    exact hR _ _ _ _ _ _ dX11_tree_34 hp hS
  · have hp := hp.2 c_5
    refine lv_iload_n hx hb dX11_tree_24 rfl (lv_at hl 2 rfl) ?_
    refine lv_iconst hx hb dX11_tree_25 kI_0 ?_
    refine lv_iconst hx hb dX11_tree_26 kI_1 ?_
    refine q_csI (As := [.int x2, .int (0 : Int32), .int (1 : Int32)]) (rest := []) hC hS hl.1 (rX11_isIn hp) cwX11_345 ysX11_isIn rfl rfl (Nat.le_of_ble_eq_true rfl) (rmk (by decide) (by decide)) dX11_tree_27 (fun r_6 w_7 H locs hp hS => ?_)
    refine lv_if_ne (tgt := 35) hx hb dX11_tree_30 (by decide) (fun c_8 => ?_) (fun c_8 => ?_)
    · have hp := hp.1 c_8
      refine lv_iconst hx hb dX11_tree_35 kI_1 ?_
      refine lv_istore (lv' := [(4, .int (1 : Int32)), (0, .ref (g.2.2 300)), (1, .int x1), (2, .int x2), (3, .int x3)]) hx hb dX11_tree_36 hl (by decide) rfl (fun ls hl => ?_)
      refine lv_iconst hx hb dX11_tree_38 kI_1 ?_
      refine lv_istore (lv' := [(5, .int (1 : Int32)), (4, .int (1 : Int32)), (0, .ref (g.2.2 300)), (1, .int x1), (2, .int x2), (3, .int x3)]) hx hb dX11_tree_39 hl (by decide) rfl (fun ls hl => ?_)
      obtain ⟨n9, hp⟩ := hp
      exact bX11_tree_41 hC hR n9 x1 x2 (1 : Int32) (1 : Int32) w_7 _ _ _ hp hS (lv_sub hl [2, 3, 4, 1, 0] rfl)
    · have hp := hp.2 c_8
      refine lv_iconst hx hb dX11_tree_33 kI_m1 ?_
      exact hR _ _ _ _ _ _ dX11_tree_34 hp hS
def pX11_centre_107 (k31 : Int32 → Int32 → Int32 → Int32 → Wd → Prop) (post : Int32 → Wd → Prop) (x1 : Int32) (x3 : Int32) (x4 : Int32) (x5 : Int32) (w : Wd) : Prop := ∀ x5_1, x5_1 = x5 + (1 : Int32) → k31 x1 x3 x4 x5_1 w
def pX11_centre_100 (k31 : Int32 → Int32 → Int32 → Int32 → Wd → Prop) (post : Int32 → Wd → Prop) (x1 : Int32) (x5 : Int32) (x6 : Int32) (w : Wd) : Prop := pX11_centre_107 k31 post x1 x5 x6 x5 w
def pX11_centre_80 (k46 : Int32 → Int32 → Int32 → Int32 → Int32 → Int32 → Wd → Prop) (post : Int32 → Wd → Prop) (x1 : Int32) (x3 : Int32) (x4 : Int32) (x5 : Int32) (x6 : Int32) (x7 : Int32) (w : Wd) : Prop := ∀ x7_1, x7_1 = x7 + (1 : Int32) → k46 x1 x3 x4 x5 x6 x7_1 w
def pX11_centre_46 (k31 : Int32 → Int32 → Int32 → Int32 → Wd → Prop) (post : Int32 → Wd → Prop) : Nat → Int32 → Int32 → Int32 → Int32 → Int32 → Int32 → Wd → Prop
  | 0, _, _, _, _, _, _, _ => False
  | n + 1, x1, x3, x4, x5, x6, x7, w => ((w.1 300 63) ≤ x7 → ((x3 < 0 → (pX11_centre_100 k31 post x1 x5 x6 w)) ∧ (¬ x3 < 0 → ((x6 < x4 → (pX11_centre_100 k31 post x1 x5 x6 w)) ∧ (¬ x6 < x4 → (pX11_centre_107 k31 post x1 x3 x4 x5 w)))))) ∧ (¬ (w.1 300 63) ≤ x7 → ((x7 = x5 → (pX11_centre_80 (pX11_centre_46 k31 post n) post x1 x3 x4 x5 x6 x7 w)) ∧ (¬ x7 = x5 → (vp_in (((7 : Int32) * x5) + x7) 49 ∧ ∀ x6_5, x6_5 = (x6 + (w.2.1 363 (((7 : Int32) * x5) + x7).toNatClampNeg)) → pX11_centre_80 (pX11_centre_46 k31 post n) post x1 x3 x4 x5 x6_5 x7 w))))
def pX11_centre_31 (post : Int32 → Wd → Prop) : Nat → Int32 → Int32 → Int32 → Int32 → Wd → Prop
  | 0, _, _, _, _, _ => False
  | n + 1, x1, x3, x4, x5, w => ((w.1 300 63) ≤ x5 → ((¬ x1 = 0 → (post x4 w)) ∧ (x1 = 0 → (post x3 w)))) ∧ (¬ (w.1 300 63) ≤ x5 → (∃ n9, pX11_centre_46 (pX11_centre_31 post n) post n9 x1 x3 x4 x5 (0 : Int32) (0 : Int32) w))
def pX11_centre (post : Int32 → Wd → Prop) (x1 : Int32) (x2 : Int32) (w : Wd) : Prop := pX11_laySamples (fun w_1 => ((w_1.1 300 63) = 0 → (post (-1 : Int32) w_1)) ∧ (¬ (w_1.1 300 63) = 0 → (pX11_isIn (fun r_3 w_4 => (¬ r_3 = 0 → (∃ n9, pX11_centre_31 post n9 x1 (-1 : Int32) (0 : Int32) (0 : Int32) w_4)) ∧ (r_3 = 0 → (post (-1 : Int32) w_4))) x1 (0 : Int32) (1 : Int32) w_1))) x2 w
set_option maxHeartbeats 4000000 in
set_option maxRecDepth 100000 in
theorem bX11_centre_107 {p : Program} {l : Launch} {e : Env} {s : State} {m : MethodId} {args : Array Value} {below : List Frame} {meth : Method} {c : Code} {Q : State → Prop} {A : Nat → Prop} {g : Gw} {post : Int32 → Wd → Prop}  (hC : Cx p s m args c cX11_centre RX11 8 g) (hR : RtI tabM p l e (rk 4) s m args below meth c Q cX11_centre A g post)  {k31 : Int32 → Int32 → Int32 → Int32 → Wd → Prop} (hk31 : ∀ (x1 : Int32) (x3 : Int32) (x4 : Int32) (x5 : Int32) (w : Wd) (H : Heap) (locs : List Loc) (ls : Array Slot), k31 x1 x3 x4 x5 w → St tabM A s.heap g w H locs → lv_has ls 8 [(0, .ref (g.2.2 300)), (1, .int x1), (3, .int x3), (4, .int x4), (5, .int x5)] → W p l e (rk 4) s m args below meth c H locs 0 0 Q (F0 m 31 ls [])) : ∀ (x1 : Int32) (x3 : Int32) (x4 : Int32) (x5 : Int32) (w : Wd) (H : Heap) (locs : List Loc) (ls : Array Slot), pX11_centre_107 k31 post x1 x3 x4 x5 w → St tabM A s.heap g w H locs → lv_has ls 8 [(0, .ref (g.2.2 300)), (1, .int x1), (3, .int x3), (4, .int x4), (5, .int x5)] → W p l e (rk 4) s m args below meth c H locs 0 0 Q (F0 m 107 ls []) := by
  have hx := hC.1
  have hb := hC.2.1
  intro x1 x3 x4 x5 w H locs ls hp hS hl
  unfold pX11_centre_107 at hp
  obtain ⟨x5_1, ex5_1⟩ : ∃ y : Int32, y = x5 + (1 : Int32) := ⟨_, rfl⟩
  have hp := hp x5_1 ex5_1
  refine lv_iinc (v := x5_1) (lv' := [(5, .int x5_1), (0, .ref (g.2.2 300)), (1, .int x1), (3, .int x3), (4, .int x4)]) hx hb dX11_centre_107 hl (k := 4) rfl (by rw [ex5_1]; rfl) (by decide) rfl (fun ls hl => ?_)
  refine lv_goto (tgt := 31) hx hb dX11_centre_110 (by decide) ?_
  exact hk31 x1 x3 x4 x5_1 w _ _ _ hp hS (lv_sub hl [1, 2, 3, 4, 0] rfl)
set_option maxHeartbeats 4000000 in
set_option maxRecDepth 100000 in
theorem bX11_centre_100 {p : Program} {l : Launch} {e : Env} {s : State} {m : MethodId} {args : Array Value} {below : List Frame} {meth : Method} {c : Code} {Q : State → Prop} {A : Nat → Prop} {g : Gw} {post : Int32 → Wd → Prop}  (hC : Cx p s m args c cX11_centre RX11 8 g) (hR : RtI tabM p l e (rk 4) s m args below meth c Q cX11_centre A g post)  {k31 : Int32 → Int32 → Int32 → Int32 → Wd → Prop} (hk31 : ∀ (x1 : Int32) (x3 : Int32) (x4 : Int32) (x5 : Int32) (w : Wd) (H : Heap) (locs : List Loc) (ls : Array Slot), k31 x1 x3 x4 x5 w → St tabM A s.heap g w H locs → lv_has ls 8 [(0, .ref (g.2.2 300)), (1, .int x1), (3, .int x3), (4, .int x4), (5, .int x5)] → W p l e (rk 4) s m args below meth c H locs 0 0 Q (F0 m 31 ls [])) : ∀ (x1 : Int32) (x5 : Int32) (x6 : Int32) (w : Wd) (H : Heap) (locs : List Loc) (ls : Array Slot), pX11_centre_100 k31 post x1 x5 x6 w → St tabM A s.heap g w H locs → lv_has ls 8 [(0, .ref (g.2.2 300)), (1, .int x1), (5, .int x5), (6, .int x6)] → W p l e (rk 4) s m args below meth c H locs 0 0 Q (F0 m 100 ls []) := by
  have hx := hC.1
  have hb := hC.2.1
  intro x1 x5 x6 w H locs ls hp hS hl
  unfold pX11_centre_100 at hp
  refine lv_iload hx hb dX11_centre_100 (lv_at hl 2 rfl) ?_
  refine lv_istore_n (lv' := [(3, .int x5), (0, .ref (g.2.2 300)), (1, .int x1), (5, .int x5), (6, .int x6)]) hx hb dX11_centre_102 rfl hl (by decide) rfl (fun ls hl => ?_)
  refine lv_iload hx hb dX11_centre_103 (lv_at hl 4 rfl) ?_
  refine lv_istore (lv' := [(4, .int x6), (3, .int x5), (0, .ref (g.2.2 300)), (1, .int x1), (5, .int x5), (6, .int x6)]) hx hb dX11_centre_105 hl (by decide) rfl (fun ls hl => ?_)
  exact bX11_centre_107 hC hR hk31 x1 x5 x6 x5 w _ _ _ hp hS (lv_sub hl [2, 3, 1, 0, 4] rfl)
set_option maxHeartbeats 4000000 in
set_option maxRecDepth 100000 in
theorem bX11_centre_80 {p : Program} {l : Launch} {e : Env} {s : State} {m : MethodId} {args : Array Value} {below : List Frame} {meth : Method} {c : Code} {Q : State → Prop} {A : Nat → Prop} {g : Gw} {post : Int32 → Wd → Prop}  (hC : Cx p s m args c cX11_centre RX11 8 g) (hR : RtI tabM p l e (rk 4) s m args below meth c Q cX11_centre A g post)  {k46 : Int32 → Int32 → Int32 → Int32 → Int32 → Int32 → Wd → Prop} (hk46 : ∀ (x1 : Int32) (x3 : Int32) (x4 : Int32) (x5 : Int32) (x6 : Int32) (x7 : Int32) (w : Wd) (H : Heap) (locs : List Loc) (ls : Array Slot), k46 x1 x3 x4 x5 x6 x7 w → St tabM A s.heap g w H locs → lv_has ls 8 [(0, .ref (g.2.2 300)), (1, .int x1), (3, .int x3), (4, .int x4), (5, .int x5), (6, .int x6), (7, .int x7)] → W p l e (rk 4) s m args below meth c H locs 0 0 Q (F0 m 46 ls [])) : ∀ (x1 : Int32) (x3 : Int32) (x4 : Int32) (x5 : Int32) (x6 : Int32) (x7 : Int32) (w : Wd) (H : Heap) (locs : List Loc) (ls : Array Slot), pX11_centre_80 k46 post x1 x3 x4 x5 x6 x7 w → St tabM A s.heap g w H locs → lv_has ls 8 [(0, .ref (g.2.2 300)), (1, .int x1), (3, .int x3), (4, .int x4), (5, .int x5), (6, .int x6), (7, .int x7)] → W p l e (rk 4) s m args below meth c H locs 0 0 Q (F0 m 80 ls []) := by
  have hx := hC.1
  have hb := hC.2.1
  intro x1 x3 x4 x5 x6 x7 w H locs ls hp hS hl
  unfold pX11_centre_80 at hp
  obtain ⟨x7_1, ex7_1⟩ : ∃ y : Int32, y = x7 + (1 : Int32) := ⟨_, rfl⟩
  have hp := hp x7_1 ex7_1
  refine lv_iinc (v := x7_1) (lv' := [(7, .int x7_1), (0, .ref (g.2.2 300)), (1, .int x1), (3, .int x3), (4, .int x4), (5, .int x5), (6, .int x6)]) hx hb dX11_centre_80 hl (k := 6) rfl (by rw [ex7_1]; rfl) (by decide) rfl (fun ls hl => ?_)
  refine lv_goto (tgt := 46) hx hb dX11_centre_83 (by decide) ?_
  exact hk46 x1 x3 x4 x5 x6 x7_1 w _ _ _ hp hS (lv_sub hl [1, 2, 3, 4, 5, 6, 0] rfl)
set_option maxHeartbeats 4000000 in
set_option maxRecDepth 100000 in
theorem bX11_centre_46 {p : Program} {l : Launch} {e : Env} {s : State} {m : MethodId} {args : Array Value} {below : List Frame} {meth : Method} {c : Code} {Q : State → Prop} {A : Nat → Prop} {g : Gw} {post : Int32 → Wd → Prop}  (hC : Cx p s m args c cX11_centre RX11 8 g) (hR : RtI tabM p l e (rk 4) s m args below meth c Q cX11_centre A g post)  {k31 : Int32 → Int32 → Int32 → Int32 → Wd → Prop} (hk31 : ∀ (x1 : Int32) (x3 : Int32) (x4 : Int32) (x5 : Int32) (w : Wd) (H : Heap) (locs : List Loc) (ls : Array Slot), k31 x1 x3 x4 x5 w → St tabM A s.heap g w H locs → lv_has ls 8 [(0, .ref (g.2.2 300)), (1, .int x1), (3, .int x3), (4, .int x4), (5, .int x5)] → W p l e (rk 4) s m args below meth c H locs 0 0 Q (F0 m 31 ls [])) : ∀ (n : Nat) (x1 : Int32) (x3 : Int32) (x4 : Int32) (x5 : Int32) (x6 : Int32) (x7 : Int32) (w : Wd) (H : Heap) (locs : List Loc) (ls : Array Slot), pX11_centre_46 k31 post n x1 x3 x4 x5 x6 x7 w → St tabM A s.heap g w H locs → lv_has ls 8 [(0, .ref (g.2.2 300)), (1, .int x1), (3, .int x3), (4, .int x4), (5, .int x5), (6, .int x6), (7, .int x7)] → W p l e (rk 4) s m args below meth c H locs 0 0 Q (F0 m 46 ls []) := by
  have hx := hC.1
  have hb := hC.2.1
  intro n
  induction n with
  | zero =>
    intro x1 x3 x4 x5 x6 x7 w H locs ls hp hS hl
    exact False.elim hp
  | succ n ih =>
    intro x1 x3 x4 x5 x6 x7 w H locs ls hp hS hl
    unfold pX11_centre_46 at hp
    refine lv_iload hx hb dX11_centre_46 (lv_at hl 6 rfl) ?_
    refine lv_aload_n hx hb dX11_centre_48 rfl (lv_at hl 0 rfl) ?_
    refine G_300_63 hC hS m1282 dX11_centre_49 ?_
    refine lv_icmp_ge (tgt := 86) hx hb dX11_centre_52 (by decide) (fun c_1 => ?_) (fun c_1 => ?_)
    · have hp := hp.1 c_1
      refine lv_iload_n hx hb dX11_centre_86 rfl (lv_at hl 2 rfl) ?_
      refine lv_if_lt (tgt := 100) hx hb dX11_centre_87 (by decide) (fun c_2 => ?_) (fun c_2 => ?_)
      · have hp := hp.1 c_2
        exact bX11_centre_100 hC hR hk31 x1 x5 x6 w _ _ _ hp hS (lv_sub hl [0, 1, 4, 5] rfl)
      · have hp := hp.2 c_2
        refine lv_iload hx hb dX11_centre_90 (lv_at hl 5 rfl) ?_
        refine lv_iload hx hb dX11_centre_92 (lv_at hl 3 rfl) ?_
        refine lv_icmp_lt (tgt := 100) hx hb dX11_centre_94 (by decide) (fun c_3 => ?_) (fun c_3 => ?_)
        · have hp := hp.1 c_3
          exact bX11_centre_100 hC hR hk31 x1 x5 x6 w _ _ _ hp hS (lv_sub hl [0, 1, 4, 5] rfl)
        · have hp := hp.2 c_3
          refine lv_goto (tgt := 107) hx hb dX11_centre_97 (by decide) ?_
          exact bX11_centre_107 hC hR hk31 x1 x3 x4 x5 w _ _ _ hp hS (lv_sub hl [0, 1, 2, 3, 4] rfl)
    · have hp := hp.2 c_1
      refine lv_iload hx hb dX11_centre_55 (lv_at hl 6 rfl) ?_
      refine lv_iload hx hb dX11_centre_57 (lv_at hl 4 rfl) ?_
      refine lv_icmp_eq (tgt := 80) hx hb dX11_centre_59 (by decide) (fun c_4 => ?_) (fun c_4 => ?_)
      · have hp := hp.1 c_4
        exact bX11_centre_80 hC hR ih x1 x3 x4 x5 x6 x7 w _ _ _ hp hS (lv_sub hl [0, 1, 2, 3, 4, 5, 6] rfl)
      · have hp := hp.2 c_4
        refine lv_iload hx hb dX11_centre_62 (lv_at hl 5 rfl) ?_
        refine lv_aload_n hx hb dX11_centre_64 rfl (lv_at hl 0 rfl) ?_
        refine G_300_62 hC hS m292 dX11_centre_65 ?_
        refine lv_bipush hx hb dX11_centre_68 kB_7 ?_
        refine lv_iload hx hb dX11_centre_70 (lv_at hl 4 rfl) ?_
        refine lv_imul hx hb dX11_centre_72 ?_
        refine lv_iload hx hb dX11_centre_73 (lv_at hl 6 rfl) ?_
        refine lv_iadd hx hb dX11_centre_75 ?_
        refine La_363 hC hS hp.1 dX11_centre_76 ?_
        have hp := hp.2
        refine lv_iadd hx hb dX11_centre_77 ?_
        refine lv_topi (fun x6_5 ex6_5 => ?_)
        have hp := hp x6_5 ex6_5
        refine lv_istore (lv' := [(6, .int x6_5), (0, .ref (g.2.2 300)), (1, .int x1), (3, .int x3), (4, .int x4), (5, .int x5), (7, .int x7)]) hx hb dX11_centre_78 hl (by decide) rfl (fun ls hl => ?_)
        exact bX11_centre_80 hC hR ih x1 x3 x4 x5 x6_5 x7 w _ _ _ hp hS (lv_sub hl [1, 2, 3, 4, 5, 0, 6] rfl)
set_option maxHeartbeats 4000000 in
set_option maxRecDepth 100000 in
theorem bX11_centre_31 {p : Program} {l : Launch} {e : Env} {s : State} {m : MethodId} {args : Array Value} {below : List Frame} {meth : Method} {c : Code} {Q : State → Prop} {A : Nat → Prop} {g : Gw} {post : Int32 → Wd → Prop}  (hC : Cx p s m args c cX11_centre RX11 8 g) (hR : RtI tabM p l e (rk 4) s m args below meth c Q cX11_centre A g post)  : ∀ (n : Nat) (x1 : Int32) (x3 : Int32) (x4 : Int32) (x5 : Int32) (w : Wd) (H : Heap) (locs : List Loc) (ls : Array Slot), pX11_centre_31 post n x1 x3 x4 x5 w → St tabM A s.heap g w H locs → lv_has ls 8 [(0, .ref (g.2.2 300)), (1, .int x1), (3, .int x3), (4, .int x4), (5, .int x5)] → W p l e (rk 4) s m args below meth c H locs 0 0 Q (F0 m 31 ls []) := by
  have hx := hC.1
  have hb := hC.2.1
  intro n
  induction n with
  | zero =>
    intro x1 x3 x4 x5 w H locs ls hp hS hl
    exact False.elim hp
  | succ n ih =>
    intro x1 x3 x4 x5 w H locs ls hp hS hl
    unfold pX11_centre_31 at hp
    refine lv_iload hx hb dX11_centre_31 (lv_at hl 4 rfl) ?_
    refine lv_aload_n hx hb dX11_centre_33 rfl (lv_at hl 0 rfl) ?_
    refine G_300_63 hC hS m1282 dX11_centre_34 ?_
    refine lv_icmp_ge (tgt := 113) hx hb dX11_centre_37 (by decide) (fun c_1 => ?_) (fun c_1 => ?_)
    · have hp := hp.1 c_1
      refine lv_iload_n hx hb dX11_centre_113 rfl (lv_at hl 1 rfl) ?_
      refine lv_if_ne (tgt := 121) hx hb dX11_centre_114 (by decide) (fun c_2 => ?_) (fun c_2 => ?_)
      · have hp := hp.1 c_2
        refine lv_iload hx hb dX11_centre_121 (lv_at hl 3 rfl) ?_
        exact hR _ _ _ _ _ _ dX11_centre_123 hp hS
      · have hp := hp.2 c_2
        refine lv_iload_n hx hb dX11_centre_117 rfl (lv_at hl 2 rfl) ?_
        refine lv_goto (tgt := 123) hx hb dX11_centre_118 (by decide) ?_
        exact hR _ _ _ _ _ _ dX11_centre_123 hp hS
    · have hp := hp.2 c_1
      refine lv_iconst hx hb dX11_centre_40 kI_0 ?_
      refine lv_istore (lv' := [(6, .int (0 : Int32)), (0, .ref (g.2.2 300)), (1, .int x1), (3, .int x3), (4, .int x4), (5, .int x5)]) hx hb dX11_centre_41 hl (by decide) rfl (fun ls hl => ?_)
      refine lv_iconst hx hb dX11_centre_43 kI_0 ?_
      refine lv_istore (lv' := [(7, .int (0 : Int32)), (6, .int (0 : Int32)), (0, .ref (g.2.2 300)), (1, .int x1), (3, .int x3), (4, .int x4), (5, .int x5)]) hx hb dX11_centre_44 hl (by decide) rfl (fun ls hl => ?_)
      obtain ⟨n9, hp⟩ := hp
      exact bX11_centre_46 hC hR ih n9 x1 x3 x4 x5 (0 : Int32) (0 : Int32) w _ _ _ hp hS (lv_sub hl [2, 3, 4, 5, 6, 1, 0] rfl)
set_option maxHeartbeats 4000000 in
set_option maxRecDepth 100000 in
theorem rX11_centre {l : Launch} {g : Gw} {w : Wd} {post : Int32 → Wd → Prop}   {x1 : Int32} {x2 : Int32} (hp : pX11_centre post x1 x2 w) : MtI tabM l yX11_centre cX11_centre 8 (some .int) 4 g w [.ref (g.2.2 300), .int x1, .int x2] post := by
  refine q_entI tabM_nd (by decide) rfl (Nat.le_of_ble_eq_true rfl) ?_
  intro p e s m args below meth c A Q ls hC hR hS hl
  have hx := hC.1
  have hb := hC.2.1
  have hl : lv_has ls 8 [(0, .ref (g.2.2 300)), (1, .int x1), (2, .int x2)] := hl
  unfold pX11_centre at hp
  refine lv_aload_n hx hb dX11_centre_0 rfl (lv_at hl 0 rfl) ?_
  refine lv_iload_n hx hb dX11_centre_1 rfl (lv_at hl 2 rfl) ?_
  refine q_cvV (As := [.int x2]) (rest := []) hC hS hl.1 (rX11_laySamples hp) cwX11_433 yvX11_laySamples (rcv_300 hC hS) rfl rfl (Nat.le_of_ble_eq_true rfl) (rmk (by decide) (by decide)) dX11_centre_2 (fun w_1 H locs hp hS => ?_)
  refine lv_aload_n hx hb dX11_centre_5 rfl (lv_at hl 0 rfl) ?_
  refine G_300_63 hC hS m1282 dX11_centre_6 ?_
  refine lv_if_eq (tgt := 21) hx hb dX11_centre_9 (by decide) (fun c_2 => ?_) (fun c_2 => ?_)
  · have hp := hp.1 c_2
    refine lv_iconst hx hb dX11_centre_21 kI_m1 ?_
    exact hR _ _ _ _ _ _ dX11_centre_22 hp hS
  · have hp := hp.2 c_2
    refine lv_iload_n hx hb dX11_centre_12 rfl (lv_at hl 1 rfl) ?_
    refine lv_iconst hx hb dX11_centre_13 kI_0 ?_
    refine lv_iconst hx hb dX11_centre_14 kI_1 ?_
    refine q_csI (As := [.int x1, .int (0 : Int32), .int (1 : Int32)]) (rest := []) hC hS hl.1 (rX11_isIn hp) cwX11_345 ysX11_isIn rfl rfl (Nat.le_of_ble_eq_true rfl) (rmk (by decide) (by decide)) dX11_centre_15 (fun r_3 w_4 H locs hp hS => ?_)
    refine lv_if_ne (tgt := 23) hx hb dX11_centre_18 (by decide) (fun c_5 => ?_) (fun c_5 => ?_)
    · have hp := hp.1 c_5
      refine lv_iconst hx hb dX11_centre_23 kI_m1 ?_
      refine lv_istore_n (lv' := [(3, .int (-1 : Int32)), (0, .ref (g.2.2 300)), (1, .int x1), (2, .int x2)]) hx hb dX11_centre_24 rfl hl (by decide) rfl (fun ls hl => ?_)
      refine lv_iconst hx hb dX11_centre_25 kI_0 ?_
      refine lv_istore (lv' := [(4, .int (0 : Int32)), (3, .int (-1 : Int32)), (0, .ref (g.2.2 300)), (1, .int x1), (2, .int x2)]) hx hb dX11_centre_26 hl (by decide) rfl (fun ls hl => ?_)
      refine lv_iconst hx hb dX11_centre_28 kI_0 ?_
      refine lv_istore (lv' := [(5, .int (0 : Int32)), (4, .int (0 : Int32)), (3, .int (-1 : Int32)), (0, .ref (g.2.2 300)), (1, .int x1), (2, .int x2)]) hx hb dX11_centre_29 hl (by decide) rfl (fun ls hl => ?_)
      obtain ⟨n9, hp⟩ := hp
      exact bX11_centre_31 hC hR n9 x1 (-1 : Int32) (0 : Int32) (0 : Int32) w_4 _ _ _ hp hS (lv_sub hl [3, 4, 2, 1, 0] rfl)
    · have hp := hp.2 c_5
      refine lv_iconst hx hb dX11_centre_21 kI_m1 ?_
      exact hR _ _ _ _ _ _ dX11_centre_22 hp hS
def pX11_layClans_176 (k35 : Int32 → Int32 → Int32 → Wd → Prop) (post : Wd → Prop) (x1 : Int32) (x2 : Int32) (x3 : Int32) (w : Wd) : Prop := ∀ x3_1, x3_1 = x3 + (1 : Int32) → k35 x1 x2 x3_1 w
def pX11_layClans_170 (k140 : Int32 → Int32 → Int32 → Int32 → Int32 → Int32 → Wd → Prop) (post : Wd → Prop) (x1 : Int32) (x2 : Int32) (x3 : Int32) (x4 : Int32) (x5 : Int32) (x6 : Int32) (w : Wd) : Prop := ∀ x6_1, x6_1 = x6 + (1 : Int32) → k140 x1 x2 x3 x4 x5 x6_1 w
def pX11_layClans_140 (k35 : Int32 → Int32 → Int32 → Wd → Prop) (post : Wd → Prop) : Nat → Int32 → Int32 → Int32 → Int32 → Int32 → Int32 → Wd → Prop
  | 0, _, _, _, _, _, _, _ => False
  | n + 1, x1, x2, x3, x4, x5, x6, w => ((w.1 300 63) ≤ x6 → (pX11_layClans_176 k35 post x1 x2 x3 w)) ∧ (¬ (w.1 300 63) ≤ x6 → (vp_in x6 7 ∧ (¬ (w.2.1 365 x6.toNatClampNeg) = x5 → (pX11_layClans_170 (pX11_layClans_140 k35 post n) post x1 x2 x3 x4 x5 x6 w)) ∧ ((w.2.1 365 x6.toNatClampNeg) = x5 → (vp_in x6 7 ∧ ∀ w_3, w_3 = sA w 365 x6.toNatClampNeg x4 → pX11_layClans_170 (pX11_layClans_140 k35 post n) post x1 x2 x3 x4 x5 x6 w_3))))
def pX11_layClans_135 (k35 : Int32 → Int32 → Int32 → Wd → Prop) (post : Wd → Prop) (x1 : Int32) (x2 : Int32) (x3 : Int32) (x4 : Int32) (t0 : Int32) (w : Wd) : Prop := ∃ n9, pX11_layClans_140 k35 post n9 x1 x2 x3 x4 t0 (0 : Int32) w
def pX11_layClans_103 (k35 : Int32 → Int32 → Int32 → Wd → Prop) (post : Wd → Prop) (x1 : Int32) (x2 : Int32) (x3 : Int32) (t0 : Int32) (w : Wd) : Prop := vp_in x2 7 ∧ vp_in x3 7 ∧ ((w.2.1 365 x3.toNatClampNeg) ≤ (w.2.1 365 x2.toNatClampNeg) → (vp_in x2 7 ∧ pX11_layClans_135 k35 post x1 x2 x3 t0 (w.2.1 365 x2.toNatClampNeg) w)) ∧ (¬ (w.2.1 365 x3.toNatClampNeg) ≤ (w.2.1 365 x2.toNatClampNeg) → (vp_in x3 7 ∧ pX11_layClans_135 k35 post x1 x2 x3 t0 (w.2.1 365 x3.toNatClampNeg) w))
def pX11_layClans_73 (k35 : Int32 → Int32 → Int32 → Wd → Prop) (post : Wd → Prop) (x1 : Int32) (x2 : Int32) (x3 : Int32) (w : Wd) : Prop := vp_in x2 7 ∧ vp_in x3 7 ∧ ((w.2.1 365 x3.toNatClampNeg) ≤ (w.2.1 365 x2.toNatClampNeg) → (vp_in x3 7 ∧ pX11_layClans_103 k35 post x1 x2 x3 (w.2.1 365 x3.toNatClampNeg) w)) ∧ (¬ (w.2.1 365 x3.toNatClampNeg) ≤ (w.2.1 365 x2.toNatClampNeg) → (vp_in x2 7 ∧ pX11_layClans_103 k35 post x1 x2 x3 (w.2.1 365 x2.toNatClampNeg) w))
def pX11_layClans_35 (k25 : Int32 → Int32 → Wd → Prop) (post : Wd → Prop) : Nat → Int32 → Int32 → Int32 → Wd → Prop
  | 0, _, _, _, _ => False
  | n + 1, x1, x2, x3, w => (x2 ≤ x3 → (∀ x2_2, x2_2 = x2 + (1 : Int32) → k25 x1 x2_2 w)) ∧ (¬ x2 ≤ x3 → (vp_in (((7 : Int32) * x2) + x3) 49 ∧ ((w.2.1 363 (((7 : Int32) * x2) + x3).toNatClampNeg) ≤ x1 → (pX11_layClans_73 (pX11_layClans_35 k25 post n) post x1 x2 x3 w)) ∧ (¬ (w.2.1 363 (((7 : Int32) * x2) + x3).toNatClampNeg) ≤ x1 → (vp_in (((7 : Int32) * x3) + x2) 49 ∧ ((w.2.1 363 (((7 : Int32) * x3) + x2).toNatClampNeg) ≤ x1 → (pX11_layClans_73 (pX11_layClans_35 k25 post n) post x1 x2 x3 w)) ∧ (¬ (w.2.1 363 (((7 : Int32) * x3) + x2).toNatClampNeg) ≤ x1 → (pX11_layClans_176 (pX11_layClans_35 k25 post n) post x1 x2 x3 w))))))
def pX11_layClans_25 (post : Wd → Prop) : Nat → Int32 → Int32 → Wd → Prop
  | 0, _, _, _ => False
  | n + 1, x1, x2, w => ((w.1 300 63) ≤ x2 → (post w)) ∧ (¬ (w.1 300 63) ≤ x2 → (∃ n9, pX11_layClans_35 (pX11_layClans_25 post n) post n9 x1 x2 (0 : Int32) w))
def pX11_layClans_2 (post : Wd → Prop) : Nat → Int32 → Int32 → Wd → Prop
  | 0, _, _, _ => False
  | n + 1, x1, x2, w => ((w.1 300 63) ≤ x2 → (∃ n9, pX11_layClans_25 post n9 x1 (0 : Int32) w)) ∧ (¬ (w.1 300 63) ≤ x2 → (vp_in x2 7 ∧ ∀ w_2, w_2 = sA w 365 x2.toNatClampNeg x2 → ∀ x2_3, x2_3 = x2 + (1 : Int32) → pX11_layClans_2 post n x1 x2_3 w_2))
def pX11_layClans (post : Wd → Prop) (x1 : Int32) (w : Wd) : Prop := ∃ n9, pX11_layClans_2 post n9 x1 (0 : Int32) w
set_option maxHeartbeats 4000000 in
set_option maxRecDepth 100000 in
theorem bX11_layClans_176 {p : Program} {l : Launch} {e : Env} {s : State} {m : MethodId} {args : Array Value} {below : List Frame} {meth : Method} {c : Code} {Q : State → Prop} {A : Nat → Prop} {g : Gw} {post : Wd → Prop}  (hC : Cx p s m args c cX11_layClans RX11 7 g) (hR : RtV tabM p l e (rk 1) s m args below meth c Q cX11_layClans A g post)  {k35 : Int32 → Int32 → Int32 → Wd → Prop} (hk35 : ∀ (x1 : Int32) (x2 : Int32) (x3 : Int32) (w : Wd) (H : Heap) (locs : List Loc) (ls : Array Slot), k35 x1 x2 x3 w → St tabM A s.heap g w H locs → lv_has ls 7 [(0, .ref (g.2.2 300)), (1, .int x1), (2, .int x2), (3, .int x3)] → W p l e (rk 1) s m args below meth c H locs 0 0 Q (F0 m 35 ls [])) : ∀ (x1 : Int32) (x2 : Int32) (x3 : Int32) (w : Wd) (H : Heap) (locs : List Loc) (ls : Array Slot), pX11_layClans_176 k35 post x1 x2 x3 w → St tabM A s.heap g w H locs → lv_has ls 7 [(0, .ref (g.2.2 300)), (1, .int x1), (2, .int x2), (3, .int x3)] → W p l e (rk 1) s m args below meth c H locs 0 0 Q (F0 m 176 ls []) := by
  have hx := hC.1
  have hb := hC.2.1
  intro x1 x2 x3 w H locs ls hp hS hl
  unfold pX11_layClans_176 at hp
  obtain ⟨x3_1, ex3_1⟩ : ∃ y : Int32, y = x3 + (1 : Int32) := ⟨_, rfl⟩
  have hp := hp x3_1 ex3_1
  refine lv_iinc (v := x3_1) (lv' := [(3, .int x3_1), (0, .ref (g.2.2 300)), (1, .int x1), (2, .int x2)]) hx hb dX11_layClans_176 hl (k := 3) rfl (by rw [ex3_1]; rfl) (by decide) rfl (fun ls hl => ?_)
  refine lv_goto (tgt := 35) hx hb dX11_layClans_179 (by decide) ?_
  exact hk35 x1 x2 x3_1 w _ _ _ hp hS (lv_sub hl [1, 2, 3, 0] rfl)
set_option maxHeartbeats 4000000 in
set_option maxRecDepth 100000 in
theorem bX11_layClans_170 {p : Program} {l : Launch} {e : Env} {s : State} {m : MethodId} {args : Array Value} {below : List Frame} {meth : Method} {c : Code} {Q : State → Prop} {A : Nat → Prop} {g : Gw} {post : Wd → Prop}  (hC : Cx p s m args c cX11_layClans RX11 7 g) (hR : RtV tabM p l e (rk 1) s m args below meth c Q cX11_layClans A g post)  {k140 : Int32 → Int32 → Int32 → Int32 → Int32 → Int32 → Wd → Prop} (hk140 : ∀ (x1 : Int32) (x2 : Int32) (x3 : Int32) (x4 : Int32) (x5 : Int32) (x6 : Int32) (w : Wd) (H : Heap) (locs : List Loc) (ls : Array Slot), k140 x1 x2 x3 x4 x5 x6 w → St tabM A s.heap g w H locs → lv_has ls 7 [(0, .ref (g.2.2 300)), (1, .int x1), (2, .int x2), (3, .int x3), (4, .int x4), (5, .int x5), (6, .int x6)] → W p l e (rk 1) s m args below meth c H locs 0 0 Q (F0 m 140 ls [])) : ∀ (x1 : Int32) (x2 : Int32) (x3 : Int32) (x4 : Int32) (x5 : Int32) (x6 : Int32) (w : Wd) (H : Heap) (locs : List Loc) (ls : Array Slot), pX11_layClans_170 k140 post x1 x2 x3 x4 x5 x6 w → St tabM A s.heap g w H locs → lv_has ls 7 [(0, .ref (g.2.2 300)), (1, .int x1), (2, .int x2), (3, .int x3), (4, .int x4), (5, .int x5), (6, .int x6)] → W p l e (rk 1) s m args below meth c H locs 0 0 Q (F0 m 170 ls []) := by
  have hx := hC.1
  have hb := hC.2.1
  intro x1 x2 x3 x4 x5 x6 w H locs ls hp hS hl
  unfold pX11_layClans_170 at hp
  obtain ⟨x6_1, ex6_1⟩ : ∃ y : Int32, y = x6 + (1 : Int32) := ⟨_, rfl⟩
  have hp := hp x6_1 ex6_1
  refine lv_iinc (v := x6_1) (lv' := [(6, .int x6_1), (0, .ref (g.2.2 300)), (1, .int x1), (2, .int x2), (3, .int x3), (4, .int x4), (5, .int x5)]) hx hb dX11_layClans_170 hl (k := 6) rfl (by rw [ex6_1]; rfl) (by decide) rfl (fun ls hl => ?_)
  refine lv_goto (tgt := 140) hx hb dX11_layClans_173 (by decide) ?_
  exact hk140 x1 x2 x3 x4 x5 x6_1 w _ _ _ hp hS (lv_sub hl [1, 2, 3, 4, 5, 6, 0] rfl)
set_option maxHeartbeats 4000000 in
set_option maxRecDepth 100000 in
theorem bX11_layClans_140 {p : Program} {l : Launch} {e : Env} {s : State} {m : MethodId} {args : Array Value} {below : List Frame} {meth : Method} {c : Code} {Q : State → Prop} {A : Nat → Prop} {g : Gw} {post : Wd → Prop}  (hC : Cx p s m args c cX11_layClans RX11 7 g) (hR : RtV tabM p l e (rk 1) s m args below meth c Q cX11_layClans A g post)  {k35 : Int32 → Int32 → Int32 → Wd → Prop} (hk35 : ∀ (x1 : Int32) (x2 : Int32) (x3 : Int32) (w : Wd) (H : Heap) (locs : List Loc) (ls : Array Slot), k35 x1 x2 x3 w → St tabM A s.heap g w H locs → lv_has ls 7 [(0, .ref (g.2.2 300)), (1, .int x1), (2, .int x2), (3, .int x3)] → W p l e (rk 1) s m args below meth c H locs 0 0 Q (F0 m 35 ls [])) : ∀ (n : Nat) (x1 : Int32) (x2 : Int32) (x3 : Int32) (x4 : Int32) (x5 : Int32) (x6 : Int32) (w : Wd) (H : Heap) (locs : List Loc) (ls : Array Slot), pX11_layClans_140 k35 post n x1 x2 x3 x4 x5 x6 w → St tabM A s.heap g w H locs → lv_has ls 7 [(0, .ref (g.2.2 300)), (1, .int x1), (2, .int x2), (3, .int x3), (4, .int x4), (5, .int x5), (6, .int x6)] → W p l e (rk 1) s m args below meth c H locs 0 0 Q (F0 m 140 ls []) := by
  have hx := hC.1
  have hb := hC.2.1
  intro n
  induction n with
  | zero =>
    intro x1 x2 x3 x4 x5 x6 w H locs ls hp hS hl
    exact False.elim hp
  | succ n ih =>
    intro x1 x2 x3 x4 x5 x6 w H locs ls hp hS hl
    unfold pX11_layClans_140 at hp
    refine lv_iload hx hb dX11_layClans_140 (lv_at hl 6 rfl) ?_
    refine lv_aload_n hx hb dX11_layClans_142 rfl (lv_at hl 0 rfl) ?_
    refine G_300_63 hC hS m1282 dX11_layClans_143 ?_
    refine lv_icmp_ge (tgt := 176) hx hb dX11_layClans_146 (by decide) (fun c_1 => ?_) (fun c_1 => ?_)
    · have hp := hp.1 c_1
      exact bX11_layClans_176 hC hR hk35 x1 x2 x3 w _ _ _ hp hS (lv_sub hl [0, 1, 2, 3] rfl)
    · have hp := hp.2 c_1
      refine lv_aload_n hx hb dX11_layClans_149 rfl (lv_at hl 0 rfl) ?_
      refine G_300_64 hC hS m293 dX11_layClans_150 ?_
      refine lv_iload hx hb dX11_layClans_153 (lv_at hl 6 rfl) ?_
      refine La_365 hC hS hp.1 dX11_layClans_155 ?_
      have hp := hp.2
      refine lv_iload hx hb dX11_layClans_156 (lv_at hl 5 rfl) ?_
      refine lv_icmp_ne (tgt := 170) hx hb dX11_layClans_158 (by decide) (fun c_2 => ?_) (fun c_2 => ?_)
      · have hp := hp.1 c_2
        exact bX11_layClans_170 hC hR ih x1 x2 x3 x4 x5 x6 w _ _ _ hp hS (lv_sub hl [0, 1, 2, 3, 4, 5, 6] rfl)
      · have hp := hp.2 c_2
        refine lv_aload_n hx hb dX11_layClans_161 rfl (lv_at hl 0 rfl) ?_
        refine G_300_64 hC hS m293 dX11_layClans_162 ?_
        refine lv_iload hx hb dX11_layClans_165 (lv_at hl 6 rfl) ?_
        refine lv_iload hx hb dX11_layClans_167 (lv_at hl 4 rfl) ?_
        refine Sa_365 hC hS hp.1 dX11_layClans_169 (fun w_3 H locs ew_3 hS => ?_)
        have hp := hp.2
        have hp := hp w_3 ew_3
        exact bX11_layClans_170 hC hR ih x1 x2 x3 x4 x5 x6 w_3 _ _ _ hp hS (lv_sub hl [0, 1, 2, 3, 4, 5, 6] rfl)
set_option maxHeartbeats 4000000 in
set_option maxRecDepth 100000 in
theorem bX11_layClans_135 {p : Program} {l : Launch} {e : Env} {s : State} {m : MethodId} {args : Array Value} {below : List Frame} {meth : Method} {c : Code} {Q : State → Prop} {A : Nat → Prop} {g : Gw} {post : Wd → Prop}  (hC : Cx p s m args c cX11_layClans RX11 7 g) (hR : RtV tabM p l e (rk 1) s m args below meth c Q cX11_layClans A g post)  {k35 : Int32 → Int32 → Int32 → Wd → Prop} (hk35 : ∀ (x1 : Int32) (x2 : Int32) (x3 : Int32) (w : Wd) (H : Heap) (locs : List Loc) (ls : Array Slot), k35 x1 x2 x3 w → St tabM A s.heap g w H locs → lv_has ls 7 [(0, .ref (g.2.2 300)), (1, .int x1), (2, .int x2), (3, .int x3)] → W p l e (rk 1) s m args below meth c H locs 0 0 Q (F0 m 35 ls [])) : ∀ (x1 : Int32) (x2 : Int32) (x3 : Int32) (x4 : Int32) (t0 : Int32) (w : Wd) (H : Heap) (locs : List Loc) (ls : Array Slot), pX11_layClans_135 k35 post x1 x2 x3 x4 t0 w → St tabM A s.heap g w H locs → lv_has ls 7 [(0, .ref (g.2.2 300)), (1, .int x1), (2, .int x2), (3, .int x3), (4, .int x4)] → W p l e (rk 1) s m args below meth c H locs 0 0 Q (F0 m 135 ls [.int t0]) := by
  have hx := hC.1
  have hb := hC.2.1
  intro x1 x2 x3 x4 t0 w H locs ls hp hS hl
  unfold pX11_layClans_135 at hp
  refine lv_istore (lv' := [(5, .int t0), (0, .ref (g.2.2 300)), (1, .int x1), (2, .int x2), (3, .int x3), (4, .int x4)]) hx hb dX11_layClans_135 hl (by decide) rfl (fun ls hl => ?_)
  refine lv_iconst hx hb dX11_layClans_137 kI_0 ?_
  refine lv_istore (lv' := [(6, .int (0 : Int32)), (5, .int t0), (0, .ref (g.2.2 300)), (1, .int x1), (2, .int x2), (3, .int x3), (4, .int x4)]) hx hb dX11_layClans_138 hl (by decide) rfl (fun ls hl => ?_)
  obtain ⟨n9, hp⟩ := hp
  exact bX11_layClans_140 hC hR hk35 n9 x1 x2 x3 x4 t0 (0 : Int32) w _ _ _ hp hS (lv_sub hl [2, 3, 4, 5, 6, 1, 0] rfl)
set_option maxHeartbeats 4000000 in
set_option maxRecDepth 100000 in
theorem bX11_layClans_103 {p : Program} {l : Launch} {e : Env} {s : State} {m : MethodId} {args : Array Value} {below : List Frame} {meth : Method} {c : Code} {Q : State → Prop} {A : Nat → Prop} {g : Gw} {post : Wd → Prop}  (hC : Cx p s m args c cX11_layClans RX11 7 g) (hR : RtV tabM p l e (rk 1) s m args below meth c Q cX11_layClans A g post)  {k35 : Int32 → Int32 → Int32 → Wd → Prop} (hk35 : ∀ (x1 : Int32) (x2 : Int32) (x3 : Int32) (w : Wd) (H : Heap) (locs : List Loc) (ls : Array Slot), k35 x1 x2 x3 w → St tabM A s.heap g w H locs → lv_has ls 7 [(0, .ref (g.2.2 300)), (1, .int x1), (2, .int x2), (3, .int x3)] → W p l e (rk 1) s m args below meth c H locs 0 0 Q (F0 m 35 ls [])) : ∀ (x1 : Int32) (x2 : Int32) (x3 : Int32) (t0 : Int32) (w : Wd) (H : Heap) (locs : List Loc) (ls : Array Slot), pX11_layClans_103 k35 post x1 x2 x3 t0 w → St tabM A s.heap g w H locs → lv_has ls 7 [(0, .ref (g.2.2 300)), (1, .int x1), (2, .int x2), (3, .int x3)] → W p l e (rk 1) s m args below meth c H locs 0 0 Q (F0 m 103 ls [.int t0]) := by
  have hx := hC.1
  have hb := hC.2.1
  intro x1 x2 x3 t0 w H locs ls hp hS hl
  unfold pX11_layClans_103 at hp
  refine lv_istore (lv' := [(4, .int t0), (0, .ref (g.2.2 300)), (1, .int x1), (2, .int x2), (3, .int x3)]) hx hb dX11_layClans_103 hl (by decide) rfl (fun ls hl => ?_)
  refine lv_aload_n hx hb dX11_layClans_105 rfl (lv_at hl 1 rfl) ?_
  refine G_300_64 hC hS m293 dX11_layClans_106 ?_
  refine lv_iload_n hx hb dX11_layClans_109 rfl (lv_at hl 3 rfl) ?_
  refine La_365 hC hS hp.1 dX11_layClans_110 ?_
  have hp := hp.2
  refine lv_aload_n hx hb dX11_layClans_111 rfl (lv_at hl 1 rfl) ?_
  refine G_300_64 hC hS m293 dX11_layClans_112 ?_
  refine lv_iload_n hx hb dX11_layClans_115 rfl (lv_at hl 4 rfl) ?_
  refine La_365 hC hS hp.1 dX11_layClans_116 ?_
  have hp := hp.2
  refine lv_icmp_ge (tgt := 129) hx hb dX11_layClans_117 (by decide) (fun c_1 => ?_) (fun c_1 => ?_)
  · have hp := hp.1 c_1
    refine lv_aload_n hx hb dX11_layClans_129 rfl (lv_at hl 1 rfl) ?_
    refine G_300_64 hC hS m293 dX11_layClans_130 ?_
    refine lv_iload_n hx hb dX11_layClans_133 rfl (lv_at hl 3 rfl) ?_
    refine La_365 hC hS hp.1 dX11_layClans_134 ?_
    have hp := hp.2
    exact bX11_layClans_135 hC hR hk35 x1 x2 x3 t0 (w.2.1 365 x2.toNatClampNeg) w _ _ _ hp hS (lv_sub hl [1, 2, 3, 4, 0] rfl)
  · have hp := hp.2 c_1
    refine lv_aload_n hx hb dX11_layClans_120 rfl (lv_at hl 1 rfl) ?_
    refine G_300_64 hC hS m293 dX11_layClans_121 ?_
    refine lv_iload_n hx hb dX11_layClans_124 rfl (lv_at hl 4 rfl) ?_
    refine La_365 hC hS hp.1 dX11_layClans_125 ?_
    have hp := hp.2
    refine lv_goto (tgt := 135) hx hb dX11_layClans_126 (by decide) ?_
    exact bX11_layClans_135 hC hR hk35 x1 x2 x3 t0 (w.2.1 365 x3.toNatClampNeg) w _ _ _ hp hS (lv_sub hl [1, 2, 3, 4, 0] rfl)
set_option maxHeartbeats 4000000 in
set_option maxRecDepth 100000 in
theorem bX11_layClans_73 {p : Program} {l : Launch} {e : Env} {s : State} {m : MethodId} {args : Array Value} {below : List Frame} {meth : Method} {c : Code} {Q : State → Prop} {A : Nat → Prop} {g : Gw} {post : Wd → Prop}  (hC : Cx p s m args c cX11_layClans RX11 7 g) (hR : RtV tabM p l e (rk 1) s m args below meth c Q cX11_layClans A g post)  {k35 : Int32 → Int32 → Int32 → Wd → Prop} (hk35 : ∀ (x1 : Int32) (x2 : Int32) (x3 : Int32) (w : Wd) (H : Heap) (locs : List Loc) (ls : Array Slot), k35 x1 x2 x3 w → St tabM A s.heap g w H locs → lv_has ls 7 [(0, .ref (g.2.2 300)), (1, .int x1), (2, .int x2), (3, .int x3)] → W p l e (rk 1) s m args below meth c H locs 0 0 Q (F0 m 35 ls [])) : ∀ (x1 : Int32) (x2 : Int32) (x3 : Int32) (w : Wd) (H : Heap) (locs : List Loc) (ls : Array Slot), pX11_layClans_73 k35 post x1 x2 x3 w → St tabM A s.heap g w H locs → lv_has ls 7 [(0, .ref (g.2.2 300)), (1, .int x1), (2, .int x2), (3, .int x3)] → W p l e (rk 1) s m args below meth c H locs 0 0 Q (F0 m 73 ls []) := by
  have hx := hC.1
  have hb := hC.2.1
  intro x1 x2 x3 w H locs ls hp hS hl
  unfold pX11_layClans_73 at hp
  refine lv_aload_n hx hb dX11_layClans_73 rfl (lv_at hl 0 rfl) ?_
  refine G_300_64 hC hS m293 dX11_layClans_74 ?_
  refine lv_iload_n hx hb dX11_layClans_77 rfl (lv_at hl 2 rfl) ?_
  refine La_365 hC hS hp.1 dX11_layClans_78 ?_
  have hp := hp.2
  refine lv_aload_n hx hb dX11_layClans_79 rfl (lv_at hl 0 rfl) ?_
  refine G_300_64 hC hS m293 dX11_layClans_80 ?_
  refine lv_iload_n hx hb dX11_layClans_83 rfl (lv_at hl 3 rfl) ?_
  refine La_365 hC hS hp.1 dX11_layClans_84 ?_
  have hp := hp.2
  refine lv_icmp_ge (tgt := 97) hx hb dX11_layClans_85 (by decide) (fun c_1 => ?_) (fun c_1 => ?_)
  · have hp := hp.1 c_1
    refine lv_aload_n hx hb dX11_layClans_97 rfl (lv_at hl 0 rfl) ?_
    refine G_300_64 hC hS m293 dX11_layClans_98 ?_
    refine lv_iload_n hx hb dX11_layClans_101 rfl (lv_at hl 3 rfl) ?_
    refine La_365 hC hS hp.1 dX11_layClans_102 ?_
    have hp := hp.2
    exact bX11_layClans_103 hC hR hk35 x1 x2 x3 (w.2.1 365 x3.toNatClampNeg) w _ _ _ hp hS (lv_sub hl [0, 1, 2, 3] rfl)
  · have hp := hp.2 c_1
    refine lv_aload_n hx hb dX11_layClans_88 rfl (lv_at hl 0 rfl) ?_
    refine G_300_64 hC hS m293 dX11_layClans_89 ?_
    refine lv_iload_n hx hb dX11_layClans_92 rfl (lv_at hl 2 rfl) ?_
    refine La_365 hC hS hp.1 dX11_layClans_93 ?_
    have hp := hp.2
    refine lv_goto (tgt := 103) hx hb dX11_layClans_94 (by decide) ?_
    exact bX11_layClans_103 hC hR hk35 x1 x2 x3 (w.2.1 365 x2.toNatClampNeg) w _ _ _ hp hS (lv_sub hl [0, 1, 2, 3] rfl)
set_option maxHeartbeats 4000000 in
set_option maxRecDepth 100000 in
theorem bX11_layClans_35 {p : Program} {l : Launch} {e : Env} {s : State} {m : MethodId} {args : Array Value} {below : List Frame} {meth : Method} {c : Code} {Q : State → Prop} {A : Nat → Prop} {g : Gw} {post : Wd → Prop}  (hC : Cx p s m args c cX11_layClans RX11 7 g) (hR : RtV tabM p l e (rk 1) s m args below meth c Q cX11_layClans A g post)  {k25 : Int32 → Int32 → Wd → Prop} (hk25 : ∀ (x1 : Int32) (x2 : Int32) (w : Wd) (H : Heap) (locs : List Loc) (ls : Array Slot), k25 x1 x2 w → St tabM A s.heap g w H locs → lv_has ls 7 [(0, .ref (g.2.2 300)), (1, .int x1), (2, .int x2)] → W p l e (rk 1) s m args below meth c H locs 0 0 Q (F0 m 25 ls [])) : ∀ (n : Nat) (x1 : Int32) (x2 : Int32) (x3 : Int32) (w : Wd) (H : Heap) (locs : List Loc) (ls : Array Slot), pX11_layClans_35 k25 post n x1 x2 x3 w → St tabM A s.heap g w H locs → lv_has ls 7 [(0, .ref (g.2.2 300)), (1, .int x1), (2, .int x2), (3, .int x3)] → W p l e (rk 1) s m args below meth c H locs 0 0 Q (F0 m 35 ls []) := by
  have hx := hC.1
  have hb := hC.2.1
  intro n
  induction n with
  | zero =>
    intro x1 x2 x3 w H locs ls hp hS hl
    exact False.elim hp
  | succ n ih =>
    intro x1 x2 x3 w H locs ls hp hS hl
    unfold pX11_layClans_35 at hp
    refine lv_iload_n hx hb dX11_layClans_35 rfl (lv_at hl 3 rfl) ?_
    refine lv_iload_n hx hb dX11_layClans_36 rfl (lv_at hl 2 rfl) ?_
    refine lv_icmp_ge (tgt := 182) hx hb dX11_layClans_37 (by decide) (fun c_1 => ?_) (fun c_1 => ?_)
    · have hp := hp.1 c_1
      obtain ⟨x2_2, ex2_2⟩ : ∃ y : Int32, y = x2 + (1 : Int32) := ⟨_, rfl⟩
      have hp := hp x2_2 ex2_2
      refine lv_iinc (v := x2_2) (lv' := [(2, .int x2_2), (0, .ref (g.2.2 300)), (1, .int x1), (3, .int x3)]) hx hb dX11_layClans_182 hl (k := 2) rfl (by rw [ex2_2]; rfl) (by decide) rfl (fun ls hl => ?_)
      refine lv_goto (tgt := 25) hx hb dX11_layClans_185 (by decide) ?_
      exact hk25 x1 x2_2 w _ _ _ hp hS (lv_sub hl [1, 2, 0] rfl)
    · have hp := hp.2 c_1
      refine lv_aload_n hx hb dX11_layClans_40 rfl (lv_at hl 0 rfl) ?_
      refine G_300_62 hC hS m292 dX11_layClans_41 ?_
      refine lv_bipush hx hb dX11_layClans_44 kB_7 ?_
      refine lv_iload_n hx hb dX11_layClans_46 rfl (lv_at hl 2 rfl) ?_
      refine lv_imul hx hb dX11_layClans_47 ?_
      refine lv_iload_n hx hb dX11_layClans_48 rfl (lv_at hl 3 rfl) ?_
      refine lv_iadd hx hb dX11_layClans_49 ?_
      refine La_363 hC hS hp.1 dX11_layClans_50 ?_
      have hp := hp.2
      refine lv_iload_n hx hb dX11_layClans_51 rfl (lv_at hl 1 rfl) ?_
      refine lv_icmp_le (tgt := 73) hx hb dX11_layClans_52 (by decide) (fun c_3 => ?_) (fun c_3 => ?_)
      · have hp := hp.1 c_3
        exact bX11_layClans_73 hC hR ih x1 x2 x3 w _ _ _ hp hS (lv_sub hl [0, 1, 2, 3] rfl)
      · have hp := hp.2 c_3
        refine lv_aload_n hx hb dX11_layClans_55 rfl (lv_at hl 0 rfl) ?_
        refine G_300_62 hC hS m292 dX11_layClans_56 ?_
        refine lv_bipush hx hb dX11_layClans_59 kB_7 ?_
        refine lv_iload_n hx hb dX11_layClans_61 rfl (lv_at hl 3 rfl) ?_
        refine lv_imul hx hb dX11_layClans_62 ?_
        refine lv_iload_n hx hb dX11_layClans_63 rfl (lv_at hl 2 rfl) ?_
        refine lv_iadd hx hb dX11_layClans_64 ?_
        refine La_363 hC hS hp.1 dX11_layClans_65 ?_
        have hp := hp.2
        refine lv_iload_n hx hb dX11_layClans_66 rfl (lv_at hl 1 rfl) ?_
        refine lv_icmp_le (tgt := 73) hx hb dX11_layClans_67 (by decide) (fun c_4 => ?_) (fun c_4 => ?_)
        · have hp := hp.1 c_4
          exact bX11_layClans_73 hC hR ih x1 x2 x3 w _ _ _ hp hS (lv_sub hl [0, 1, 2, 3] rfl)
        · have hp := hp.2 c_4
          refine lv_goto (tgt := 176) hx hb dX11_layClans_70 (by decide) ?_
          exact bX11_layClans_176 hC hR ih x1 x2 x3 w _ _ _ hp hS (lv_sub hl [0, 1, 2, 3] rfl)
set_option maxHeartbeats 4000000 in
set_option maxRecDepth 100000 in
theorem bX11_layClans_25 {p : Program} {l : Launch} {e : Env} {s : State} {m : MethodId} {args : Array Value} {below : List Frame} {meth : Method} {c : Code} {Q : State → Prop} {A : Nat → Prop} {g : Gw} {post : Wd → Prop}  (hC : Cx p s m args c cX11_layClans RX11 7 g) (hR : RtV tabM p l e (rk 1) s m args below meth c Q cX11_layClans A g post)  : ∀ (n : Nat) (x1 : Int32) (x2 : Int32) (w : Wd) (H : Heap) (locs : List Loc) (ls : Array Slot), pX11_layClans_25 post n x1 x2 w → St tabM A s.heap g w H locs → lv_has ls 7 [(0, .ref (g.2.2 300)), (1, .int x1), (2, .int x2)] → W p l e (rk 1) s m args below meth c H locs 0 0 Q (F0 m 25 ls []) := by
  have hx := hC.1
  have hb := hC.2.1
  intro n
  induction n with
  | zero =>
    intro x1 x2 w H locs ls hp hS hl
    exact False.elim hp
  | succ n ih =>
    intro x1 x2 w H locs ls hp hS hl
    unfold pX11_layClans_25 at hp
    refine lv_iload_n hx hb dX11_layClans_25 rfl (lv_at hl 2 rfl) ?_
    refine lv_aload_n hx hb dX11_layClans_26 rfl (lv_at hl 0 rfl) ?_
    refine G_300_63 hC hS m1282 dX11_layClans_27 ?_
    refine lv_icmp_ge (tgt := 188) hx hb dX11_layClans_30 (by decide) (fun c_1 => ?_) (fun c_1 => ?_)
    · have hp := hp.1 c_1
      exact hR _ _ _ _ _ dX11_layClans_188 hp hS
    · have hp := hp.2 c_1
      refine lv_iconst hx hb dX11_layClans_33 kI_0 ?_
      refine lv_istore_n (lv' := [(3, .int (0 : Int32)), (0, .ref (g.2.2 300)), (1, .int x1), (2, .int x2)]) hx hb dX11_layClans_34 rfl hl (by decide) rfl (fun ls hl => ?_)
      obtain ⟨n9, hp⟩ := hp
      exact bX11_layClans_35 hC hR ih n9 x1 x2 (0 : Int32) w _ _ _ hp hS (lv_sub hl [1, 2, 3, 0] rfl)
set_option maxHeartbeats 4000000 in
set_option maxRecDepth 100000 in
theorem bX11_layClans_2 {p : Program} {l : Launch} {e : Env} {s : State} {m : MethodId} {args : Array Value} {below : List Frame} {meth : Method} {c : Code} {Q : State → Prop} {A : Nat → Prop} {g : Gw} {post : Wd → Prop}  (hC : Cx p s m args c cX11_layClans RX11 7 g) (hR : RtV tabM p l e (rk 1) s m args below meth c Q cX11_layClans A g post)  : ∀ (n : Nat) (x1 : Int32) (x2 : Int32) (w : Wd) (H : Heap) (locs : List Loc) (ls : Array Slot), pX11_layClans_2 post n x1 x2 w → St tabM A s.heap g w H locs → lv_has ls 7 [(0, .ref (g.2.2 300)), (1, .int x1), (2, .int x2)] → W p l e (rk 1) s m args below meth c H locs 0 0 Q (F0 m 2 ls []) := by
  have hx := hC.1
  have hb := hC.2.1
  intro n
  induction n with
  | zero =>
    intro x1 x2 w H locs ls hp hS hl
    exact False.elim hp
  | succ n ih =>
    intro x1 x2 w H locs ls hp hS hl
    unfold pX11_layClans_2 at hp
    refine lv_iload_n hx hb dX11_layClans_2 rfl (lv_at hl 2 rfl) ?_
    refine lv_aload_n hx hb dX11_layClans_3 rfl (lv_at hl 0 rfl) ?_
    refine G_300_63 hC hS m1282 dX11_layClans_4 ?_
    refine lv_icmp_ge (tgt := 23) hx hb dX11_layClans_7 (by decide) (fun c_1 => ?_) (fun c_1 => ?_)
    · have hp := hp.1 c_1
      refine lv_iconst hx hb dX11_layClans_23 kI_0 ?_
      refine lv_istore_n (lv' := [(2, .int (0 : Int32)), (0, .ref (g.2.2 300)), (1, .int x1)]) hx hb dX11_layClans_24 rfl hl (by decide) rfl (fun ls hl => ?_)
      obtain ⟨n9, hp⟩ := hp
      exact bX11_layClans_25 hC hR n9 x1 (0 : Int32) w _ _ _ hp hS (lv_sub hl [1, 2, 0] rfl)
    · have hp := hp.2 c_1
      refine lv_aload_n hx hb dX11_layClans_10 rfl (lv_at hl 0 rfl) ?_
      refine G_300_64 hC hS m293 dX11_layClans_11 ?_
      refine lv_iload_n hx hb dX11_layClans_14 rfl (lv_at hl 2 rfl) ?_
      refine lv_iload_n hx hb dX11_layClans_15 rfl (lv_at hl 2 rfl) ?_
      refine Sa_365 hC hS hp.1 dX11_layClans_16 (fun w_2 H locs ew_2 hS => ?_)
      have hp := hp.2
      have hp := hp w_2 ew_2
      obtain ⟨x2_3, ex2_3⟩ : ∃ y : Int32, y = x2 + (1 : Int32) := ⟨_, rfl⟩
      have hp := hp x2_3 ex2_3
      refine lv_iinc (v := x2_3) (lv' := [(2, .int x2_3), (0, .ref (g.2.2 300)), (1, .int x1)]) hx hb dX11_layClans_17 hl (k := 2) rfl (by rw [ex2_3]; rfl) (by decide) rfl (fun ls hl => ?_)
      refine lv_goto (tgt := 2) hx hb dX11_layClans_20 (by decide) ?_
      exact ih x1 x2_3 w_2 _ _ _ hp hS (lv_sub hl [1, 2, 0] rfl)
set_option maxHeartbeats 4000000 in
set_option maxRecDepth 100000 in
theorem rX11_layClans {l : Launch} {g : Gw} {w : Wd} {post : Wd → Prop}   {x1 : Int32} (hp : pX11_layClans post x1 w) : MtV tabM l yX11_layClans cX11_layClans 7 none 1 g w [.ref (g.2.2 300), .int x1] post := by
  refine q_entV tabM_nd (by decide) rfl (Nat.le_of_ble_eq_true rfl) ?_
  intro p e s m args below meth c A Q ls hC hR hS hl
  have hx := hC.1
  have hb := hC.2.1
  have hl : lv_has ls 7 [(0, .ref (g.2.2 300)), (1, .int x1)] := hl
  unfold pX11_layClans at hp
  refine lv_iconst hx hb dX11_layClans_0 kI_0 ?_
  refine lv_istore_n (lv' := [(2, .int (0 : Int32)), (0, .ref (g.2.2 300)), (1, .int x1)]) hx hb dX11_layClans_1 rfl hl (by decide) rfl (fun ls hl => ?_)
  obtain ⟨n9, hp⟩ := hp
  exact bX11_layClans_2 hC hR n9 x1 (0 : Int32) w _ _ _ hp hS (lv_sub hl [1, 2, 0] rfl)
