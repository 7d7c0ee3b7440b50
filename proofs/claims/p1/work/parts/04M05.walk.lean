def pX11_layLinks_195 (k30 : Int32 → Int32 → Wd → Prop) (post : Int32 → Wd → Prop) (x1 : Int32) (x2 : Int32) (w : Wd) : Prop := ∀ x2_1, x2_1 = x2 + (1 : Int32) → k30 x1 x2_1 w
def pX11_layLinks_189 (k142 : Int32 → Int32 → Int32 → Int32 → Int32 → Int32 → Wd → Prop) (post : Int32 → Wd → Prop) (x1 : Int32) (x2 : Int32) (x3 : Int32) (x5 : Int32) (x6 : Int32) (x7 : Int32) (w : Wd) : Prop := ∀ x7_1, x7_1 = x7 + (1 : Int32) → k142 x1 x2 x3 x5 x6 x7_1 w
def pX11_layLinks_142 (k30 : Int32 → Int32 → Wd → Prop) (post : Int32 → Wd → Prop) : Nat → Int32 → Int32 → Int32 → Int32 → Int32 → Int32 → Wd → Prop
  | 0, _, _, _, _, _, _, _ => False
  | n + 1, x1, x2, x3, x5, x6, x7, w => ((8 : Int32) ≤ x7 → (pX11_layLinks_195 k30 post x1 x2 w)) ∧ (¬ (8 : Int32) ≤ x7 → (vp_in x7 8 ∧ ((w.2.1 367 x7.toNatClampNeg) = x5 → (vp_in x3 8 ∧ vp_in x7 8 ∧ ∀ w_3, w_3 = sA w 367 x7.toNatClampNeg (w.2.1 367 x3.toNatClampNeg) → vp_in x7 8 ∧ vp_in x7 8 ∧ ∀ w_4, w_4 = sA w_3 366 x7.toNatClampNeg ((w_3.2.1 366 x7.toNatClampNeg) ^^^ x6) → pX11_layLinks_189 (pX11_layLinks_142 k30 post n) post x1 x2 x3 x5 x6 x7 w_4)) ∧ (¬ (w.2.1 367 x7.toNatClampNeg) = x5 → (pX11_layLinks_189 (pX11_layLinks_142 k30 post n) post x1 x2 x3 x5 x6 x7 w))))
def pX11_layLinks_30 (post : Int32 → Wd → Prop) : Nat → Int32 → Int32 → Wd → Prop
  | 0, _, _, _ => False
  | n + 1, x1, x2, w => ((w.1 300 58) ≤ x2 → (post (1 : Int32) w)) ∧ (¬ (w.1 300 58) ≤ x2 → (False))
def pX11_layLinks_2 (post : Int32 → Wd → Prop) : Nat → Int32 → Int32 → Wd → Prop
  | 0, _, _, _ => False
  | n + 1, x1, x2, w => ((8 : Int32) ≤ x2 → (∃ n9, pX11_layLinks_30 post n9 x1 (0 : Int32) w)) ∧ (¬ (8 : Int32) ≤ x2 → (vp_in x2 8 ∧ ∀ w_2, w_2 = sA w 366 x2.toNatClampNeg (0 : Int32) → vp_in x2 8 ∧ ∀ w_3, w_3 = sA w_2 367 x2.toNatClampNeg x2 → ∀ x2_4, x2_4 = x2 + (1 : Int32) → pX11_layLinks_2 post n x1 x2_4 w_3))
def pX11_layLinks (post : Int32 → Wd → Prop) (x1 : Int32) (w : Wd) : Prop := ∃ n9, pX11_layLinks_2 post n9 x1 (0 : Int32) w
set_option maxHeartbeats 4000000 in
set_option maxRecDepth 100000 in
theorem bX11_layLinks_195 {p : Program} {l : Launch} {e : Env} {s : State} {m : MethodId} {args : Array Value} {below : List Frame} {meth : Method} {c : Code} {Q : State → Prop} {A : Nat → Prop} {g : Gw} {post : Int32 → Wd → Prop}  (hC : Cx p s m args c cX11_layLinks RX11 8 g) (hR : RtZ tabM p l e (rk 1) s m args below meth c Q cX11_layLinks A g post)  {k30 : Int32 → Int32 → Wd → Prop} (hk30 : ∀ (x1 : Int32) (x2 : Int32) (w : Wd) (H : Heap) (locs : List Loc) (ls : Array Slot), k30 x1 x2 w → St tabM A s.heap g w H locs → lv_has ls 8 [(0, .ref (g.2.2 300)), (1, .int x1), (2, .int x2)] → W p l e (rk 1) s m args below meth c H locs 0 0 Q (F0 m 30 ls [])) : ∀ (x1 : Int32) (x2 : Int32) (w : Wd) (H : Heap) (locs : List Loc) (ls : Array Slot), pX11_layLinks_195 k30 post x1 x2 w → St tabM A s.heap g w H locs → lv_has ls 8 [(0, .ref (g.2.2 300)), (1, .int x1), (2, .int x2)] → W p l e (rk 1) s m args below meth c H locs 0 0 Q (F0 m 195 ls []) := by
  have hx := hC.1
  have hb := hC.2.1
  intro x1 x2 w H locs ls hp hS hl
  unfold pX11_layLinks_195 at hp
  obtain ⟨x2_1, ex2_1⟩ : ∃ y : Int32, y = x2 + (1 : Int32) := ⟨_, rfl⟩
  have hp := hp x2_1 ex2_1
  refine lv_iinc (v := x2_1) (lv' := [(2, .int x2_1), (0, .ref (g.2.2 300)), (1, .int x1)]) hx hb dX11_layLinks_195 hl (k := 2) rfl (by rw [ex2_1]; rfl) (by decide) rfl (fun ls hl => ?_)
  refine lv_goto (tgt := 30) hx hb dX11_layLinks_198 (by decide) ?_
  exact hk30 x1 x2_1 w _ _ _ hp hS (lv_sub hl [1, 2, 0] rfl)
set_option maxHeartbeats 4000000 in
set_option maxRecDepth 100000 in
theorem bX11_layLinks_189 {p : Program} {l : Launch} {e : Env} {s : State} {m : MethodId} {args : Array Value} {below : List Frame} {meth : Method} {c : Code} {Q : State → Prop} {A : Nat → Prop} {g : Gw} {post : Int32 → Wd → Prop}  (hC : Cx p s m args c cX11_layLinks RX11 8 g) (hR : RtZ tabM p l e (rk 1) s m args below meth c Q cX11_layLinks A g post)  {k142 : Int32 → Int32 → Int32 → Int32 → Int32 → Int32 → Wd → Prop} (hk142 : ∀ (x1 : Int32) (x2 : Int32) (x3 : Int32) (x5 : Int32) (x6 : Int32) (x7 : Int32) (w : Wd) (H : Heap) (locs : List Loc) (ls : Array Slot), k142 x1 x2 x3 x5 x6 x7 w → St tabM A s.heap g w H locs → lv_has ls 8 [(0, .ref (g.2.2 300)), (1, .int x1), (2, .int x2), (3, .int x3), (5, .int x5), (6, .int x6), (7, .int x7)] → W p l e (rk 1) s m args below meth c H locs 0 0 Q (F0 m 142 ls [])) : ∀ (x1 : Int32) (x2 : Int32) (x3 : Int32) (x5 : Int32) (x6 : Int32) (x7 : Int32) (w : Wd) (H : Heap) (locs : List Loc) (ls : Array Slot), pX11_layLinks_189 k142 post x1 x2 x3 x5 x6 x7 w → St tabM A s.heap g w H locs → lv_has ls 8 [(0, .ref (g.2.2 300)), (1, .int x1), (2, .int x2), (3, .int x3), (5, .int x5), (6, .int x6), (7, .int x7)] → W p l e (rk 1) s m args below meth c H locs 0 0 Q (F0 m 189 ls []) := by
  have hx := hC.1
  have hb := hC.2.1
  intro x1 x2 x3 x5 x6 x7 w H locs ls hp hS hl
  unfold pX11_layLinks_189 at hp
  obtain ⟨x7_1, ex7_1⟩ : ∃ y : Int32, y = x7 + (1 : Int32) := ⟨_, rfl⟩
  have hp := hp x7_1 ex7_1
  refine lv_iinc (v := x7_1) (lv' := [(7, .int x7_1), (0, .ref (g.2.2 300)), (1, .int x1), (2, .int x2), (3, .int x3), (5, .int x5), (6, .int x6)]) hx hb dX11_layLinks_189 hl (k := 6) rfl (by rw [ex7_1]; rfl) (by decide) rfl (fun ls hl => ?_)
  refine lv_goto (tgt := 142) hx hb dX11_layLinks_192 (by decide) ?_
  exact hk142 x1 x2 x3 x5 x6 x7_1 w _ _ _ hp hS (lv_sub hl [1, 2, 3, 4, 5, 6, 0] rfl)
set_option maxHeartbeats 4000000 in
set_option maxRecDepth 100000 in
theorem bX11_layLinks_142 {p : Program} {l : Launch} {e : Env} {s : State} {m : MethodId} {args : Array Value} {below : List Frame} {meth : Method} {c : Code} {Q : State → Prop} {A : Nat → Prop} {g : Gw} {post : Int32 → Wd → Prop}  (hC : Cx p s m args c cX11_layLinks RX11 8 g) (hR : RtZ tabM p l e (rk 1) s m args below meth c Q cX11_layLinks A g post)  {k30 : Int32 → Int32 → Wd → Prop} (hk30 : ∀ (x1 : Int32) (x2 : Int32) (w : Wd) (H : Heap) (locs : List Loc) (ls : Array Slot), k30 x1 x2 w → St tabM A s.heap g w H locs → lv_has ls 8 [(0, .ref (g.2.2 300)), (1, .int x1), (2, .int x2)] → W p l e (rk 1) s m args below meth c H locs 0 0 Q (F0 m 30 ls [])) : ∀ (n : Nat) (x1 : Int32) (x2 : Int32) (x3 : Int32) (x5 : Int32) (x6 : Int32) (x7 : Int32) (w : Wd) (H : Heap) (locs : List Loc) (ls : Array Slot), pX11_layLinks_142 k30 post n x1 x2 x3 x5 x6 x7 w → St tabM A s.heap g w H locs → lv_has ls 8 [(0, .ref (g.2.2 300)), (1, .int x1), (2, .int x2), (3, .int x3), (5, .int x5), (6, .int x6), (7, .int x7)] → W p l e (rk 1) s m args below meth c H locs 0 0 Q (F0 m 142 ls []) := by
  have hx := hC.1
  have hb := hC.2.1
  intro n
  induction n with
  | zero =>
    intro x1 x2 x3 x5 x6 x7 w H locs ls hp hS hl
    exact False.elim hp
  | succ n ih =>
    intro x1 x2 x3 x5 x6 x7 w H locs ls hp hS hl
    unfold pX11_layLinks_142 at hp
    refine lv_iload hx hb dX11_layLinks_142 (lv_at hl 6 rfl) ?_
    refine lv_bipush hx hb dX11_layLinks_144 kB_8 ?_
    refine lv_icmp_ge (tgt := 195) hx hb dX11_layLinks_146 (by decide) (fun c_1 => ?_) (fun c_1 => ?_)
    · have hp := hp.1 c_1
      exact bX11_layLinks_195 hC hR hk30 x1 x2 w _ _ _ hp hS (lv_sub hl [0, 1, 2] rfl)
    · have hp := hp.2 c_1
      refine lv_aload_n hx hb dX11_layLinks_149 rfl (lv_at hl 0 rfl) ?_
      refine G_300_66 hC hS m295 dX11_layLinks_150 ?_
      refine lv_iload hx hb dX11_layLinks_153 (lv_at hl 6 rfl) ?_
      refine La_367 hC hS hp.1 dX11_layLinks_155 ?_
      have hp := hp.2
      refine lv_iload hx hb dX11_layLinks_156 (lv_at hl 4 rfl) ?_
      refine lv_icmp_eq (tgt := 164) hx hb dX11_layLinks_158 (by decide) (fun c_2 => ?_) (fun c_2 => ?_)
      · have hp := hp.1 c_2
        refine lv_aload_n hx hb dX11_layLinks_164 rfl (lv_at hl 0 rfl) ?_
        refine G_300_66 hC hS m295 dX11_layLinks_165 ?_
        refine lv_iload hx hb dX11_layLinks_168 (lv_at hl 6 rfl) ?_
        refine lv_aload_n hx hb dX11_layLinks_170 rfl (lv_at hl 0 rfl) ?_
        refine G_300_66 hC hS m295 dX11_layLinks_171 ?_
        refine lv_iload_n hx hb dX11_layLinks_174 rfl (lv_at hl 3 rfl) ?_
        refine La_367 hC hS hp.1 dX11_layLinks_175 ?_
        have hp := hp.2
        refine Sa_367 hC hS hp.1 dX11_layLinks_176 (fun w_3 H locs ew_3 hS => ?_)
        have hp := hp.2
        have hp := hp w_3 ew_3
        refine lv_aload_n hx hb dX11_layLinks_177 rfl (lv_at hl 0 rfl) ?_
        refine G_300_65 hC hS m294 dX11_layLinks_178 ?_
        refine lv_iload hx hb dX11_layLinks_181 (lv_at hl 6 rfl) ?_
        refine lv_dup2_11 hx hb dX11_layLinks_183 rfl rfl ?_
        refine La_366 hC hS hp.1 dX11_layLinks_184 ?_
        have hp := hp.2
        refine lv_iload hx hb dX11_layLinks_185 (lv_at hl 5 rfl) ?_
        refine lv_ixor hx hb dX11_layLinks_187 ?_
        refine Sa_366 hC hS hp.1 dX11_layLinks_188 (fun w_4 H locs ew_4 hS => ?_)
        have hp := hp.2
        have hp := hp w_4 ew_4
        exact bX11_layLinks_189 hC hR ih x1 x2 x3 x5 x6 x7 w_4 _ _ _ hp hS (lv_sub hl [0, 1, 2, 3, 4, 5, 6] rfl)
      · have hp := hp.2 c_2
        refine lv_goto (tgt := 189) hx hb dX11_layLinks_161 (by decide) ?_
        exact bX11_layLinks_189 hC hR ih x1 x2 x3 x5 x6 x7 w _ _ _ hp hS (lv_sub hl [0, 1, 2, 3, 4, 5, 6] rfl)
set_option maxHeartbeats 4000000 in
set_option maxRecDepth 100000 in
theorem bX11_layLinks_30 {p : Program} {l : Launch} {e : Env} {s : State} {m : MethodId} {args : Array Value} {below : List Frame} {meth : Method} {c : Code} {Q : State → Prop} {A : Nat → Prop} {g : Gw} {post : Int32 → Wd → Prop}  (hC : Cx p s m args c cX11_layLinks RX11 8 g) (hR : RtZ tabM p l e (rk 1) s m args below meth c Q cX11_layLinks A g post)  : ∀ (n : Nat) (x1 : Int32) (x2 : Int32) (w : Wd) (H : Heap) (locs : List Loc) (ls : Array Slot), pX11_layLinks_30 post n x1 x2 w → St tabM A s.heap g w H locs → lv_has ls 8 [(0, .ref (g.2.2 300)), (1, .int x1), (2, .int x2)] → W p l e (rk 1) s m args below meth c H locs 0 0 Q (F0 m 30 ls []) := by
  have hx := hC.1
  have hb := hC.2.1
  intro n
  induction n with
  | zero =>
    intro x1 x2 w H locs ls hp hS hl
    exact False.elim hp
  | succ n ih =>
    intro x1 x2 w H locs ls hp hS hl
    unfold pX11_layLinks_30 at hp
    refine lv_iload_n hx hb dX11_layLinks_30 rfl (lv_at hl 2 rfl) ?_
    refine lv_aload_n hx hb dX11_layLinks_31 rfl (lv_at hl 0 rfl) ?_
    refine G_300_58 hC hS m311 dX11_layLinks_32 ?_
    refine lv_icmp_ge (tgt := 201) hx hb dX11_layLinks_35 (by decide) (fun c_1 => ?_) (fun c_1 => ?_)
    · have hp := hp.1 c_1
      refine lv_iconst hx hb dX11_layLinks_201 kI_1 ?_
      exact hR _ _ _ _ _ _ dX11_layLinks_202 (by decide) hp hS
    · have hp := hp.2 c_1
      refine lv_aload_n hx hb dX11_layLinks_38 rfl (lv_at hl 0 rfl) ?_
      refine lv_iload_n hx hb dX11_layLinks_39 rfl (lv_at hl 2 rfl) ?_
      refine lv_iconst hx hb dX11_layLinks_40 kI_3 ?_
      refine lv_iload_n hx hb dX11_layLinks_41 rfl (lv_at hl 1 rfl) ?_
      exact False.elim hp
set_option maxHeartbeats 4000000 in
set_option maxRecDepth 100000 in
theorem bX11_layLinks_2 {p : Program} {l : Launch} {e : Env} {s : State} {m : MethodId} {args : Array Value} {below : List Frame} {meth : Method} {c : Code} {Q : State → Prop} {A : Nat → Prop} {g : Gw} {post : Int32 → Wd → Prop}  (hC : Cx p s m args c cX11_layLinks RX11 8 g) (hR : RtZ tabM p l e (rk 1) s m args below meth c Q cX11_layLinks A g post)  : ∀ (n : Nat) (x1 : Int32) (x2 : Int32) (w : Wd) (H : Heap) (locs : List Loc) (ls : Array Slot), pX11_layLinks_2 post n x1 x2 w → St tabM A s.heap g w H locs → lv_has ls 8 [(0, .ref (g.2.2 300)), (1, .int x1), (2, .int x2)] → W p l e (rk 1) s m args below meth c H locs 0 0 Q (F0 m 2 ls []) := by
  have hx := hC.1
  have hb := hC.2.1
  intro n
  induction n with
  | zero =>
    intro x1 x2 w H locs ls hp hS hl
    exact False.elim hp
  | succ n ih =>
    intro x1 x2 w H locs ls hp hS hl
    unfold pX11_layLinks_2 at hp
    refine lv_iload_n hx hb dX11_layLinks_2 rfl (lv_at hl 2 rfl) ?_
    refine lv_bipush hx hb dX11_layLinks_3 kB_8 ?_
    refine lv_icmp_ge (tgt := 28) hx hb dX11_layLinks_5 (by decide) (fun c_1 => ?_) (fun c_1 => ?_)
    · have hp := hp.1 c_1
      refine lv_iconst hx hb dX11_layLinks_28 kI_0 ?_
      refine lv_istore_n (lv' := [(2, .int (0 : Int32)), (0, .ref (g.2.2 300)), (1, .int x1)]) hx hb dX11_layLinks_29 rfl hl (by decide) rfl (fun ls hl => ?_)
      obtain ⟨n9, hp⟩ := hp
      exact bX11_layLinks_30 hC hR n9 x1 (0 : Int32) w _ _ _ hp hS (lv_sub hl [1, 2, 0] rfl)
    · have hp := hp.2 c_1
      refine lv_aload_n hx hb dX11_layLinks_8 rfl (lv_at hl 0 rfl) ?_
      refine G_300_65 hC hS m294 dX11_layLinks_9 ?_
      refine lv_iload_n hx hb dX11_layLinks_12 rfl (lv_at hl 2 rfl) ?_
      refine lv_iconst hx hb dX11_layLinks_13 kI_0 ?_
      refine Sa_366 hC hS hp.1 dX11_layLinks_14 (fun w_2 H locs ew_2 hS => ?_)
      have hp := hp.2
      have hp := hp w_2 ew_2
      refine lv_aload_n hx hb dX11_layLinks_15 rfl (lv_at hl 0 rfl) ?_
      refine G_300_66 hC hS m295 dX11_layLinks_16 ?_
      refine lv_iload_n hx hb dX11_layLinks_19 rfl (lv_at hl 2 rfl) ?_
      refine lv_iload_n hx hb dX11_layLinks_20 rfl (lv_at hl 2 rfl) ?_
      refine Sa_367 hC hS hp.1 dX11_layLinks_21 (fun w_3 H locs ew_3 hS => ?_)
      have hp := hp.2
      have hp := hp w_3 ew_3
      obtain ⟨x2_4, ex2_4⟩ : ∃ y : Int32, y = x2 + (1 : Int32) := ⟨_, rfl⟩
      have hp := hp x2_4 ex2_4
      refine lv_iinc (v := x2_4) (lv' := [(2, .int x2_4), (0, .ref (g.2.2 300)), (1, .int x1)]) hx hb dX11_layLinks_22 hl (k := 2) rfl (by rw [ex2_4]; rfl) (by decide) rfl (fun ls hl => ?_)
      refine lv_goto (tgt := 2) hx hb dX11_layLinks_25 (by decide) ?_
      exact ih x1 x2_4 w_3 _ _ _ hp hS (lv_sub hl [1, 2, 0] rfl)
set_option maxHeartbeats 4000000 in
set_option maxRecDepth 100000 in
theorem rX11_layLinks {l : Launch} {g : Gw} {w : Wd} {post : Int32 → Wd → Prop}   {x1 : Int32} (hp : pX11_layLinks post x1 w) : MtI tabM l yX11_layLinks cX11_layLinks 8 (some .boolean) 1 g w [.ref (g.2.2 300), .int x1] post := by
  refine q_entZ tabM_nd (by decide) rfl (Nat.le_of_ble_eq_true rfl) ?_
  intro p e s m args below meth c A Q ls hC hR hS hl
  have hx := hC.1
  have hb := hC.2.1
  have hl : lv_has ls 8 [(0, .ref (g.2.2 300)), (1, .int x1)] := hl
  unfold pX11_layLinks at hp
  refine lv_iconst hx hb dX11_layLinks_0 kI_0 ?_
  refine lv_istore_n (lv' := [(2, .int (0 : Int32)), (0, .ref (g.2.2 300)), (1, .int x1)]) hx hb dX11_layLinks_1 rfl hl (by decide) rfl (fun ls hl => ?_)
  obtain ⟨n9, hp⟩ := hp
  exact bX11_layLinks_2 hC hR n9 x1 (0 : Int32) w _ _ _ hp hS (lv_sub hl [1, 2, 0] rfl)
def pX11_backward (post : Int32 → Wd → Prop) (x1 : Int32) (x2 : Int32) (w : Wd) : Prop := pX11_isIn (fun r_1 w_2 => (¬ r_1 = 0 → (pX11_layLinks (fun r_4 w_5 => (¬ r_4 = 0 → (vp_in x1 8 ∧ (¬ (w_5.2.1 367 x1.toNatClampNeg) = (w_5.2.1 367 (0 : Int32).toNatClampNeg) → (post (-1 : Int32) w_5)) ∧ ((w_5.2.1 367 x1.toNatClampNeg) = (w_5.2.1 367 (0 : Int32).toNatClampNeg) → (vp_in x1 8 ∧ post ((w_5.2.1 366 x1.toNatClampNeg) ^^^ (w_5.2.1 366 (0 : Int32).toNatClampNeg)) w_5)))) ∧ (r_4 = 0 → (post (-2 : Int32) w_5))) x2 w_2)) ∧ (r_1 = 0 → (post (-1 : Int32) w_2))) x1 (0 : Int32) (7 : Int32) w
set_option maxHeartbeats 4000000 in
set_option maxRecDepth 100000 in
theorem rX11_backward {l : Launch} {g : Gw} {w : Wd} {post : Int32 → Wd → Prop}   {x1 : Int32} {x2 : Int32} (hp : pX11_backward post x1 x2 w) : MtI tabM l yX11_backward cX11_backward 3 (some .int) 2 g w [.ref (g.2.2 300), .int x1, .int x2] post := by
  refine q_entI tabM_nd (by decide) rfl (Nat.le_of_ble_eq_true rfl) ?_
  intro p e s m args below meth c A Q ls hC hR hS hl
  have hx := hC.1
  have hb := hC.2.1
  have hl : lv_has ls 3 [(0, .ref (g.2.2 300)), (1, .int x1), (2, .int x2)] := hl
  unfold pX11_backward at hp
  refine lv_iload_n hx hb dX11_backward_0 rfl (lv_at hl 1 rfl) ?_
  refine lv_iconst hx hb dX11_backward_1 kI_0 ?_
  refine lv_bipush hx hb dX11_backward_2 kB_7 ?_
  refine q_csI (As := [.int x1, .int (0 : Int32), .int (7 : Int32)]) (rest := []) hC hS hl.1 (rX11_isIn hp) cwX11_345 ysX11_isIn rfl rfl (Nat.le_of_ble_eq_true rfl) (rmk (by decide) (by decide)) dX11_backward_4 (fun r_1 w_2 H locs hp hS => ?_)
  refine lv_if_ne (tgt := 12) hx hb dX11_backward_7 (by decide) (fun c_3 => ?_) (fun c_3 => ?_)
  · have hp := hp.1 c_3
    refine lv_aload_n hx hb dX11_backward_12 rfl (lv_at hl 0 rfl) ?_
    refine lv_iload_n hx hb dX11_backward_13 rfl (lv_at hl 2 rfl) ?_
    refine q_cvI (As := [.int x2]) (rest := []) hC hS hl.1 (rX11_layLinks hp) cwX11_445 yvX11_layLinks (rcv_300 hC hS) rfl rfl (Nat.le_of_ble_eq_true rfl) (rmk (by decide) (by decide)) dX11_backward_14 (fun r_4 w_5 H locs hp hS => ?_)
    refine lv_if_ne (tgt := 23) hx hb dX11_backward_17 (by decide) (fun c_6 => ?_) (fun c_6 => ?_)
    · have hp := hp.1 c_6
      refine lv_aload_n hx hb dX11_backward_23 rfl (lv_at hl 0 rfl) ?_
      refine G_300_66 hC hS m295 dX11_backward_24 ?_
      refine lv_iload_n hx hb dX11_backward_27 rfl (lv_at hl 1 rfl) ?_
      refine La_367 hC hS hp.1 dX11_backward_28 ?_
      have hp := hp.2
      refine lv_aload_n hx hb dX11_backward_29 rfl (lv_at hl 0 rfl) ?_
      refine G_300_66 hC hS m295 dX11_backward_30 ?_
      refine lv_iconst hx hb dX11_backward_33 kI_0 ?_
      refine La_367 hC hS (by unfold vp_in; decide) dX11_backward_34 ?_
      refine lv_icmp_ne (tgt := 54) hx hb dX11_backward_35 (by decide) (fun c_7 => ?_) (fun c_7 => ?_)
      · have hp := hp.1 c_7
        refine lv_iconst hx hb dX11_backward_54 kI_m1 ?_
        exact hR _ _ _ _ _ _ dX11_backward_55 hp hS
      · have hp := hp.2 c_7
        refine lv_aload_n hx hb dX11_backward_38 rfl (lv_at hl 0 rfl) ?_
        refine G_300_65 hC hS m294 dX11_backward_39 ?_
        refine lv_iload_n hx hb dX11_backward_42 rfl (lv_at hl 1 rfl) ?_
        refine La_366 hC hS hp.1 dX11_backward_43 ?_
        have hp := hp.2
        refine lv_aload_n hx hb dX11_backward_44 rfl (lv_at hl 0 rfl) ?_
        refine G_300_65 hC hS m294 dX11_backward_45 ?_
        refine lv_iconst hx hb dX11_backward_48 kI_0 ?_
        refine La_366 hC hS (by unfold vp_in; decide) dX11_backward_49 ?_
        refine lv_ixor hx hb dX11_backward_50 ?_
        refine lv_goto (tgt := 55) hx hb dX11_backward_51 (by decide) ?_
        exact hR _ _ _ _ _ _ dX11_backward_55 hp hS
    · have hp := hp.2 c_6
      refine lv_bipush hx hb dX11_backward_20 kB_m2 ?_
      exact hR _ _ _ _ _ _ dX11_backward_22 hp hS
  · have hp := hp.2 c_3
    refine lv_iconst hx hb dX11_backward_10 kI_m1 ?_
    exact hR _ _ _ _ _ _ dX11_backward_11 hp hS
def pX11_lies (post : Int32 → Wd → Prop) (x1 : Int32) (w : Wd) : Prop := pX11_isIn (fun r_1 w_2 => (r_1 = 0 → (post (-2 : Int32) w_2)) ∧ (¬ r_1 = 0 → (vp_in x1 12 ∧ post (w_2.2.1 348 x1.toNatClampNeg) w_2))) x1 (0 : Int32) ((w.1 300 48) - (1 : Int32)) w
set_option maxHeartbeats 4000000 in
set_option maxRecDepth 100000 in
theorem rX11_lies {l : Launch} {g : Gw} {w : Wd} {post : Int32 → Wd → Prop}   {x1 : Int32} (hp : pX11_lies post x1 w) : MtI tabM l yX11_lies cX11_lies 2 (some .int) 2 g w [.ref (g.2.2 300), .int x1] post := by
  refine q_entI tabM_nd (by decide) rfl (Nat.le_of_ble_eq_true rfl) ?_
  intro p e s m args below meth c A Q ls hC hR hS hl
  have hx := hC.1
  have hb := hC.2.1
  have hl : lv_has ls 2 [(0, .ref (g.2.2 300)), (1, .int x1)] := hl
  unfold pX11_lies at hp
  refine lv_iload_n hx hb dX11_lies_0 rfl (lv_at hl 1 rfl) ?_
  refine lv_iconst hx hb dX11_lies_1 kI_0 ?_
  refine lv_aload_n hx hb dX11_lies_2 rfl (lv_at hl 0 rfl) ?_
  refine G_300_48 hC hS m312 dX11_lies_3 ?_
  refine lv_iconst hx hb dX11_lies_6 kI_1 ?_
  refine lv_isub hx hb dX11_lies_7 ?_
  refine q_csI (As := [.int x1, .int (0 : Int32), .int ((w.1 300 48) - (1 : Int32))]) (rest := []) hC hS hl.1 (rX11_isIn hp) cwX11_345 ysX11_isIn rfl rfl (Nat.le_of_ble_eq_true rfl) (rmk (by decide) (by decide)) dX11_lies_8 (fun r_1 w_2 H locs hp hS => ?_)
  refine lv_if_eq (tgt := 23) hx hb dX11_lies_11 (by decide) (fun c_3 => ?_) (fun c_3 => ?_)
  · have hp := hp.1 c_3
    refine lv_bipush hx hb dX11_lies_23 kB_m2 ?_
    exact hR _ _ _ _ _ _ dX11_lies_25 hp hS
  · have hp := hp.2 c_3
    refine lv_aload_n hx hb dX11_lies_14 rfl (lv_at hl 0 rfl) ?_
    refine G_300_47 hC hS m279 dX11_lies_15 ?_
    refine lv_iload_n hx hb dX11_lies_18 rfl (lv_at hl 1 rfl) ?_
    refine La_348 hC hS hp.1 dX11_lies_19 ?_
    have hp := hp.2
    refine lv_goto (tgt := 25) hx hb dX11_lies_20 (by decide) ?_
    exact hR _ _ _ _ _ _ dX11_lies_25 hp hS
def pX11_image_13 (post : Int32 → Wd → Prop) : Nat → Int32 → Int32 → Wd → Prop
  | 0, _, _, _ => False
  | n + 1, x1, x2, w => ((221 : Int32) ≤ x2 → (vp_in x1 3 ∧ ∀ w_2, w_2 = sA w 369 x1.toNatClampNeg (vp_nar .boolean (1 : Int32)) → post (w_2.2.1 341 (216 : Int32).toNatClampNeg) w_2)) ∧ (¬ (221 : Int32) ≤ x2 → (vp_in x2 221 ∧ vp_in (((221 : Int32) * x1) + x2) 663 ∧ ∀ w_3, w_3 = sA w 368 (((221 : Int32) * x1) + x2).toNatClampNeg (w.2.1 341 x2.toNatClampNeg) → ∀ x2_4, x2_4 = x2 + (1 : Int32) → pX11_image_13 post n x1 x2_4 w_3))
def pX11_image (post : Int32 → Wd → Prop) (x1 : Int32) (w : Wd) : Prop := pX11_isIn (fun r_1 w_2 => (¬ r_1 = 0 → (∃ n9, pX11_image_13 post n9 x1 (0 : Int32) w_2)) ∧ (r_1 = 0 → (post (-1 : Int32) w_2))) x1 (0 : Int32) (2 : Int32) w
set_option maxHeartbeats 4000000 in
set_option maxRecDepth 100000 in
theorem bX11_image_13 {p : Program} {l : Launch} {e : Env} {s : State} {m : MethodId} {args : Array Value} {below : List Frame} {meth : Method} {c : Code} {Q : State → Prop} {A : Nat → Prop} {g : Gw} {post : Int32 → Wd → Prop}  (hC : Cx p s m args c cX11_image RX11 3 g) (hR : RtI tabM p l e (rk 2) s m args below meth c Q cX11_image A g post)  : ∀ (n : Nat) (x1 : Int32) (x2 : Int32) (w : Wd) (H : Heap) (locs : List Loc) (ls : Array Slot), pX11_image_13 post n x1 x2 w → St tabM A s.heap g w H locs → lv_has ls 3 [(0, .ref (g.2.2 300)), (1, .int x1), (2, .int x2)] → W p l e (rk 2) s m args below meth c H locs 0 0 Q (F0 m 13 ls []) := by
  have hx := hC.1
  have hb := hC.2.1
  intro n
  induction n with
  | zero =>
    intro x1 x2 w H locs ls hp hS hl
    exact False.elim hp
  | succ n ih =>
    intro x1 x2 w H locs ls hp hS hl
    unfold pX11_image_13 at hp
    refine lv_iload_n hx hb dX11_image_13 rfl (lv_at hl 2 rfl) ?_
    refine lv_sipush hx hb dX11_image_14 kS_221 ?_
    refine lv_icmp_ge (tgt := 44) hx hb dX11_image_17 (by decide) (fun c_1 => ?_) (fun c_1 => ?_)
    · have hp := hp.1 c_1
      refine lv_aload_n hx hb dX11_image_44 rfl (lv_at hl 0 rfl) ?_
      refine G_300_68 hC hS m297 dX11_image_45 ?_
      refine lv_iload_n hx hb dX11_image_48 rfl (lv_at hl 1 rfl) ?_
      refine lv_iconst hx hb dX11_image_49 kI_1 ?_
      refine Sa_369 hC hS hp.1 dX11_image_50 (fun w_2 H locs ew_2 hS => ?_)
      have hp := hp.2
      have hp := hp w_2 ew_2
      refine lv_aload_n hx hb dX11_image_51 rfl (lv_at hl 0 rfl) ?_
      refine G_300_40 hC hS m274 dX11_image_52 ?_
      refine lv_sipush hx hb dX11_image_55 kS_216 ?_
      refine La_341 hC hS (by unfold vp_in; decide) dX11_image_58 ?_
      exact hR _ _ _ _ _ _ dX11_image_59 hp hS
    · have hp := hp.2 c_1
      refine lv_aload_n hx hb dX11_image_20 rfl (lv_at hl 0 rfl) ?_
      refine G_300_67 hC hS m296 dX11_image_21 ?_
      refine lv_sipush hx hb dX11_image_24 kS_221 ?_
      refine lv_iload_n hx hb dX11_image_27 rfl (lv_at hl 1 rfl) ?_
      refine lv_imul hx hb dX11_image_28 ?_
      refine lv_iload_n hx hb dX11_image_29 rfl (lv_at hl 2 rfl) ?_
      refine lv_iadd hx hb dX11_image_30 ?_
      refine lv_aload_n hx hb dX11_image_31 rfl (lv_at hl 0 rfl) ?_
      refine G_300_40 hC hS m274 dX11_image_32 ?_
      refine lv_iload_n hx hb dX11_image_35 rfl (lv_at hl 2 rfl) ?_
      refine La_341 hC hS hp.1 dX11_image_36 ?_
      have hp := hp.2
      refine Sa_368 hC hS hp.1 dX11_image_37 (fun w_3 H locs ew_3 hS => ?_)
      have hp := hp.2
      have hp := hp w_3 ew_3
      obtain ⟨x2_4, ex2_4⟩ : ∃ y : Int32, y = x2 + (1 : Int32) := ⟨_, rfl⟩
      have hp := hp x2_4 ex2_4
      refine lv_iinc (v := x2_4) (lv' := [(2, .int x2_4), (0, .ref (g.2.2 300)), (1, .int x1)]) hx hb dX11_image_38 hl (k := 2) rfl (by rw [ex2_4]; rfl) (by decide) rfl (fun ls hl => ?_)
      refine lv_goto (tgt := 13) hx hb dX11_image_41 (by decide) ?_
      exact ih x1 x2_4 w_3 _ _ _ hp hS (lv_sub hl [1, 2, 0] rfl)
set_option maxHeartbeats 4000000 in
set_option maxRecDepth 100000 in
theorem rX11_image {l : Launch} {g : Gw} {w : Wd} {post : Int32 → Wd → Prop}   {x1 : Int32} (hp : pX11_image post x1 w) : MtI tabM l yX11_image cX11_image 3 (some .int) 2 g w [.ref (g.2.2 300), .int x1] post := by
  refine q_entI tabM_nd (by decide) rfl (Nat.le_of_ble_eq_true rfl) ?_
  intro p e s m args below meth c A Q ls hC hR hS hl
  have hx := hC.1
  have hb := hC.2.1
  have hl : lv_has ls 3 [(0, .ref (g.2.2 300)), (1, .int x1)] := hl
  unfold pX11_image at hp
  refine lv_iload_n hx hb dX11_image_0 rfl (lv_at hl 1 rfl) ?_
  refine lv_iconst hx hb dX11_image_1 kI_0 ?_
  refine lv_iconst hx hb dX11_image_2 kI_2 ?_
  refine q_csI (As := [.int x1, .int (0 : Int32), .int (2 : Int32)]) (rest := []) hC hS hl.1 (rX11_isIn hp) cwX11_345 ysX11_isIn rfl rfl (Nat.le_of_ble_eq_true rfl) (rmk (by decide) (by decide)) dX11_image_3 (fun r_1 w_2 H locs hp hS => ?_)
  refine lv_if_ne (tgt := 11) hx hb dX11_image_6 (by decide) (fun c_3 => ?_) (fun c_3 => ?_)
  · have hp := hp.1 c_3
    refine lv_iconst hx hb dX11_image_11 kI_0 ?_
    refine lv_istore_n (lv' := [(2, .int (0 : Int32)), (0, .ref (g.2.2 300)), (1, .int x1)]) hx hb dX11_image_12 rfl hl (by decide) rfl (fun ls hl => ?_)
    obtain ⟨n9, hp⟩ := hp
    exact bX11_image_13 hC hR n9 x1 (0 : Int32) w_2 _ _ _ hp hS (lv_sub hl [1, 2, 0] rfl)
  · have hp := hp.2 c_3
    refine lv_iconst hx hb dX11_image_9 kI_m1 ?_
    exact hR _ _ _ _ _ _ dX11_image_10 hp hS
def pX11_back_22 (post : Int32 → Wd → Prop) : Nat → Int32 → Int32 → Wd → Prop
  | 0, _, _, _ => False
  | n + 1, x1, x2, w => ((221 : Int32) ≤ x2 → (∀ w_2, w_2 = sI w 300 42 (0 : Int32) → ∀ w_3, w_3 = sI w_2 300 43 (0 : Int32) → post (w_3.2.1 341 (216 : Int32).toNatClampNeg) w_3)) ∧ (¬ (221 : Int32) ≤ x2 → (vp_in (((221 : Int32) * x1) + x2) 663 ∧ vp_in x2 221 ∧ ∀ w_4, w_4 = sA w 341 x2.toNatClampNeg (w.2.1 368 (((221 : Int32) * x1) + x2).toNatClampNeg) → ∀ x2_5, x2_5 = x2 + (1 : Int32) → pX11_back_22 post n x1 x2_5 w_4))
def pX11_back (post : Int32 → Wd → Prop) (x1 : Int32) (w : Wd) : Prop := pX11_isIn (fun r_1 w_2 => (r_1 = 0 → (post (-1 : Int32) w_2)) ∧ (¬ r_1 = 0 → (vp_in x1 3 ∧ (¬ (w_2.2.1 369 x1.toNatClampNeg) = 0 → (∃ n9, pX11_back_22 post n9 x1 (0 : Int32) w_2)) ∧ ((w_2.2.1 369 x1.toNatClampNeg) = 0 → (post (-1 : Int32) w_2))))) x1 (0 : Int32) (2 : Int32) w
set_option maxHeartbeats 4000000 in
set_option maxRecDepth 100000 in
theorem bX11_back_22 {p : Program} {l : Launch} {e : Env} {s : State} {m : MethodId} {args : Array Value} {below : List Frame} {meth : Method} {c : Code} {Q : State → Prop} {A : Nat → Prop} {g : Gw} {post : Int32 → Wd → Prop}  (hC : Cx p s m args c cX11_back RX11 3 g) (hR : RtI tabM p l e (rk 2) s m args below meth c Q cX11_back A g post)  : ∀ (n : Nat) (x1 : Int32) (x2 : Int32) (w : Wd) (H : Heap) (locs : List Loc) (ls : Array Slot), pX11_back_22 post n x1 x2 w → St tabM A s.heap g w H locs → lv_has ls 3 [(0, .ref (g.2.2 300)), (1, .int x1), (2, .int x2)] → W p l e (rk 2) s m args below meth c H locs 0 0 Q (F0 m 22 ls []) := by
  have hx := hC.1
  have hb := hC.2.1
  intro n
  induction n with
  | zero =>
    intro x1 x2 w H locs ls hp hS hl
    exact False.elim hp
  | succ n ih =>
    intro x1 x2 w H locs ls hp hS hl
    unfold pX11_back_22 at hp
    refine lv_iload_n hx hb dX11_back_22 rfl (lv_at hl 2 rfl) ?_
    refine lv_sipush hx hb dX11_back_23 kS_221 ?_
    refine lv_icmp_ge (tgt := 53) hx hb dX11_back_26 (by decide) (fun c_1 => ?_) (fun c_1 => ?_)
    · have hp := hp.1 c_1
      refine lv_aload_n hx hb dX11_back_53 rfl (lv_at hl 0 rfl) ?_
      refine lv_iconst hx hb dX11_back_54 kI_0 ?_
      refine P_300_42 hC hS m309 dX11_back_55 (fun w_2 H locs ew_2 hS => ?_)
      have hp := hp w_2 ew_2
      refine lv_aload_n hx hb dX11_back_58 rfl (lv_at hl 0 rfl) ?_
      refine lv_iconst hx hb dX11_back_59 kI_0 ?_
      refine P_300_43 hC hS m310 dX11_back_60 (fun w_3 H locs ew_3 hS => ?_)
      have hp := hp w_3 ew_3
      refine lv_aload_n hx hb dX11_back_63 rfl (lv_at hl 0 rfl) ?_
      refine G_300_40 hC hS m274 dX11_back_64 ?_
      refine lv_sipush hx hb dX11_back_67 kS_216 ?_
      refine La_341 hC hS (by unfold vp_in; decide) dX11_back_70 ?_
      exact hR _ _ _ _ _ _ dX11_back_71 hp hS
    · have hp := hp.2 c_1
      refine lv_aload_n hx hb dX11_back_29 rfl (lv_at hl 0 rfl) ?_
      refine G_300_40 hC hS m274 dX11_back_30 ?_
      refine lv_iload_n hx hb dX11_back_33 rfl (lv_at hl 2 rfl) ?_
      refine lv_aload_n hx hb dX11_back_34 rfl (lv_at hl 0 rfl) ?_
      refine G_300_67 hC hS m296 dX11_back_35 ?_
      refine lv_sipush hx hb dX11_back_38 kS_221 ?_
      refine lv_iload_n hx hb dX11_back_41 rfl (lv_at hl 1 rfl) ?_
      refine lv_imul hx hb dX11_back_42 ?_
      refine lv_iload_n hx hb dX11_back_43 rfl (lv_at hl 2 rfl) ?_
      refine lv_iadd hx hb dX11_back_44 ?_
      refine La_368 hC hS hp.1 dX11_back_45 ?_
      have hp := hp.2
      refine Sa_341 hC hS hp.1 dX11_back_46 (fun w_4 H locs ew_4 hS => ?_)
      have hp := hp.2
      have hp := hp w_4 ew_4
      obtain ⟨x2_5, ex2_5⟩ : ∃ y : Int32, y = x2 + (1 : Int32) := ⟨_, rfl⟩
      have hp := hp x2_5 ex2_5
      refine lv_iinc (v := x2_5) (lv' := [(2, .int x2_5), (0, .ref (g.2.2 300)), (1, .int x1)]) hx hb dX11_back_47 hl (k := 2) rfl (by rw [ex2_5]; rfl) (by decide) rfl (fun ls hl => ?_)
      refine lv_goto (tgt := 22) hx hb dX11_back_50 (by decide) ?_
      exact ih x1 x2_5 w_4 _ _ _ hp hS (lv_sub hl [1, 2, 0] rfl)
set_option maxHeartbeats 4000000 in
set_option maxRecDepth 100000 in
theorem rX11_back {l : Launch} {g : Gw} {w : Wd} {post : Int32 → Wd → Prop}   {x1 : Int32} (hp : pX11_back post x1 w) : MtI tabM l yX11_back cX11_back 3 (some .int) 2 g w [.ref (g.2.2 300), .int x1] post := by
  refine q_entI tabM_nd (by decide) rfl (Nat.le_of_ble_eq_true rfl) ?_
  intro p e s m args below meth c A Q ls hC hR hS hl
  have hx := hC.1
  have hb := hC.2.1
  have hl : lv_has ls 3 [(0, .ref (g.2.2 300)), (1, .int x1)] := hl
  unfold pX11_back at hp
  refine lv_iload_n hx hb dX11_back_0 rfl (lv_at hl 1 rfl) ?_
  refine lv_iconst hx hb dX11_back_1 kI_0 ?_
  refine lv_iconst hx hb dX11_back_2 kI_2 ?_
  refine q_csI (As := [.int x1, .int (0 : Int32), .int (2 : Int32)]) (rest := []) hC hS hl.1 (rX11_isIn hp) cwX11_345 ysX11_isIn rfl rfl (Nat.le_of_ble_eq_true rfl) (rmk (by decide) (by decide)) dX11_back_3 (fun r_1 w_2 H locs hp hS => ?_)
  refine lv_if_eq (tgt := 18) hx hb dX11_back_6 (by decide) (fun c_3 => ?_) (fun c_3 => ?_)
  · have hp := hp.1 c_3
    refine lv_iconst hx hb dX11_back_18 kI_m1 ?_
    exact hR _ _ _ _ _ _ dX11_back_19 hp hS
  · have hp := hp.2 c_3
    refine lv_aload_n hx hb dX11_back_9 rfl (lv_at hl 0 rfl) ?_
    refine G_300_68 hC hS m297 dX11_back_10 ?_
    refine lv_iload_n hx hb dX11_back_13 rfl (lv_at hl 1 rfl) ?_
    refine La_369 hC hS hp.1 dX11_back_14 ?_
    have hp := hp.2
    refine lv_if_ne (tgt := 20) hx hb dX11_back_15 (by decide) (fun c_4 => ?_) (fun c_4 => ?_)
    · have hp := hp.1 c_4
      refine lv_iconst hx hb dX11_back_20 kI_0 ?_
      refine lv_istore_n (lv' := [(2, .int (0 : Int32)), (0, .ref (g.2.2 300)), (1, .int x1)]) hx hb dX11_back_21 rfl hl (by decide) rfl (fun ls hl => ?_)
      obtain ⟨n9, hp⟩ := hp
      exact bX11_back_22 hC hR n9 x1 (0 : Int32) w_2 _ _ _ hp hS (lv_sub hl [1, 2, 0] rfl)
    · have hp := hp.2 c_4
      refine lv_iconst hx hb dX11_back_18 kI_m1 ?_
      exact hR _ _ _ _ _ _ dX11_back_19 hp hS
def pX11_about (post : Int32 → Wd → Prop) (x1 : Int32) (w : Wd) : Prop := (x1.toInt < 0 ∨ 13 < x1.toInt → (post (-1 : Int32) w)) ∧ (x1.toInt = 0 → (vp_in (w.1 300 29) 2 ∧ post (w.2.1 314 (w.1 300 29).toNatClampNeg) w)) ∧ (x1.toInt = 1 → (pX11_width (fun r_2 w_3 => post r_2 w_3) w)) ∧ (x1.toInt = 2 → (post (w.2.1 341 (216 : Int32).toNatClampNeg) w)) ∧ (x1.toInt = 3 → (post (w.2.1 341 (217 : Int32).toNatClampNeg) w)) ∧ (x1.toInt = 4 → (post (w.2.1 341 (218 : Int32).toNatClampNeg) w)) ∧ (x1.toInt = 5 → (post (w.2.1 341 (219 : Int32).toNatClampNeg) w)) ∧ (x1.toInt = 6 → (post (w.2.1 341 (220 : Int32).toNatClampNeg) w)) ∧ (x1.toInt = 7 → (post (w.1 300 42) w)) ∧ (x1.toInt = 8 → (post (w.1 300 43) w)) ∧ (x1.toInt = 9 → (post (w.1 300 58) w)) ∧ (x1.toInt = 10 → (post (w.1 300 59) w)) ∧ (x1.toInt = 11 → (post (w.1 300 2) w)) ∧ (x1.toInt = 12 → (vp_in (w.1 300 29) 2 ∧ post (w.2.1 315 (w.1 300 29).toNatClampNeg) w)) ∧ (x1.toInt = 13 → (post (w.1 300 48) w))
set_option maxHeartbeats 4000000 in
set_option maxRecDepth 100000 in
theorem rX11_about {l : Launch} {g : Gw} {w : Wd} {post : Int32 → Wd → Prop}   {x1 : Int32} (hp : pX11_about post x1 w) : MtI tabM l yX11_about cX11_about 2 (some .int) 2 g w [.ref (g.2.2 300), .int x1] post := by
  refine q_entI tabM_nd (by decide) rfl (Nat.le_of_ble_eq_true rfl) ?_
  intro p e s m args below meth c A Q ls hC hR hS hl
  have hx := hC.1
  have hb := hC.2.1
  have hl : lv_has ls 2 [(0, .ref (g.2.2 300)), (1, .int x1)] := hl
  unfold pX11_about at hp
  refine lv_iload_n hx hb dX11_about_0 rfl (lv_at hl 1 rfl) ?_
  by_cases c_1 : x1.toInt < 0 ∨ 13 < x1.toInt
  · have hp := hp.1 c_1
    refine lv_tableOut (tgt := 172) hx hb dX11_about_1 c_1 (by decide) ?_
    refine lv_iconst hx hb dX11_about_172 kI_m1 ?_
    exact hR _ _ _ _ _ _ dX11_about_173 hp hS
  · have hp := hp.2
    have c_11 : ¬ x1.toInt < 0 := fun z => c_1 (Or.inl z)
    have c_12 : ¬ 13 < x1.toInt := fun z => c_1 (Or.inr z)
    rcases (show x1.toInt = 0 ∨ x1.toInt = 1 ∨ x1.toInt = 2 ∨ x1.toInt = 3 ∨ x1.toInt = 4 ∨ x1.toInt = 5 ∨ x1.toInt = 6 ∨ x1.toInt = 7 ∨ x1.toInt = 8 ∨ x1.toInt = 9 ∨ x1.toInt = 10 ∨ x1.toInt = 11 ∨ x1.toInt = 12 ∨ x1.toInt = 13 by omega) with c_13 | c_13 | c_13 | c_13 | c_13 | c_13 | c_13 | c_13 | c_13 | c_13 | c_13 | c_13 | c_13 | c_13
    · have hp := hp.1 c_13
      refine lv_tableIn (tgt := 72) hx hb dX11_about_1 c_11 c_12 (by rw [c_13]; rfl) (by decide) ?_
      refine lv_aload_n hx hb dX11_about_72 rfl (lv_at hl 0 rfl) ?_
      refine G_300_13 hC hS m258 dX11_about_73 ?_
      refine lv_aload_n hx hb dX11_about_76 rfl (lv_at hl 0 rfl) ?_
      refine G_300_29 hC hS m308 dX11_about_77 ?_
      refine La_314 hC hS hp.1 dX11_about_80 ?_
      have hp := hp.2
      exact hR _ _ _ _ _ _ dX11_about_81 hp hS
    · have hp := hp.2.1 c_13
      refine lv_tableIn (tgt := 82) hx hb dX11_about_1 c_11 c_12 (by rw [c_13]; rfl) (by decide) ?_
      refine lv_aload_n hx hb dX11_about_82 rfl (lv_at hl 0 rfl) ?_
      refine q_cvI (As := []) (rest := []) hC hS hl.1 (rX11_width hp) cwX11_342 yvX11_width (rcv_300 hC hS) rfl rfl (Nat.le_of_ble_eq_true rfl) (rmk (by decide) (by decide)) dX11_about_83 (fun r_2 w_3 H locs hp hS => ?_)
      exact hR _ _ _ _ _ _ dX11_about_86 hp hS
    · have hp := hp.2.2.1 c_13
      refine lv_tableIn (tgt := 87) hx hb dX11_about_1 c_11 c_12 (by rw [c_13]; rfl) (by decide) ?_
      refine lv_aload_n hx hb dX11_about_87 rfl (lv_at hl 0 rfl) ?_
      refine G_300_40 hC hS m274 dX11_about_88 ?_
      refine lv_sipush hx hb dX11_about_91 kS_216 ?_
      refine La_341 hC hS (by unfold vp_in; decide) dX11_about_94 ?_
      exact hR _ _ _ _ _ _ dX11_about_95 hp hS
    · have hp := hp.2.2.2.1 c_13
      refine lv_tableIn (tgt := 96) hx hb dX11_about_1 c_11 c_12 (by rw [c_13]; rfl) (by decide) ?_
      refine lv_aload_n hx hb dX11_about_96 rfl (lv_at hl 0 rfl) ?_
      refine G_300_40 hC hS m274 dX11_about_97 ?_
      refine lv_sipush hx hb dX11_about_100 kS_217 ?_
      refine La_341 hC hS (by unfold vp_in; decide) dX11_about_103 ?_
      exact hR _ _ _ _ _ _ dX11_about_104 hp hS
    · have hp := hp.2.2.2.2.1 c_13
      refine lv_tableIn (tgt := 105) hx hb dX11_about_1 c_11 c_12 (by rw [c_13]; rfl) (by decide) ?_
      refine lv_aload_n hx hb dX11_about_105 rfl (lv_at hl 0 rfl) ?_
      refine G_300_40 hC hS m274 dX11_about_106 ?_
      refine lv_sipush hx hb dX11_about_109 kS_218 ?_
      refine La_341 hC hS (by unfold vp_in; decide) dX11_about_112 ?_
      exact hR _ _ _ _ _ _ dX11_about_113 hp hS
    · have hp := hp.2.2.2.2.2.1 c_13
      refine lv_tableIn (tgt := 114) hx hb dX11_about_1 c_11 c_12 (by rw [c_13]; rfl) (by decide) ?_
      refine lv_aload_n hx hb dX11_about_114 rfl (lv_at hl 0 rfl) ?_
      refine G_300_40 hC hS m274 dX11_about_115 ?_
      refine lv_sipush hx hb dX11_about_118 kS_219 ?_
      refine La_341 hC hS (by unfold vp_in; decide) dX11_about_121 ?_
      exact hR _ _ _ _ _ _ dX11_about_122 hp hS
    · have hp := hp.2.2.2.2.2.2.1 c_13
      refine lv_tableIn (tgt := 123) hx hb dX11_about_1 c_11 c_12 (by rw [c_13]; rfl) (by decide) ?_
      refine lv_aload_n hx hb dX11_about_123 rfl (lv_at hl 0 rfl) ?_
      refine G_300_40 hC hS m274 dX11_about_124 ?_
      refine lv_sipush hx hb dX11_about_127 kS_220 ?_
      refine La_341 hC hS (by unfold vp_in; decide) dX11_about_130 ?_
      exact hR _ _ _ _ _ _ dX11_about_131 hp hS
    · have hp := hp.2.2.2.2.2.2.2.1 c_13
      refine lv_tableIn (tgt := 132) hx hb dX11_about_1 c_11 c_12 (by rw [c_13]; rfl) (by decide) ?_
      refine lv_aload_n hx hb dX11_about_132 rfl (lv_at hl 0 rfl) ?_
      refine G_300_42 hC hS m309 dX11_about_133 ?_
      exact hR _ _ _ _ _ _ dX11_about_136 hp hS
    · have hp := hp.2.2.2.2.2.2.2.2.1 c_13
      refine lv_tableIn (tgt := 137) hx hb dX11_about_1 c_11 c_12 (by rw [c_13]; rfl) (by decide) ?_
      refine lv_aload_n hx hb dX11_about_137 rfl (lv_at hl 0 rfl) ?_
      refine G_300_43 hC hS m310 dX11_about_138 ?_
      exact hR _ _ _ _ _ _ dX11_about_141 hp hS
    · have hp := hp.2.2.2.2.2.2.2.2.2.1 c_13
      refine lv_tableIn (tgt := 142) hx hb dX11_about_1 c_11 c_12 (by rw [c_13]; rfl) (by decide) ?_
      refine lv_aload_n hx hb dX11_about_142 rfl (lv_at hl 0 rfl) ?_
      refine G_300_58 hC hS m311 dX11_about_143 ?_
      exact hR _ _ _ _ _ _ dX11_about_146 hp hS
    · have hp := hp.2.2.2.2.2.2.2.2.2.2.1 c_13
      refine lv_tableIn (tgt := 147) hx hb dX11_about_1 c_11 c_12 (by rw [c_13]; rfl) (by decide) ?_
      refine lv_aload_n hx hb dX11_about_147 rfl (lv_at hl 0 rfl) ?_
      refine G_300_59 hC hS m1177 dX11_about_148 ?_
      exact hR _ _ _ _ _ _ dX11_about_151 hp hS
    · have hp := hp.2.2.2.2.2.2.2.2.2.2.2.1 c_13
      refine lv_tableIn (tgt := 152) hx hb dX11_about_1 c_11 c_12 (by rw [c_13]; rfl) (by decide) ?_
      refine lv_aload_n hx hb dX11_about_152 rfl (lv_at hl 0 rfl) ?_
      refine G_300_2 hC hS m325 dX11_about_153 ?_
      exact hR _ _ _ _ _ _ dX11_about_156 hp hS
    · have hp := hp.2.2.2.2.2.2.2.2.2.2.2.2.1 c_13
      refine lv_tableIn (tgt := 157) hx hb dX11_about_1 c_11 c_12 (by rw [c_13]; rfl) (by decide) ?_
      refine lv_aload_n hx hb dX11_about_157 rfl (lv_at hl 0 rfl) ?_
      refine G_300_14 hC hS m259 dX11_about_158 ?_
      refine lv_aload_n hx hb dX11_about_161 rfl (lv_at hl 0 rfl) ?_
      refine G_300_29 hC hS m308 dX11_about_162 ?_
      refine La_315 hC hS hp.1 dX11_about_165 ?_
      have hp := hp.2
      exact hR _ _ _ _ _ _ dX11_about_166 hp hS
    · have hp := hp.2.2.2.2.2.2.2.2.2.2.2.2.2 c_13
      refine lv_tableIn (tgt := 167) hx hb dX11_about_1 c_11 c_12 (by rw [c_13]; rfl) (by decide) ?_
      refine lv_aload_n hx hb dX11_about_167 rfl (lv_at hl 0 rfl) ?_
      refine G_300_48 hC hS m312 dX11_about_168 ?_
      exact hR _ _ _ _ _ _ dX11_about_171 hp hS
