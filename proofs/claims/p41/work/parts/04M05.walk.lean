def pX11_tell_91 (k52 : Int32 → Int32 → Wd → Prop) (post : Int32 → Wd → Prop) (x1 : Int32) (x2 : Int32) (w : Wd) : Prop := ∀ x2_1, x2_1 = x2 + (1 : Int32) → k52 x1 x2_1 w
def pX11_tell_52 (post : Int32 → Wd → Prop) : Nat → Int32 → Int32 → Wd → Prop
  | 0, _, _, _ => False
  | n + 1, x1, x2, w => pX11_width (fun r_1 w_2 => (r_1 ≤ x2 → (post (w_2.1 300 48) w_2)) ∧ (¬ r_1 ≤ x2 → ((¬ ((x1 >>> (x2 &&& 31)) &&& (1 : Int32)) = 0 → (vp_in (w_2.1 300 48) 12 ∧ ∀ w_5, w_5 = sA w_2 348 (w_2.1 300 48).toNatClampNeg x2 → ∀ w_6, w_6 = sI w_5 300 48 ((w_5.1 300 48) + (1 : Int32)) → pX11_tell_91 (pX11_tell_52 post n) post x1 x2 w_6)) ∧ (((x1 >>> (x2 &&& 31)) &&& (1 : Int32)) = 0 → (pX11_tell_91 (pX11_tell_52 post n) post x1 x2 w_2))))) w
def pX11_tell_39 (k4 : Int32 → Int32 → Wd → Prop) (post : Int32 → Wd → Prop) (x1 : Int32) (x2 : Int32) (w : Wd) : Prop := ∀ x2_1, x2_1 = x2 + (1 : Int32) → k4 x1 x2_1 w
def pX11_tell_29 (k4 : Int32 → Int32 → Wd → Prop) (post : Int32 → Wd → Prop) (x1 : Int32) (x2 : Int32) (w : Wd) : Prop := pX11_doTell (fun r_1 w_2 => (r_1 = 0 → (pX11_tell_39 k4 post x1 x2 w_2)) ∧ (¬ r_1 = 0 → (pX11_tell_39 k4 post x2 x2 w_2))) x2 w
def pX11_tell_4 (post : Int32 → Wd → Prop) : Nat → Int32 → Int32 → Wd → Prop
  | 0, _, _, _ => False
  | n + 1, x1, x2, w => pX11_width (fun r_1 w_2 => (((1 : Int32) <<< (r_1 &&& 31)) ≤ x2 → (∀ w_4, w_4 = sI w_2 300 48 (0 : Int32) → ∃ n9, pX11_tell_52 post n9 x1 (0 : Int32) w_4)) ∧ (¬ ((1 : Int32) <<< (r_1 &&& 31)) ≤ x2 → ((x1 < 0 → (pX11_tell_29 (pX11_tell_4 post n) post x1 x2 w_2)) ∧ (¬ x1 < 0 → (pX11_bitsOf (fun r_6 w_7 => pX11_bitsOf (fun r_8 w_9 => (r_8 ≤ r_6 → (pX11_tell_39 (pX11_tell_4 post n) post x1 x2 w_9)) ∧ (¬ r_8 ≤ r_6 → (pX11_tell_29 (pX11_tell_4 post n) post x1 x2 w_9))) x1 w_7) x2 w_2))))) w
def pX11_tell (post : Int32 → Wd → Prop)  (w : Wd) : Prop := ∃ n9, pX11_tell_4 post n9 (-1 : Int32) (0 : Int32) w
set_option maxHeartbeats 4000000 in
set_option maxRecDepth 100000 in
theorem bX11_tell_91 {p : Program} {l : Launch} {e : Env} {s : State} {m : MethodId} {args : Array Value} {below : List Frame} {meth : Method} {c : Code} {Q : State → Prop} {A : Nat → Prop} {g : Gw} {post : Int32 → Wd → Prop}  (hC : Cx p s m args c cX11_tell RX11 3 g) (hR : RtI tabM p l e (rk 3) s m args below meth c Q cX11_tell A g post)  {k52 : Int32 → Int32 → Wd → Prop} (hk52 : ∀ (x1 : Int32) (x2 : Int32) (w : Wd) (H : Heap) (locs : List Loc) (ls : Array Slot), k52 x1 x2 w → St tabM A s.heap g w H locs → lv_has ls 3 [(0, .ref (g.2.2 300)), (1, .int x1), (2, .int x2)] → W p l e (rk 3) s m args below meth c H locs 0 0 Q (F0 m 52 ls [])) : ∀ (x1 : Int32) (x2 : Int32) (w : Wd) (H : Heap) (locs : List Loc) (ls : Array Slot), pX11_tell_91 k52 post x1 x2 w → St tabM A s.heap g w H locs → lv_has ls 3 [(0, .ref (g.2.2 300)), (1, .int x1), (2, .int x2)] → W p l e (rk 3) s m args below meth c H locs 0 0 Q (F0 m 91 ls []) := by
  have hx := hC.1
  have hb := hC.2.1
  intro x1 x2 w H locs ls hp hS hl
  unfold pX11_tell_91 at hp
  obtain ⟨x2_1, ex2_1⟩ : ∃ y : Int32, y = x2 + (1 : Int32) := ⟨_, rfl⟩
  have hp := hp x2_1 ex2_1
  refine lv_iinc (v := x2_1) (lv' := [(2, .int x2_1), (0, .ref (g.2.2 300)), (1, .int x1)]) hx hb dX11_tell_91 hl (k := 2) rfl (by rw [ex2_1]; rfl) (by decide) rfl (fun ls hl => ?_)
  refine lv_goto (tgt := 52) hx hb dX11_tell_94 (by decide) ?_
  exact hk52 x1 x2_1 w _ _ _ hp hS (lv_sub hl [1, 2, 0] rfl)
set_option maxHeartbeats 4000000 in
set_option maxRecDepth 100000 in
theorem bX11_tell_52 {p : Program} {l : Launch} {e : Env} {s : State} {m : MethodId} {args : Array Value} {below : List Frame} {meth : Method} {c : Code} {Q : State → Prop} {A : Nat → Prop} {g : Gw} {post : Int32 → Wd → Prop}  (hC : Cx p s m args c cX11_tell RX11 3 g) (hR : RtI tabM p l e (rk 3) s m args below meth c Q cX11_tell A g post)  : ∀ (n : Nat) (x1 : Int32) (x2 : Int32) (w : Wd) (H : Heap) (locs : List Loc) (ls : Array Slot), pX11_tell_52 post n x1 x2 w → St tabM A s.heap g w H locs → lv_has ls 3 [(0, .ref (g.2.2 300)), (1, .int x1), (2, .int x2)] → W p l e (rk 3) s m args below meth c H locs 0 0 Q (F0 m 52 ls []) := by
  have hx := hC.1
  have hb := hC.2.1
  intro n
  induction n with
  | zero =>
    intro x1 x2 w H locs ls hp hS hl
    exact False.elim hp
  | succ n ih =>
    intro x1 x2 w H locs ls hp hS hl
    unfold pX11_tell_52 at hp
    refine lv_iload_n hx hb dX11_tell_52 rfl (lv_at hl 2 rfl) ?_
    refine lv_aload_n hx hb dX11_tell_53 rfl (lv_at hl 0 rfl) ?_
    refine q_cvI (As := []) (rest := [.int x2]) hC hS hl.1 (rX11_width hp) cwX11_342 yvX11_width (rcv_300 hC hS) rfl rfl (Nat.le_of_ble_eq_true rfl) (rmk (by decide) (by decide)) dX11_tell_54 (fun r_1 w_2 H locs hp hS => ?_)
    refine lv_icmp_ge (tgt := 97) hx hb dX11_tell_57 (by decide) (fun c_3 => ?_) (fun c_3 => ?_)
    · have hp := hp.1 c_3
      refine lv_aload_n hx hb dX11_tell_97 rfl (lv_at hl 0 rfl) ?_
      refine G_300_48 hC hS m312 dX11_tell_98 ?_
      exact hR _ _ _ _ _ _ dX11_tell_101 hp hS
    · have hp := hp.2 c_3
      refine lv_iload_n hx hb dX11_tell_60 rfl (lv_at hl 1 rfl) ?_
      refine lv_iload_n hx hb dX11_tell_61 rfl (lv_at hl 2 rfl) ?_
      refine lv_ishr hx hb dX11_tell_62 ?_
      refine lv_iconst hx hb dX11_tell_63 kI_1 ?_
      refine lv_iand hx hb dX11_tell_64 ?_
      refine lv_if_ne (tgt := 71) hx hb dX11_tell_65 (by decide) (fun c_4 => ?_) (fun c_4 => ?_)
      · have hp := hp.1 c_4
        refine lv_aload_n hx hb dX11_tell_71 rfl (lv_at hl 0 rfl) ?_
        refine G_300_47 hC hS m279 dX11_tell_72 ?_
        refine lv_aload_n hx hb dX11_tell_75 rfl (lv_at hl 0 rfl) ?_
        refine G_300_48 hC hS m312 dX11_tell_76 ?_
        refine lv_iload_n hx hb dX11_tell_79 rfl (lv_at hl 2 rfl) ?_
        refine Sa_348 hC hS hp.1 dX11_tell_80 (fun w_5 H locs ew_5 hS => ?_)
        have hp := hp.2
        have hp := hp w_5 ew_5
        refine lv_aload_n hx hb dX11_tell_81 rfl (lv_at hl 0 rfl) ?_
        refine lv_dup hx hb dX11_tell_82 rfl ?_
        refine G_300_48 hC hS m312 dX11_tell_83 ?_
        refine lv_iconst hx hb dX11_tell_86 kI_1 ?_
        refine lv_iadd hx hb dX11_tell_87 ?_
        refine P_300_48 hC hS m312 dX11_tell_88 (fun w_6 H locs ew_6 hS => ?_)
        have hp := hp w_6 ew_6
        exact bX11_tell_91 hC hR ih x1 x2 w_6 _ _ _ hp hS (lv_sub hl [0, 1, 2] rfl)
      · have hp := hp.2 c_4
        refine lv_goto (tgt := 91) hx hb dX11_tell_68 (by decide) ?_
        exact bX11_tell_91 hC hR ih x1 x2 w_2 _ _ _ hp hS (lv_sub hl [0, 1, 2] rfl)
set_option maxHeartbeats 4000000 in
set_option maxRecDepth 100000 in
theorem bX11_tell_39 {p : Program} {l : Launch} {e : Env} {s : State} {m : MethodId} {args : Array Value} {below : List Frame} {meth : Method} {c : Code} {Q : State → Prop} {A : Nat → Prop} {g : Gw} {post : Int32 → Wd → Prop}  (hC : Cx p s m args c cX11_tell RX11 3 g) (hR : RtI tabM p l e (rk 3) s m args below meth c Q cX11_tell A g post)  {k4 : Int32 → Int32 → Wd → Prop} (hk4 : ∀ (x1 : Int32) (x2 : Int32) (w : Wd) (H : Heap) (locs : List Loc) (ls : Array Slot), k4 x1 x2 w → St tabM A s.heap g w H locs → lv_has ls 3 [(0, .ref (g.2.2 300)), (1, .int x1), (2, .int x2)] → W p l e (rk 3) s m args below meth c H locs 0 0 Q (F0 m 4 ls [])) : ∀ (x1 : Int32) (x2 : Int32) (w : Wd) (H : Heap) (locs : List Loc) (ls : Array Slot), pX11_tell_39 k4 post x1 x2 w → St tabM A s.heap g w H locs → lv_has ls 3 [(0, .ref (g.2.2 300)), (1, .int x1), (2, .int x2)] → W p l e (rk 3) s m args below meth c H locs 0 0 Q (F0 m 39 ls []) := by
  have hx := hC.1
  have hb := hC.2.1
  intro x1 x2 w H locs ls hp hS hl
  unfold pX11_tell_39 at hp
  obtain ⟨x2_1, ex2_1⟩ : ∃ y : Int32, y = x2 + (1 : Int32) := ⟨_, rfl⟩
  have hp := hp x2_1 ex2_1
  refine lv_iinc (v := x2_1) (lv' := [(2, .int x2_1), (0, .ref (g.2.2 300)), (1, .int x1)]) hx hb dX11_tell_39 hl (k := 2) rfl (by rw [ex2_1]; rfl) (by decide) rfl (fun ls hl => ?_)
  refine lv_goto (tgt := 4) hx hb dX11_tell_42 (by decide) ?_
  exact hk4 x1 x2_1 w _ _ _ hp hS (lv_sub hl [1, 2, 0] rfl)
set_option maxHeartbeats 4000000 in
set_option maxRecDepth 100000 in
theorem bX11_tell_29 {p : Program} {l : Launch} {e : Env} {s : State} {m : MethodId} {args : Array Value} {below : List Frame} {meth : Method} {c : Code} {Q : State → Prop} {A : Nat → Prop} {g : Gw} {post : Int32 → Wd → Prop}  (hC : Cx p s m args c cX11_tell RX11 3 g) (hR : RtI tabM p l e (rk 3) s m args below meth c Q cX11_tell A g post)  {k4 : Int32 → Int32 → Wd → Prop} (hk4 : ∀ (x1 : Int32) (x2 : Int32) (w : Wd) (H : Heap) (locs : List Loc) (ls : Array Slot), k4 x1 x2 w → St tabM A s.heap g w H locs → lv_has ls 3 [(0, .ref (g.2.2 300)), (1, .int x1), (2, .int x2)] → W p l e (rk 3) s m args below meth c H locs 0 0 Q (F0 m 4 ls [])) : ∀ (x1 : Int32) (x2 : Int32) (w : Wd) (H : Heap) (locs : List Loc) (ls : Array Slot), pX11_tell_29 k4 post x1 x2 w → St tabM A s.heap g w H locs → lv_has ls 3 [(0, .ref (g.2.2 300)), (1, .int x1), (2, .int x2)] → W p l e (rk 3) s m args below meth c H locs 0 0 Q (F0 m 29 ls []) := by
  have hx := hC.1
  have hb := hC.2.1
  intro x1 x2 w H locs ls hp hS hl
  unfold pX11_tell_29 at hp
  refine lv_aload_n hx hb dX11_tell_29 rfl (lv_at hl 0 rfl) ?_
  refine lv_iload_n hx hb dX11_tell_30 rfl (lv_at hl 2 rfl) ?_
  refine q_cvI (As := [.int x2]) (rest := []) hC hS hl.1 (rX11_doTell hp) cwX11_410 yvX11_doTell (rcv_300 hC hS) rfl rfl (Nat.le_of_ble_eq_true rfl) (rmk (by decide) (by decide)) dX11_tell_31 (fun r_1 w_2 H locs hp hS => ?_)
  refine lv_if_eq (tgt := 39) hx hb dX11_tell_34 (by decide) (fun c_3 => ?_) (fun c_3 => ?_)
  · have hp := hp.1 c_3
    exact bX11_tell_39 hC hR hk4 x1 x2 w_2 _ _ _ hp hS (lv_sub hl [0, 1, 2] rfl)
  · have hp := hp.2 c_3
    refine lv_iload_n hx hb dX11_tell_37 rfl (lv_at hl 2 rfl) ?_
    refine lv_istore_n (lv' := [(1, .int x2), (0, .ref (g.2.2 300)), (2, .int x2)]) hx hb dX11_tell_38 rfl hl (by decide) rfl (fun ls hl => ?_)
    exact bX11_tell_39 hC hR hk4 x2 x2 w_2 _ _ _ hp hS (lv_sub hl [1, 0, 2] rfl)
set_option maxHeartbeats 4000000 in
set_option maxRecDepth 100000 in
theorem bX11_tell_4 {p : Program} {l : Launch} {e : Env} {s : State} {m : MethodId} {args : Array Value} {below : List Frame} {meth : Method} {c : Code} {Q : State → Prop} {A : Nat → Prop} {g : Gw} {post : Int32 → Wd → Prop}  (hC : Cx p s m args c cX11_tell RX11 3 g) (hR : RtI tabM p l e (rk 3) s m args below meth c Q cX11_tell A g post)  : ∀ (n : Nat) (x1 : Int32) (x2 : Int32) (w : Wd) (H : Heap) (locs : List Loc) (ls : Array Slot), pX11_tell_4 post n x1 x2 w → St tabM A s.heap g w H locs → lv_has ls 3 [(0, .ref (g.2.2 300)), (1, .int x1), (2, .int x2)] → W p l e (rk 3) s m args below meth c H locs 0 0 Q (F0 m 4 ls []) := by
  have hx := hC.1
  have hb := hC.2.1
  intro n
  induction n with
  | zero =>
    intro x1 x2 w H locs ls hp hS hl
    exact False.elim hp
  | succ n ih =>
    intro x1 x2 w H locs ls hp hS hl
    unfold pX11_tell_4 at hp
    refine lv_iload_n hx hb dX11_tell_4 rfl (lv_at hl 2 rfl) ?_
    refine lv_iconst hx hb dX11_tell_5 kI_1 ?_
    refine lv_aload_n hx hb dX11_tell_6 rfl (lv_at hl 0 rfl) ?_
    refine q_cvI (As := []) (rest := [.int (1 : Int32), .int x2]) hC hS hl.1 (rX11_width hp) cwX11_342 yvX11_width (rcv_300 hC hS) rfl rfl (Nat.le_of_ble_eq_true rfl) (rmk (by decide) (by decide)) dX11_tell_7 (fun r_1 w_2 H locs hp hS => ?_)
    refine lv_ishl hx hb dX11_tell_10 ?_
    refine lv_icmp_ge (tgt := 45) hx hb dX11_tell_11 (by decide) (fun c_3 => ?_) (fun c_3 => ?_)
    · have hp := hp.1 c_3
      refine lv_aload_n hx hb dX11_tell_45 rfl (lv_at hl 0 rfl) ?_
      refine lv_iconst hx hb dX11_tell_46 kI_0 ?_
      refine P_300_48 hC hS m312 dX11_tell_47 (fun w_4 H locs ew_4 hS => ?_)
      have hp := hp w_4 ew_4
      refine lv_iconst hx hb dX11_tell_50 kI_0 ?_
      refine lv_istore_n (lv' := [(2, .int (0 : Int32)), (0, .ref (g.2.2 300)), (1, .int x1)]) hx hb dX11_tell_51 rfl hl (by decide) rfl (fun ls hl => ?_)
      obtain ⟨n9, hp⟩ := hp
      exact bX11_tell_52 hC hR n9 x1 (0 : Int32) w_4 _ _ _ hp hS (lv_sub hl [1, 2, 0] rfl)
    · have hp := hp.2 c_3
      refine lv_iload_n hx hb dX11_tell_14 rfl (lv_at hl 1 rfl) ?_
      refine lv_if_lt (tgt := 29) hx hb dX11_tell_15 (by decide) (fun c_5 => ?_) (fun c_5 => ?_)
      · have hp := hp.1 c_5
        exact bX11_tell_29 hC hR ih x1 x2 w_2 _ _ _ hp hS (lv_sub hl [0, 1, 2] rfl)
      · have hp := hp.2 c_5
        refine lv_iload_n hx hb dX11_tell_18 rfl (lv_at hl 2 rfl) ?_
        refine q_csI (As := [.int x2]) (rest := []) hC hS hl.1 (rX11_bitsOf hp) cwX11_352 ysX11_bitsOf rfl rfl (Nat.le_of_ble_eq_true rfl) (rmk (by decide) (by decide)) dX11_tell_19 (fun r_6 w_7 H locs hp hS => ?_)
        refine lv_iload_n hx hb dX11_tell_22 rfl (lv_at hl 1 rfl) ?_
        refine q_csI (As := [.int x1]) (rest := [.int r_6]) hC hS hl.1 (rX11_bitsOf hp) cwX11_352 ysX11_bitsOf rfl rfl (Nat.le_of_ble_eq_true rfl) (rmk (by decide) (by decide)) dX11_tell_23 (fun r_8 w_9 H locs hp hS => ?_)
        refine lv_icmp_ge (tgt := 39) hx hb dX11_tell_26 (by decide) (fun c_10 => ?_) (fun c_10 => ?_)
        · have hp := hp.1 c_10
          exact bX11_tell_39 hC hR ih x1 x2 w_9 _ _ _ hp hS (lv_sub hl [0, 1, 2] rfl)
        · have hp := hp.2 c_10
          exact bX11_tell_29 hC hR ih x1 x2 w_9 _ _ _ hp hS (lv_sub hl [0, 1, 2] rfl)
set_option maxHeartbeats 4000000 in
set_option maxRecDepth 100000 in
theorem rX11_tell {l : Launch} {g : Gw} {w : Wd} {post : Int32 → Wd → Prop}    (hp : pX11_tell post  w) : MtI tabM l yX11_tell cX11_tell 3 (some .int) 3 g w [.ref (g.2.2 300)] post := by
  refine q_entI tabM_nd (by decide) rfl (Nat.le_of_ble_eq_true rfl) ?_
  intro p e s m args below meth c A Q ls hC hR hS hl
  have hx := hC.1
  have hb := hC.2.1
  have hl : lv_has ls 3 [(0, .ref (g.2.2 300))] := hl
  unfold pX11_tell at hp
  refine lv_iconst hx hb dX11_tell_0 kI_m1 ?_
  refine lv_istore_n (lv' := [(1, .int (-1 : Int32)), (0, .ref (g.2.2 300))]) hx hb dX11_tell_1 rfl hl (by decide) rfl (fun ls hl => ?_)
  refine lv_iconst hx hb dX11_tell_2 kI_0 ?_
  refine lv_istore_n (lv' := [(2, .int (0 : Int32)), (1, .int (-1 : Int32)), (0, .ref (g.2.2 300))]) hx hb dX11_tell_3 rfl hl (by decide) rfl (fun ls hl => ?_)
  obtain ⟨n9, hp⟩ := hp
  exact bX11_tell_4 hC hR n9 (-1 : Int32) (0 : Int32) w _ _ _ hp hS (lv_sub hl [2, 1, 0] rfl)
def pX11_round_57 (post : Int32 → Wd → Prop) : Nat → Int32 → Int32 → Int32 → Int32 → Int32 → Wd → Prop
  | 0, _, _, _, _, _, _ => False
  | n + 1, x2, x3, x4, x5, x6, w => vp_in x5 4096 ∧ (0 ≤ (w.2.1 350 x5.toNatClampNeg) → ((¬ x4 = 0 → (vp_in x5 4096 ∧ post (x6 - (w.2.1 350 x5.toNatClampNeg)) w)) ∧ (x4 = 0 → (post x6 w)))) ∧ (¬ 0 ≤ (w.2.1 350 x5.toNatClampNeg) → (vp_in x5 4096 ∧ ∀ w_3, w_3 = sA w 350 x5.toNatClampNeg x6 → ∀ x6_4, x6_4 = x6 + (1 : Int32) → pX11_castOf (fun r_5 w_6 => pX11_round_57 post n x2 x3 x4 r_5 x6_4 w_6) x5 x2 x3 (0 : Int32) w_3))
def pX11_round_25 (post : Int32 → Wd → Prop) : Nat → Int32 → Int32 → Int32 → Int32 → Int32 → Wd → Prop
  | 0, _, _, _, _, _, _ => False
  | n + 1, x1, x2, x3, x4, x5, w => ((4096 : Int32) ≤ x5 → (pX11_rowOf (fun r_2 w_3 => ∃ n9, pX11_round_57 post n9 x2 x3 x4 r_2 (0 : Int32) w_3) x1 w)) ∧ (¬ (4096 : Int32) ≤ x5 → (vp_in x5 4096 ∧ ∀ w_4, w_4 = sA w 350 x5.toNatClampNeg (-1 : Int32) → ∀ x5_5, x5_5 = x5 + (1 : Int32) → pX11_round_25 post n x1 x2 x3 x4 x5_5 w_4))
def pX11_round (post : Int32 → Wd → Prop) (x1 : Int32) (x2 : Int32) (x3 : Int32) (x4 : Int32) (w : Wd) : Prop := pX11_canCast (fun r_1 w_2 => (r_1 = 0 → (post (-1 : Int32) w_2)) ∧ (¬ r_1 = 0 → (pX11_isIn (fun r_4 w_5 => (¬ r_4 = 0 → (∃ n9, pX11_round_25 post n9 x1 x2 x3 x4 (0 : Int32) w_5)) ∧ (r_4 = 0 → (post (-1 : Int32) w_5))) x4 (0 : Int32) (1 : Int32) w_2))) x1 x2 x3 w
set_option maxHeartbeats 4000000 in
set_option maxRecDepth 100000 in
theorem bX11_round_57 {p : Program} {l : Launch} {e : Env} {s : State} {m : MethodId} {args : Array Value} {below : List Frame} {meth : Method} {c : Code} {Q : State → Prop} {A : Nat → Prop} {g : Gw} {post : Int32 → Wd → Prop}  (hC : Cx p s m args c cX11_round RX11 7 g) (hR : RtI tabM p l e (rk 4) s m args below meth c Q cX11_round A g post)  : ∀ (n : Nat) (x2 : Int32) (x3 : Int32) (x4 : Int32) (x5 : Int32) (x6 : Int32) (w : Wd) (H : Heap) (locs : List Loc) (ls : Array Slot), pX11_round_57 post n x2 x3 x4 x5 x6 w → St tabM A s.heap g w H locs → lv_has ls 7 [(0, .ref (g.2.2 300)), (2, .int x2), (3, .int x3), (4, .int x4), (5, .int x5), (6, .int x6)] → W p l e (rk 4) s m args below meth c H locs 0 0 Q (F0 m 57 ls []) := by
  have hx := hC.1
  have hb := hC.2.1
  intro n
  induction n with
  | zero =>
    intro x2 x3 x4 x5 x6 w H locs ls hp hS hl
    exact False.elim hp
  | succ n ih =>
    intro x2 x3 x4 x5 x6 w H locs ls hp hS hl
    unfold pX11_round_57 at hp
    refine lv_aload_n hx hb dX11_round_57 rfl (lv_at hl 0 rfl) ?_
    refine G_300_49 hC hS m280 dX11_round_58 ?_
    refine lv_iload hx hb dX11_round_61 (lv_at hl 4 rfl) ?_
    refine La_350 hC hS hp.1 dX11_round_63 ?_
    have hp := hp.2
    refine lv_if_ge (tgt := 93) hx hb dX11_round_64 (by decide) (fun c_1 => ?_) (fun c_1 => ?_)
    · have hp := hp.1 c_1
      refine lv_iload hx hb dX11_round_93 (lv_at hl 3 rfl) ?_
      refine lv_if_ne (tgt := 103) hx hb dX11_round_95 (by decide) (fun c_2 => ?_) (fun c_2 => ?_)
      · have hp := hp.1 c_2
        refine lv_iload hx hb dX11_round_103 (lv_at hl 5 rfl) ?_
        refine lv_aload_n hx hb dX11_round_105 rfl (lv_at hl 0 rfl) ?_
        refine G_300_49 hC hS m280 dX11_round_106 ?_
        refine lv_iload hx hb dX11_round_109 (lv_at hl 4 rfl) ?_
        refine La_350 hC hS hp.1 dX11_round_111 ?_
        have hp := hp.2
        refine lv_isub hx hb dX11_round_112 ?_
        exact hR _ _ _ _ _ _ dX11_round_113 hp hS
      · have hp := hp.2 c_2
        refine lv_iload hx hb dX11_round_98 (lv_at hl 5 rfl) ?_
        refine lv_goto (tgt := 113) hx hb dX11_round_100 (by decide) ?_
        exact hR _ _ _ _ _ _ dX11_round_113 hp hS
    · have hp := hp.2 c_1
      refine lv_aload_n hx hb dX11_round_67 rfl (lv_at hl 0 rfl) ?_
      refine G_300_49 hC hS m280 dX11_round_68 ?_
      refine lv_iload hx hb dX11_round_71 (lv_at hl 4 rfl) ?_
      refine lv_iload hx hb dX11_round_73 (lv_at hl 5 rfl) ?_
      refine Sa_350 hC hS hp.1 dX11_round_75 (fun w_3 H locs ew_3 hS => ?_)
      have hp := hp.2
      have hp := hp w_3 ew_3
      obtain ⟨x6_4, ex6_4⟩ : ∃ y : Int32, y = x6 + (1 : Int32) := ⟨_, rfl⟩
      have hp := hp x6_4 ex6_4
      refine lv_iinc (v := x6_4) (lv' := [(6, .int x6_4), (0, .ref (g.2.2 300)), (2, .int x2), (3, .int x3), (4, .int x4), (5, .int x5)]) hx hb dX11_round_76 hl (k := 5) rfl (by rw [ex6_4]; rfl) (by decide) rfl (fun ls hl => ?_)
      refine lv_aload_n hx hb dX11_round_79 rfl (lv_at hl 1 rfl) ?_
      refine lv_iload hx hb dX11_round_80 (lv_at hl 5 rfl) ?_
      refine lv_iload_n hx hb dX11_round_82 rfl (lv_at hl 2 rfl) ?_
      refine lv_iload_n hx hb dX11_round_83 rfl (lv_at hl 3 rfl) ?_
      refine lv_iconst hx hb dX11_round_84 kI_0 ?_
      refine q_cvI (As := [.int x5, .int x2, .int x3, .int (0 : Int32)]) (rest := []) hC hS hl.1 (rX11_castOf hp) cwX11_367 yvX11_castOf (rcv_300 hC hS) rfl rfl (Nat.le_of_ble_eq_true rfl) (rmk (by decide) (by decide)) dX11_round_85 (fun r_5 w_6 H locs hp hS => ?_)
      refine lv_istore (lv' := [(5, .int r_5), (6, .int x6_4), (0, .ref (g.2.2 300)), (2, .int x2), (3, .int x3), (4, .int x4)]) hx hb dX11_round_88 hl (by decide) rfl (fun ls hl => ?_)
      refine lv_goto (tgt := 57) hx hb dX11_round_90 (by decide) ?_
      exact ih x2 x3 x4 r_5 x6_4 w_6 _ _ _ hp hS (lv_sub hl [2, 3, 4, 5, 0, 1] rfl)
set_option maxHeartbeats 4000000 in
set_option maxRecDepth 100000 in
theorem bX11_round_25 {p : Program} {l : Launch} {e : Env} {s : State} {m : MethodId} {args : Array Value} {below : List Frame} {meth : Method} {c : Code} {Q : State → Prop} {A : Nat → Prop} {g : Gw} {post : Int32 → Wd → Prop}  (hC : Cx p s m args c cX11_round RX11 7 g) (hR : RtI tabM p l e (rk 4) s m args below meth c Q cX11_round A g post)  : ∀ (n : Nat) (x1 : Int32) (x2 : Int32) (x3 : Int32) (x4 : Int32) (x5 : Int32) (w : Wd) (H : Heap) (locs : List Loc) (ls : Array Slot), pX11_round_25 post n x1 x2 x3 x4 x5 w → St tabM A s.heap g w H locs → lv_has ls 7 [(0, .ref (g.2.2 300)), (1, .int x1), (2, .int x2), (3, .int x3), (4, .int x4), (5, .int x5)] → W p l e (rk 4) s m args below meth c H locs 0 0 Q (F0 m 25 ls []) := by
  have hx := hC.1
  have hb := hC.2.1
  intro n
  induction n with
  | zero =>
    intro x1 x2 x3 x4 x5 w H locs ls hp hS hl
    exact False.elim hp
  | succ n ih =>
    intro x1 x2 x3 x4 x5 w H locs ls hp hS hl
    unfold pX11_round_25 at hp
    refine lv_iload hx hb dX11_round_25 (lv_at hl 5 rfl) ?_
    refine lv_sipush hx hb dX11_round_27 kS_4096 ?_
    refine lv_icmp_ge (tgt := 47) hx hb dX11_round_30 (by decide) (fun c_1 => ?_) (fun c_1 => ?_)
    · have hp := hp.1 c_1
      refine lv_aload_n hx hb dX11_round_47 rfl (lv_at hl 0 rfl) ?_
      refine lv_iload_n hx hb dX11_round_48 rfl (lv_at hl 1 rfl) ?_
      refine q_cvI (As := [.int x1]) (rest := []) hC hS hl.1 (rX11_rowOf hp) cwX11_392 yvX11_rowOf (rcv_300 hC hS) rfl rfl (Nat.le_of_ble_eq_true rfl) (rmk (by decide) (by decide)) dX11_round_49 (fun r_2 w_3 H locs hp hS => ?_)
      refine lv_istore (lv' := [(5, .int r_2), (0, .ref (g.2.2 300)), (1, .int x1), (2, .int x2), (3, .int x3), (4, .int x4)]) hx hb dX11_round_52 hl (by decide) rfl (fun ls hl => ?_)
      refine lv_iconst hx hb dX11_round_54 kI_0 ?_
      refine lv_istore (lv' := [(6, .int (0 : Int32)), (5, .int r_2), (0, .ref (g.2.2 300)), (1, .int x1), (2, .int x2), (3, .int x3), (4, .int x4)]) hx hb dX11_round_55 hl (by decide) rfl (fun ls hl => ?_)
      obtain ⟨n9, hp⟩ := hp
      exact bX11_round_57 hC hR n9 x2 x3 x4 r_2 (0 : Int32) w_3 _ _ _ hp hS (lv_sub hl [2, 4, 5, 6, 1, 0] rfl)
    · have hp := hp.2 c_1
      refine lv_aload_n hx hb dX11_round_33 rfl (lv_at hl 0 rfl) ?_
      refine G_300_49 hC hS m280 dX11_round_34 ?_
      refine lv_iload hx hb dX11_round_37 (lv_at hl 5 rfl) ?_
      refine lv_iconst hx hb dX11_round_39 kI_m1 ?_
      refine Sa_350 hC hS hp.1 dX11_round_40 (fun w_4 H locs ew_4 hS => ?_)
      have hp := hp.2
      have hp := hp w_4 ew_4
      obtain ⟨x5_5, ex5_5⟩ : ∃ y : Int32, y = x5 + (1 : Int32) := ⟨_, rfl⟩
      have hp := hp x5_5 ex5_5
      refine lv_iinc (v := x5_5) (lv' := [(5, .int x5_5), (0, .ref (g.2.2 300)), (1, .int x1), (2, .int x2), (3, .int x3), (4, .int x4)]) hx hb dX11_round_41 hl (k := 5) rfl (by rw [ex5_5]; rfl) (by decide) rfl (fun ls hl => ?_)
      refine lv_goto (tgt := 25) hx hb dX11_round_44 (by decide) ?_
      exact ih x1 x2 x3 x4 x5_5 w_4 _ _ _ hp hS (lv_sub hl [1, 2, 3, 4, 5, 0] rfl)
set_option maxHeartbeats 4000000 in
set_option maxRecDepth 100000 in
theorem rX11_round {l : Launch} {g : Gw} {w : Wd} {post : Int32 → Wd → Prop}   {x1 : Int32} {x2 : Int32} {x3 : Int32} {x4 : Int32} (hp : pX11_round post x1 x2 x3 x4 w) : MtI tabM l yX11_round cX11_round 7 (some .int) 4 g w [.ref (g.2.2 300), .int x1, .int x2, .int x3, .int x4] post := by
  refine q_entI tabM_nd (by decide) rfl (Nat.le_of_ble_eq_true rfl) ?_
  intro p e s m args below meth c A Q ls hC hR hS hl
  have hx := hC.1
  have hb := hC.2.1
  have hl : lv_has ls 7 [(0, .ref (g.2.2 300)), (1, .int x1), (2, .int x2), (3, .int x3), (4, .int x4)] := hl
  unfold pX11_round at hp
  refine lv_aload_n hx hb dX11_round_0 rfl (lv_at hl 0 rfl) ?_
  refine lv_iload_n hx hb dX11_round_1 rfl (lv_at hl 1 rfl) ?_
  refine lv_iload_n hx hb dX11_round_2 rfl (lv_at hl 2 rfl) ?_
  refine lv_iload_n hx hb dX11_round_3 rfl (lv_at hl 3 rfl) ?_
  refine q_cvI (As := [.int x1, .int x2, .int x3]) (rest := []) hC hS hl.1 (rX11_canCast hp) cwX11_398 yvX11_canCast (rcv_300 hC hS) rfl rfl (Nat.le_of_ble_eq_true rfl) (rmk (by decide) (by decide)) dX11_round_4 (fun r_1 w_2 H locs hp hS => ?_)
  refine lv_if_eq (tgt := 20) hx hb dX11_round_7 (by decide) (fun c_3 => ?_) (fun c_3 => ?_)
  · have hp := hp.1 c_3
    refine lv_iconst hx hb dX11_round_20 kI_m1 ?_
    exact hR _ _ _ _ _ _ dX11_round_21 hp hS
  · have hp := hp.2 c_3
    refine lv_iload hx hb dX11_round_10 (lv_at hl 4 rfl) ?_
    refine lv_iconst hx hb dX11_round_12 kI_0 ?_
    refine lv_iconst hx hb dX11_round_13 kI_1 ?_
    refine q_csI (As := [.int x4, .int (0 : Int32), .int (1 : Int32)]) (rest := []) hC hS hl.1 (rX11_isIn hp) cwX11_345 ysX11_isIn rfl rfl (Nat.le_of_ble_eq_true rfl) (rmk (by decide) (by decide)) dX11_round_14 (fun r_4 w_5 H locs hp hS => ?_)
    refine lv_if_ne (tgt := 22) hx hb dX11_round_17 (by decide) (fun c_6 => ?_) (fun c_6 => ?_)
    · have hp := hp.1 c_6
      refine lv_iconst hx hb dX11_round_22 kI_0 ?_
      refine lv_istore (lv' := [(5, .int (0 : Int32)), (0, .ref (g.2.2 300)), (1, .int x1), (2, .int x2), (3, .int x3), (4, .int x4)]) hx hb dX11_round_23 hl (by decide) rfl (fun ls hl => ?_)
      obtain ⟨n9, hp⟩ := hp
      exact bX11_round_25 hC hR n9 x1 x2 x3 x4 (0 : Int32) w_5 _ _ _ hp hS (lv_sub hl [1, 2, 3, 4, 5, 0] rfl)
    · have hp := hp.2 c_6
      refine lv_iconst hx hb dX11_round_20 kI_m1 ?_
      exact hR _ _ _ _ _ _ dX11_round_21 hp hS
def pX11_steady_95 (k35 : Int32 → Int32 → Int32 → Int32 → Int32 → Int32 → Wd → Prop) (post : Int32 → Wd → Prop) (x1 : Int32) (x2 : Int32) (x3 : Int32) (x4 : Int32) (x5 : Int32) (x6 : Int32) (w : Wd) : Prop := ∀ x6_1, x6_1 = x6 + (1 : Int32) → k35 x1 x2 x3 x4 x5 x6_1 w
def pX11_steady_91 (k35 : Int32 → Int32 → Int32 → Int32 → Int32 → Int32 → Wd → Prop) (post : Int32 → Wd → Prop) (x1 : Int32) (x2 : Int32) (x3 : Int32) (x4 : Int32) (x6 : Int32) (w : Wd) : Prop := pX11_steady_95 k35 post x1 x2 x3 x4 x6 x6 w
def pX11_steady_35 (post : Int32 → Wd → Prop) : Nat → Int32 → Int32 → Int32 → Int32 → Int32 → Int32 → Wd → Prop
  | 0, _, _, _, _, _, _, _ => False
  | n + 1, x1, x2, x3, x4, x5, x6, w => pX11_width (fun r_1 w_2 => (((1 : Int32) <<< (r_1 &&& 31)) ≤ x6 → ((¬ x3 = 0 → (post x5 w_2)) ∧ (x3 = 0 → (post x4 w_2)))) ∧ (¬ ((1 : Int32) <<< (r_1 &&& 31)) ≤ x6 → (pX11_castOf (fun r_5 w_6 => pX11_castOf (fun r_7 w_8 => (r_7 = x6 → (∀ x4_10, x4_10 = x4 + (1 : Int32) → (x5 < 0 → (pX11_steady_91 (pX11_steady_35 post n) post x1 x2 x3 x4_10 x6 w_8)) ∧ (¬ x5 < 0 → (pX11_bitsOf (fun r_12 w_13 => pX11_bitsOf (fun r_14 w_15 => (r_12 ≤ r_14 → (pX11_steady_95 (pX11_steady_35 post n) post x1 x2 x3 x4_10 x5 x6 w_15)) ∧ (¬ r_12 ≤ r_14 → (pX11_steady_91 (pX11_steady_35 post n) post x1 x2 x3 x4_10 x6 w_15))) x5 w_13) x6 w_8)))) ∧ (¬ r_7 = x6 → (pX11_steady_95 (pX11_steady_35 post n) post x1 x2 x3 x4 x5 x6 w_8))) r_5 x1 x2 (0 : Int32) w_6) x6 x1 x2 (0 : Int32) w_2))) w
def pX11_steady (post : Int32 → Wd → Prop) (x1 : Int32) (x2 : Int32) (x3 : Int32) (w : Wd) : Prop := pX11_isHand (fun r_1 w_2 => (r_1 = 0 → (post (-1 : Int32) w_2)) ∧ (¬ r_1 = 0 → (pX11_isHeat (fun r_4 w_5 => (r_4 = 0 → (post (-1 : Int32) w_5)) ∧ (¬ r_4 = 0 → (pX11_isIn (fun r_7 w_8 => (¬ r_7 = 0 → (∃ n9, pX11_steady_35 post n9 x1 x2 x3 (0 : Int32) (-1 : Int32) (0 : Int32) w_8)) ∧ (r_7 = 0 → (post (-1 : Int32) w_8))) x3 (0 : Int32) (1 : Int32) w_5))) x2 w_2))) x1 w
set_option maxHeartbeats 4000000 in
set_option maxRecDepth 100000 in
theorem bX11_steady_95 {p : Program} {l : Launch} {e : Env} {s : State} {m : MethodId} {args : Array Value} {below : List Frame} {meth : Method} {c : Code} {Q : State → Prop} {A : Nat → Prop} {g : Gw} {post : Int32 → Wd → Prop}  (hC : Cx p s m args c cX11_steady RX11 7 g) (hR : RtI tabM p l e (rk 4) s m args below meth c Q cX11_steady A g post)  {k35 : Int32 → Int32 → Int32 → Int32 → Int32 → Int32 → Wd → Prop} (hk35 : ∀ (x1 : Int32) (x2 : Int32) (x3 : Int32) (x4 : Int32) (x5 : Int32) (x6 : Int32) (w : Wd) (H : Heap) (locs : List Loc) (ls : Array Slot), k35 x1 x2 x3 x4 x5 x6 w → St tabM A s.heap g w H locs → lv_has ls 7 [(0, .ref (g.2.2 300)), (1, .int x1), (2, .int x2), (3, .int x3), (4, .int x4), (5, .int x5), (6, .int x6)] → W p l e (rk 4) s m args below meth c H locs 0 0 Q (F0 m 35 ls [])) : ∀ (x1 : Int32) (x2 : Int32) (x3 : Int32) (x4 : Int32) (x5 : Int32) (x6 : Int32) (w : Wd) (H : Heap) (locs : List Loc) (ls : Array Slot), pX11_steady_95 k35 post x1 x2 x3 x4 x5 x6 w → St tabM A s.heap g w H locs → lv_has ls 7 [(0, .ref (g.2.2 300)), (1, .int x1), (2, .int x2), (3, .int x3), (4, .int x4), (5, .int x5), (6, .int x6)] → W p l e (rk 4) s m args below meth c H locs 0 0 Q (F0 m 95 ls []) := by
  have hx := hC.1
  have hb := hC.2.1
  intro x1 x2 x3 x4 x5 x6 w H locs ls hp hS hl
  unfold pX11_steady_95 at hp
  obtain ⟨x6_1, ex6_1⟩ : ∃ y : Int32, y = x6 + (1 : Int32) := ⟨_, rfl⟩
  have hp := hp x6_1 ex6_1
  refine lv_iinc (v := x6_1) (lv' := [(6, .int x6_1), (0, .ref (g.2.2 300)), (1, .int x1), (2, .int x2), (3, .int x3), (4, .int x4), (5, .int x5)]) hx hb dX11_steady_95 hl (k := 6) rfl (by rw [ex6_1]; rfl) (by decide) rfl (fun ls hl => ?_)
  refine lv_goto (tgt := 35) hx hb dX11_steady_98 (by decide) ?_
  exact hk35 x1 x2 x3 x4 x5 x6_1 w _ _ _ hp hS (lv_sub hl [1, 2, 3, 4, 5, 6, 0] rfl)
set_option maxHeartbeats 4000000 in
set_option maxRecDepth 100000 in
theorem bX11_steady_91 {p : Program} {l : Launch} {e : Env} {s : State} {m : MethodId} {args : Array Value} {below : List Frame} {meth : Method} {c : Code} {Q : State → Prop} {A : Nat → Prop} {g : Gw} {post : Int32 → Wd → Prop}  (hC : Cx p s m args c cX11_steady RX11 7 g) (hR : RtI tabM p l e (rk 4) s m args below meth c Q cX11_steady A g post)  {k35 : Int32 → Int32 → Int32 → Int32 → Int32 → Int32 → Wd → Prop} (hk35 : ∀ (x1 : Int32) (x2 : Int32) (x3 : Int32) (x4 : Int32) (x5 : Int32) (x6 : Int32) (w : Wd) (H : Heap) (locs : List Loc) (ls : Array Slot), k35 x1 x2 x3 x4 x5 x6 w → St tabM A s.heap g w H locs → lv_has ls 7 [(0, .ref (g.2.2 300)), (1, .int x1), (2, .int x2), (3, .int x3), (4, .int x4), (5, .int x5), (6, .int x6)] → W p l e (rk 4) s m args below meth c H locs 0 0 Q (F0 m 35 ls [])) : ∀ (x1 : Int32) (x2 : Int32) (x3 : Int32) (x4 : Int32) (x6 : Int32) (w : Wd) (H : Heap) (locs : List Loc) (ls : Array Slot), pX11_steady_91 k35 post x1 x2 x3 x4 x6 w → St tabM A s.heap g w H locs → lv_has ls 7 [(0, .ref (g.2.2 300)), (1, .int x1), (2, .int x2), (3, .int x3), (4, .int x4), (6, .int x6)] → W p l e (rk 4) s m args below meth c H locs 0 0 Q (F0 m 91 ls []) := by
  have hx := hC.1
  have hb := hC.2.1
  intro x1 x2 x3 x4 x6 w H locs ls hp hS hl
  unfold pX11_steady_91 at hp
  refine lv_iload hx hb dX11_steady_91 (lv_at hl 5 rfl) ?_
  refine lv_istore (lv' := [(5, .int x6), (0, .ref (g.2.2 300)), (1, .int x1), (2, .int x2), (3, .int x3), (4, .int x4), (6, .int x6)]) hx hb dX11_steady_93 hl (by decide) rfl (fun ls hl => ?_)
  exact bX11_steady_95 hC hR hk35 x1 x2 x3 x4 x6 x6 w _ _ _ hp hS (lv_sub hl [1, 2, 3, 4, 5, 0, 6] rfl)
set_option maxHeartbeats 4000000 in
set_option maxRecDepth 100000 in
theorem bX11_steady_35 {p : Program} {l : Launch} {e : Env} {s : State} {m : MethodId} {args : Array Value} {below : List Frame} {meth : Method} {c : Code} {Q : State → Prop} {A : Nat → Prop} {g : Gw} {post : Int32 → Wd → Prop}  (hC : Cx p s m args c cX11_steady RX11 7 g) (hR : RtI tabM p l e (rk 4) s m args below meth c Q cX11_steady A g post)  : ∀ (n : Nat) (x1 : Int32) (x2 : Int32) (x3 : Int32) (x4 : Int32) (x5 : Int32) (x6 : Int32) (w : Wd) (H : Heap) (locs : List Loc) (ls : Array Slot), pX11_steady_35 post n x1 x2 x3 x4 x5 x6 w → St tabM A s.heap g w H locs → lv_has ls 7 [(0, .ref (g.2.2 300)), (1, .int x1), (2, .int x2), (3, .int x3), (4, .int x4), (5, .int x5), (6, .int x6)] → W p l e (rk 4) s m args below meth c H locs 0 0 Q (F0 m 35 ls []) := by
  have hx := hC.1
  have hb := hC.2.1
  intro n
  induction n with
  | zero =>
    intro x1 x2 x3 x4 x5 x6 w H locs ls hp hS hl
    exact False.elim hp
  | succ n ih =>
    intro x1 x2 x3 x4 x5 x6 w H locs ls hp hS hl
    unfold pX11_steady_35 at hp
    refine lv_iload hx hb dX11_steady_35 (lv_at hl 6 rfl) ?_
    refine lv_iconst hx hb dX11_steady_37 kI_1 ?_
    refine lv_aload_n hx hb dX11_steady_38 rfl (lv_at hl 0 rfl) ?_
    refine q_cvI (As := []) (rest := [.int (1 : Int32), .int x6]) hC hS hl.1 (rX11_width hp) cwX11_342 yvX11_width (rcv_300 hC hS) rfl rfl (Nat.le_of_ble_eq_true rfl) (rmk (by decide) (by decide)) dX11_steady_39 (fun r_1 w_2 H locs hp hS => ?_)
    refine lv_ishl hx hb dX11_steady_42 ?_
    refine lv_icmp_ge (tgt := 101) hx hb dX11_steady_43 (by decide) (fun c_3 => ?_) (fun c_3 => ?_)
    · have hp := hp.1 c_3
      refine lv_iload_n hx hb dX11_steady_101 rfl (lv_at hl 3 rfl) ?_
      refine lv_if_ne (tgt := 110) hx hb dX11_steady_102 (by decide) (fun c_4 => ?_) (fun c_4 => ?_)
      · have hp := hp.1 c_4
        refine lv_iload hx hb dX11_steady_110 (lv_at hl 5 rfl) ?_
        exact hR _ _ _ _ _ _ dX11_steady_112 hp hS
      · have hp := hp.2 c_4
        refine lv_iload hx hb dX11_steady_105 (lv_at hl 4 rfl) ?_
        refine lv_goto (tgt := 112) hx hb dX11_steady_107 (by decide) ?_
        exact hR _ _ _ _ _ _ dX11_steady_112 hp hS
    · have hp := hp.2 c_3
      refine lv_aload_n hx hb dX11_steady_46 rfl (lv_at hl 0 rfl) ?_
      refine lv_aload_n hx hb dX11_steady_47 rfl (lv_at hl 0 rfl) ?_
      refine lv_iload hx hb dX11_steady_48 (lv_at hl 6 rfl) ?_
      refine lv_iload_n hx hb dX11_steady_50 rfl (lv_at hl 1 rfl) ?_
      refine lv_iload_n hx hb dX11_steady_51 rfl (lv_at hl 2 rfl) ?_
      refine lv_iconst hx hb dX11_steady_52 kI_0 ?_
      refine q_cvI (As := [.int x6, .int x1, .int x2, .int (0 : Int32)]) (rest := [.ref (g.2.2 300)]) hC hS hl.1 (rX11_castOf hp) cwX11_367 yvX11_castOf (rcv_300 hC hS) rfl rfl (Nat.le_of_ble_eq_true rfl) (rmk (by decide) (by decide)) dX11_steady_53 (fun r_5 w_6 H locs hp hS => ?_)
      refine lv_iload_n hx hb dX11_steady_56 rfl (lv_at hl 1 rfl) ?_
      refine lv_iload_n hx hb dX11_steady_57 rfl (lv_at hl 2 rfl) ?_
      refine lv_iconst hx hb dX11_steady_58 kI_0 ?_
      refine q_cvI (As := [.int r_5, .int x1, .int x2, .int (0 : Int32)]) (rest := []) hC hS hl.1 (rX11_castOf hp) cwX11_367 yvX11_castOf (rcv_300 hC hS) rfl rfl (Nat.le_of_ble_eq_true rfl) (rmk (by decide) (by decide)) dX11_steady_59 (fun r_7 w_8 H locs hp hS => ?_)
      refine lv_iload hx hb dX11_steady_62 (lv_at hl 6 rfl) ?_
      refine lv_icmp_eq (tgt := 70) hx hb dX11_steady_64 (by decide) (fun c_9 => ?_) (fun c_9 => ?_)
      · have hp := hp.1 c_9
        obtain ⟨x4_10, ex4_10⟩ : ∃ y : Int32, y = x4 + (1 : Int32) := ⟨_, rfl⟩
        have hp := hp x4_10 ex4_10
        refine lv_iinc (v := x4_10) (lv' := [(4, .int x4_10), (0, .ref (g.2.2 300)), (1, .int x1), (2, .int x2), (3, .int x3), (5, .int x5), (6, .int x6)]) hx hb dX11_steady_70 hl (k := 4) rfl (by rw [ex4_10]; rfl) (by decide) rfl (fun ls hl => ?_)
        refine lv_iload hx hb dX11_steady_73 (lv_at hl 5 rfl) ?_
        refine lv_if_lt (tgt := 91) hx hb dX11_steady_75 (by decide) (fun c_11 => ?_) (fun c_11 => ?_)
        · have hp := hp.1 c_11
          exact bX11_steady_91 hC hR ih x1 x2 x3 x4_10 x6 w_8 _ _ _ hp hS (lv_sub hl [1, 2, 3, 4, 0, 6] rfl)
        · have hp := hp.2 c_11
          refine lv_iload hx hb dX11_steady_78 (lv_at hl 6 rfl) ?_
          refine q_csI (As := [.int x6]) (rest := []) hC hS hl.1 (rX11_bitsOf hp) cwX11_352 ysX11_bitsOf rfl rfl (Nat.le_of_ble_eq_true rfl) (rmk (by decide) (by decide)) dX11_steady_80 (fun r_12 w_13 H locs hp hS => ?_)
          refine lv_iload hx hb dX11_steady_83 (lv_at hl 5 rfl) ?_
          refine q_csI (As := [.int x5]) (rest := [.int r_12]) hC hS hl.1 (rX11_bitsOf hp) cwX11_352 ysX11_bitsOf rfl rfl (Nat.le_of_ble_eq_true rfl) (rmk (by decide) (by decide)) dX11_steady_85 (fun r_14 w_15 H locs hp hS => ?_)
          refine lv_icmp_le (tgt := 95) hx hb dX11_steady_88 (by decide) (fun c_16 => ?_) (fun c_16 => ?_)
          · have hp := hp.1 c_16
            exact bX11_steady_95 hC hR ih x1 x2 x3 x4_10 x5 x6 w_15 _ _ _ hp hS (lv_sub hl [1, 2, 3, 4, 0, 5, 6] rfl)
          · have hp := hp.2 c_16
            exact bX11_steady_91 hC hR ih x1 x2 x3 x4_10 x6 w_15 _ _ _ hp hS (lv_sub hl [1, 2, 3, 4, 0, 6] rfl)
      · have hp := hp.2 c_9
        refine lv_goto (tgt := 95) hx hb dX11_steady_67 (by decide) ?_
        exact bX11_steady_95 hC hR ih x1 x2 x3 x4 x5 x6 w_8 _ _ _ hp hS (lv_sub hl [0, 1, 2, 3, 4, 5, 6] rfl)
set_option maxHeartbeats 4000000 in
set_option maxRecDepth 100000 in
theorem rX11_steady {l : Launch} {g : Gw} {w : Wd} {post : Int32 → Wd → Prop}   {x1 : Int32} {x2 : Int32} {x3 : Int32} (hp : pX11_steady post x1 x2 x3 w) : MtI tabM l yX11_steady cX11_steady 7 (some .int) 4 g w [.ref (g.2.2 300), .int x1, .int x2, .int x3] post := by
  refine q_entI tabM_nd (by decide) rfl (Nat.le_of_ble_eq_true rfl) ?_
  intro p e s m args below meth c A Q ls hC hR hS hl
  have hx := hC.1
  have hb := hC.2.1
  have hl : lv_has ls 7 [(0, .ref (g.2.2 300)), (1, .int x1), (2, .int x2), (3, .int x3)] := hl
  unfold pX11_steady at hp
  refine lv_aload_n hx hb dX11_steady_0 rfl (lv_at hl 0 rfl) ?_
  refine lv_iload_n hx hb dX11_steady_1 rfl (lv_at hl 1 rfl) ?_
  refine q_cvI (As := [.int x1]) (rest := []) hC hS hl.1 (rX11_isHand hp) cwX11_361 yvX11_isHand (rcv_300 hC hS) rfl rfl (Nat.le_of_ble_eq_true rfl) (rmk (by decide) (by decide)) dX11_steady_2 (fun r_1 w_2 H locs hp hS => ?_)
  refine lv_if_eq (tgt := 24) hx hb dX11_steady_5 (by decide) (fun c_3 => ?_) (fun c_3 => ?_)
  · have hp := hp.1 c_3
    refine lv_iconst hx hb dX11_steady_24 kI_m1 ?_
    exact hR _ _ _ _ _ _ dX11_steady_25 hp hS
  · have hp := hp.2 c_3
    refine lv_iload_n hx hb dX11_steady_8 rfl (lv_at hl 2 rfl) ?_
    refine q_csI (As := [.int x2]) (rest := []) hC hS hl.1 (rX11_isHeat hp) cwX11_364 ysX11_isHeat rfl rfl (Nat.le_of_ble_eq_true rfl) (rmk (by decide) (by decide)) dX11_steady_9 (fun r_4 w_5 H locs hp hS => ?_)
    refine lv_if_eq (tgt := 24) hx hb dX11_steady_12 (by decide) (fun c_6 => ?_) (fun c_6 => ?_)
    · have hp := hp.1 c_6
      refine lv_iconst hx hb dX11_steady_24 kI_m1 ?_
      exact hR _ _ _ _ _ _ dX11_steady_25 hp hS
    · have hp := hp.2 c_6
      refine lv_iload_n hx hb dX11_steady_15 rfl (lv_at hl 3 rfl) ?_
      refine lv_iconst hx hb dX11_steady_16 kI_0 ?_
      refine lv_iconst hx hb dX11_steady_17 kI_1 ?_
      refine q_csI (As := [.int x3, .int (0 : Int32), .int (1 : Int32)]) (rest := []) hC hS hl.1 (rX11_isIn hp) cwX11_345 ysX11_isIn rfl rfl (Nat.le_of_ble_eq_true rfl) (rmk (by decide) (by decide)) dX11_steady_18 (fun r_7 w_8 H locs hp hS => ?_)
      refine lv_if_ne (tgt := 26) hx hb dX11_steady_21 (by decide) (fun c_9 => ?_) (fun c_9 => ?_)
      · have hp := hp.1 c_9
        refine lv_iconst hx hb dX11_steady_26 kI_0 ?_
        refine lv_istore (lv' := [(4, .int (0 : Int32)), (0, .ref (g.2.2 300)), (1, .int x1), (2, .int x2), (3, .int x3)]) hx hb dX11_steady_27 hl (by decide) rfl (fun ls hl => ?_)
        refine lv_iconst hx hb dX11_steady_29 kI_m1 ?_
        refine lv_istore (lv' := [(5, .int (-1 : Int32)), (4, .int (0 : Int32)), (0, .ref (g.2.2 300)), (1, .int x1), (2, .int x2), (3, .int x3)]) hx hb dX11_steady_30 hl (by decide) rfl (fun ls hl => ?_)
        refine lv_iconst hx hb dX11_steady_32 kI_0 ?_
        refine lv_istore (lv' := [(6, .int (0 : Int32)), (5, .int (-1 : Int32)), (4, .int (0 : Int32)), (0, .ref (g.2.2 300)), (1, .int x1), (2, .int x2), (3, .int x3)]) hx hb dX11_steady_33 hl (by decide) rfl (fun ls hl => ?_)
        obtain ⟨n9, hp⟩ := hp
        exact bX11_steady_35 hC hR n9 x1 x2 x3 (0 : Int32) (-1 : Int32) (0 : Int32) w_8 _ _ _ hp hS (lv_sub hl [3, 4, 5, 6, 2, 1, 0] rfl)
      · have hp := hp.2 c_9
        refine lv_iconst hx hb dX11_steady_24 kI_m1 ?_
        exact hR _ _ _ _ _ _ dX11_steady_25 hp hS
def pX11_against_70 (k31 : Int32 → Int32 → Int32 → Int32 → Int32 → Wd → Prop) (post : Int32 → Wd → Prop) (x1 : Int32) (x2 : Int32) (x3 : Int32) (x5 : Int32) (t0 : Int32) (t1 : Int32) (w : Wd) : Prop := ∀ x4_1, x4_1 = (t0 + t1) → ∀ x5_2, x5_2 = x5 + (1 : Int32) → k31 x1 x2 x3 x4_1 x5_2 w
def pX11_against_31 (post : Int32 → Wd → Prop) : Nat → Int32 → Int32 → Int32 → Int32 → Int32 → Wd → Prop
  | 0, _, _, _, _, _, _ => False
  | n + 1, x1, x2, x3, x4, x5, w => pX11_width (fun r_1 w_2 => (((1 : Int32) <<< (r_1 &&& 31)) ≤ x5 → (post x4 w_2)) ∧ (¬ ((1 : Int32) <<< (r_1 &&& 31)) ≤ x5 → (pX11_castOf (fun r_4 w_5 => pX11_castOf (fun r_6 w_7 => (r_4 = r_6 → (pX11_against_70 (pX11_against_31 post n) post x1 x2 x3 x5 x4 (0 : Int32) w_7)) ∧ (¬ r_4 = r_6 → (pX11_against_70 (pX11_against_31 post n) post x1 x2 x3 x5 x4 (1 : Int32) w_7))) x5 x2 x3 (0 : Int32) w_5) x5 x1 x3 (0 : Int32) w_2))) w
def pX11_against (post : Int32 → Wd → Prop) (x1 : Int32) (x2 : Int32) (x3 : Int32) (w : Wd) : Prop := pX11_isHand (fun r_1 w_2 => (r_1 = 0 → (post (-1 : Int32) w_2)) ∧ (¬ r_1 = 0 → (pX11_isHand (fun r_4 w_5 => (r_4 = 0 → (post (-1 : Int32) w_5)) ∧ (¬ r_4 = 0 → (pX11_isHeat (fun r_7 w_8 => (¬ r_7 = 0 → (∃ n9, pX11_against_31 post n9 x1 x2 x3 (0 : Int32) (0 : Int32) w_8)) ∧ (r_7 = 0 → (post (-1 : Int32) w_8))) x3 w_5))) x2 w_2))) x1 w
set_option maxHeartbeats 4000000 in
set_option maxRecDepth 100000 in
theorem bX11_against_70 {p : Program} {l : Launch} {e : Env} {s : State} {m : MethodId} {args : Array Value} {below : List Frame} {meth : Method} {c : Code} {Q : State → Prop} {A : Nat → Prop} {g : Gw} {post : Int32 → Wd → Prop}  (hC : Cx p s m args c cX11_against RX11 6 g) (hR : RtI tabM p l e (rk 4) s m args below meth c Q cX11_against A g post)  {k31 : Int32 → Int32 → Int32 → Int32 → Int32 → Wd → Prop} (hk31 : ∀ (x1 : Int32) (x2 : Int32) (x3 : Int32) (x4 : Int32) (x5 : Int32) (w : Wd) (H : Heap) (locs : List Loc) (ls : Array Slot), k31 x1 x2 x3 x4 x5 w → St tabM A s.heap g w H locs → lv_has ls 6 [(0, .ref (g.2.2 300)), (1, .int x1), (2, .int x2), (3, .int x3), (4, .int x4), (5, .int x5)] → W p l e (rk 4) s m args below meth c H locs 0 0 Q (F0 m 31 ls [])) : ∀ (x1 : Int32) (x2 : Int32) (x3 : Int32) (x5 : Int32) (t0 : Int32) (t1 : Int32) (w : Wd) (H : Heap) (locs : List Loc) (ls : Array Slot), pX11_against_70 k31 post x1 x2 x3 x5 t0 t1 w → St tabM A s.heap g w H locs → lv_has ls 6 [(0, .ref (g.2.2 300)), (1, .int x1), (2, .int x2), (3, .int x3), (5, .int x5)] → W p l e (rk 4) s m args below meth c H locs 0 0 Q (F0 m 70 ls [.int t1, .int t0]) := by
  have hx := hC.1
  have hb := hC.2.1
  intro x1 x2 x3 x5 t0 t1 w H locs ls hp hS hl
  unfold pX11_against_70 at hp
  refine lv_iadd hx hb dX11_against_70 ?_
  refine lv_topi (fun x4_1 ex4_1 => ?_)
  have hp := hp x4_1 ex4_1
  refine lv_istore (lv' := [(4, .int x4_1), (0, .ref (g.2.2 300)), (1, .int x1), (2, .int x2), (3, .int x3), (5, .int x5)]) hx hb dX11_against_71 hl (by decide) rfl (fun ls hl => ?_)
  obtain ⟨x5_2, ex5_2⟩ : ∃ y : Int32, y = x5 + (1 : Int32) := ⟨_, rfl⟩
  have hp := hp x5_2 ex5_2
  refine lv_iinc (v := x5_2) (lv' := [(5, .int x5_2), (4, .int x4_1), (0, .ref (g.2.2 300)), (1, .int x1), (2, .int x2), (3, .int x3)]) hx hb dX11_against_73 hl (k := 5) rfl (by rw [ex5_2]; rfl) (by decide) rfl (fun ls hl => ?_)
  refine lv_goto (tgt := 31) hx hb dX11_against_76 (by decide) ?_
  exact hk31 x1 x2 x3 x4_1 x5_2 w _ _ _ hp hS (lv_sub hl [2, 3, 4, 5, 1, 0] rfl)
set_option maxHeartbeats 4000000 in
set_option maxRecDepth 100000 in
theorem bX11_against_31 {p : Program} {l : Launch} {e : Env} {s : State} {m : MethodId} {args : Array Value} {below : List Frame} {meth : Method} {c : Code} {Q : State → Prop} {A : Nat → Prop} {g : Gw} {post : Int32 → Wd → Prop}  (hC : Cx p s m args c cX11_against RX11 6 g) (hR : RtI tabM p l e (rk 4) s m args below meth c Q cX11_against A g post)  : ∀ (n : Nat) (x1 : Int32) (x2 : Int32) (x3 : Int32) (x4 : Int32) (x5 : Int32) (w : Wd) (H : Heap) (locs : List Loc) (ls : Array Slot), pX11_against_31 post n x1 x2 x3 x4 x5 w → St tabM A s.heap g w H locs → lv_has ls 6 [(0, .ref (g.2.2 300)), (1, .int x1), (2, .int x2), (3, .int x3), (4, .int x4), (5, .int x5)] → W p l e (rk 4) s m args below meth c H locs 0 0 Q (F0 m 31 ls []) := by
  have hx := hC.1
  have hb := hC.2.1
  intro n
  induction n with
  | zero =>
    intro x1 x2 x3 x4 x5 w H locs ls hp hS hl
    exact False.elim hp
  | succ n ih =>
    intro x1 x2 x3 x4 x5 w H locs ls hp hS hl
    unfold pX11_against_31 at hp
    refine lv_iload hx hb dX11_against_31 (lv_at hl 5 rfl) ?_
    refine lv_iconst hx hb dX11_against_33 kI_1 ?_
    refine lv_aload_n hx hb dX11_against_34 rfl (lv_at hl 0 rfl) ?_
    refine q_cvI (As := []) (rest := [.int (1 : Int32), .int x5]) hC hS hl.1 (rX11_width hp) cwX11_342 yvX11_width (rcv_300 hC hS) rfl rfl (Nat.le_of_ble_eq_true rfl) (rmk (by decide) (by decide)) dX11_against_35 (fun r_1 w_2 H locs hp hS => ?_)
    refine lv_ishl hx hb dX11_against_38 ?_
    refine lv_icmp_ge (tgt := 79) hx hb dX11_against_39 (by decide) (fun c_3 => ?_) (fun c_3 => ?_)
    · have hp := hp.1 c_3
      refine lv_iload hx hb dX11_against_79 (lv_at hl 4 rfl) ?_
      exact hR _ _ _ _ _ _ dX11_against_81 hp hS
    · have hp := hp.2 c_3
      refine lv_iload hx hb dX11_against_42 (lv_at hl 4 rfl) ?_
      refine lv_aload_n hx hb dX11_against_44 rfl (lv_at hl 0 rfl) ?_
      refine lv_iload hx hb dX11_against_45 (lv_at hl 5 rfl) ?_
      refine lv_iload_n hx hb dX11_against_47 rfl (lv_at hl 1 rfl) ?_
      refine lv_iload_n hx hb dX11_against_48 rfl (lv_at hl 3 rfl) ?_
      refine lv_iconst hx hb dX11_against_49 kI_0 ?_
      refine q_cvI (As := [.int x5, .int x1, .int x3, .int (0 : Int32)]) (rest := [.int x4]) hC hS hl.1 (rX11_castOf hp) cwX11_367 yvX11_castOf (rcv_300 hC hS) rfl rfl (Nat.le_of_ble_eq_true rfl) (rmk (by decide) (by decide)) dX11_against_50 (fun r_4 w_5 H locs hp hS => ?_)
      refine lv_aload_n hx hb dX11_against_53 rfl (lv_at hl 0 rfl) ?_
      refine lv_iload hx hb dX11_against_54 (lv_at hl 5 rfl) ?_
      refine lv_iload_n hx hb dX11_against_56 rfl (lv_at hl 2 rfl) ?_
      refine lv_iload_n hx hb dX11_against_57 rfl (lv_at hl 3 rfl) ?_
      refine lv_iconst hx hb dX11_against_58 kI_0 ?_
      refine q_cvI (As := [.int x5, .int x2, .int x3, .int (0 : Int32)]) (rest := [.int r_4, .int x4]) hC hS hl.1 (rX11_castOf hp) cwX11_367 yvX11_castOf (rcv_300 hC hS) rfl rfl (Nat.le_of_ble_eq_true rfl) (rmk (by decide) (by decide)) dX11_against_59 (fun r_6 w_7 H locs hp hS => ?_)
      refine lv_icmp_eq (tgt := 69) hx hb dX11_against_62 (by decide) (fun c_8 => ?_) (fun c_8 => ?_)
      · have hp := hp.1 c_8
        refine lv_iconst hx hb dX11_against_69 kI_0 ?_
        exact bX11_against_70 hC hR ih x1 x2 x3 x5 x4 (0 : Int32) w_7 _ _ _ hp hS (lv_sub hl [0, 1, 2, 3, 5] rfl)
      · have hp := hp.2 c_8
        refine lv_iconst hx hb dX11_against_65 kI_1 ?_
        refine lv_goto (tgt := 70) hx hb dX11_against_66 (by decide) ?_
        exact bX11_against_70 hC hR ih x1 x2 x3 x5 x4 (1 : Int32) w_7 _ _ _ hp hS (lv_sub hl [0, 1, 2, 3, 5] rfl)
set_option maxHeartbeats 4000000 in
set_option maxRecDepth 100000 in
theorem rX11_against {l : Launch} {g : Gw} {w : Wd} {post : Int32 → Wd → Prop}   {x1 : Int32} {x2 : Int32} {x3 : Int32} (hp : pX11_against post x1 x2 x3 w) : MtI tabM l yX11_against cX11_against 6 (some .int) 4 g w [.ref (g.2.2 300), .int x1, .int x2, .int x3] post := by
  refine q_entI tabM_nd (by decide) rfl (Nat.le_of_ble_eq_true rfl) ?_
  intro p e s m args below meth c A Q ls hC hR hS hl
  have hx := hC.1
  have hb := hC.2.1
  have hl : lv_has ls 6 [(0, .ref (g.2.2 300)), (1, .int x1), (2, .int x2), (3, .int x3)] := hl
  unfold pX11_against at hp
  refine lv_aload_n hx hb dX11_against_0 rfl (lv_at hl 0 rfl) ?_
  refine lv_iload_n hx hb dX11_against_1 rfl (lv_at hl 1 rfl) ?_
  refine q_cvI (As := [.int x1]) (rest := []) hC hS hl.1 (rX11_isHand hp) cwX11_361 yvX11_isHand (rcv_300 hC hS) rfl rfl (Nat.le_of_ble_eq_true rfl) (rmk (by decide) (by decide)) dX11_against_2 (fun r_1 w_2 H locs hp hS => ?_)
  refine lv_if_eq (tgt := 23) hx hb dX11_against_5 (by decide) (fun c_3 => ?_) (fun c_3 => ?_)
  · have hp := hp.1 c_3
    refine lv_iconst hx hb dX11_against_23 kI_m1 ?_
    exact hR _ _ _ _ _ _ dX11_against_24 hp hS
  · have hp := hp.2 c_3
    refine lv_aload_n hx hb dX11_against_8 rfl (lv_at hl 0 rfl) ?_
    refine lv_iload_n hx hb dX11_against_9 rfl (lv_at hl 2 rfl) ?_
    refine q_cvI (As := [.int x2]) (rest := []) hC hS hl.1 (rX11_isHand hp) cwX11_361 yvX11_isHand (rcv_300 hC hS) rfl rfl (Nat.le_of_ble_eq_true rfl) (rmk (by decide) (by decide)) dX11_against_10 (fun r_4 w_5 H locs hp hS => ?_)
    refine lv_if_eq (tgt := 23) hx hb dX11_against_13 (by decide) (fun c_6 => ?_) (fun c_6 => ?_)
    · have hp := hp.1 c_6
      refine lv_iconst hx hb dX11_against_23 kI_m1 ?_
      exact hR _ _ _ _ _ _ dX11_against_24 hp hS
    · have hp := hp.2 c_6
      refine lv_iload_n hx hb dX11_against_16 rfl (lv_at hl 3 rfl) ?_
      refine q_csI (As := [.int x3]) (rest := []) hC hS hl.1 (rX11_isHeat hp) cwX11_364 ysX11_isHeat rfl rfl (Nat.le_of_ble_eq_true rfl) (rmk (by decide) (by decide)) dX11_against_17 (fun r_7 w_8 H locs hp hS => ?_)
      refine lv_if_ne (tgt := 25) hx hb dX11_against_20 (by decide) (fun c_9 => ?_) (fun c_9 => ?_)
      · have hp := hp.1 c_9
        refine lv_iconst hx hb dX11_against_25 kI_0 ?_
        refine lv_istore (lv' := [(4, .int (0 : Int32)), (0, .ref (g.2.2 300)), (1, .int x1), (2, .int x2), (3, .int x3)]) hx hb dX11_against_26 hl (by decide) rfl (fun ls hl => ?_)
        refine lv_iconst hx hb dX11_against_28 kI_0 ?_
        refine lv_istore (lv' := [(5, .int (0 : Int32)), (4, .int (0 : Int32)), (0, .ref (g.2.2 300)), (1, .int x1), (2, .int x2), (3, .int x3)]) hx hb dX11_against_29 hl (by decide) rfl (fun ls hl => ?_)
        obtain ⟨n9, hp⟩ := hp
        exact bX11_against_31 hC hR n9 x1 x2 x3 (0 : Int32) (0 : Int32) w_8 _ _ _ hp hS (lv_sub hl [2, 3, 4, 5, 1, 0] rfl)
      · have hp := hp.2 c_9
        refine lv_iconst hx hb dX11_against_23 kI_m1 ?_
        exact hR _ _ _ _ _ _ dX11_against_24 hp hS
def pX11_ways (post : Int32 → Wd → Prop)  (w : Wd) : Prop := vp_in (w.1 300 29) 2 ∧ post ((4 : Int32) * (w.2.1 314 (w.1 300 29).toNatClampNeg)) w
set_option maxHeartbeats 4000000 in
set_option maxRecDepth 100000 in
theorem rX11_ways {l : Launch} {g : Gw} {w : Wd} {post : Int32 → Wd → Prop}    (hp : pX11_ways post  w) : MtI tabM l yX11_ways cX11_ways 1 (some .int) 1 g w [.ref (g.2.2 300)] post := by
  refine q_entI tabM_nd (by decide) rfl (Nat.le_of_ble_eq_true rfl) ?_
  intro p e s m args below meth c A Q ls hC hR hS hl
  have hx := hC.1
  have hb := hC.2.1
  have hl : lv_has ls 1 [(0, .ref (g.2.2 300))] := hl
  unfold pX11_ways at hp
  refine lv_iconst hx hb dX11_ways_0 kI_4 ?_
  refine lv_aload_n hx hb dX11_ways_1 rfl (lv_at hl 0 rfl) ?_
  refine G_300_13 hC hS m258 dX11_ways_2 ?_
  refine lv_aload_n hx hb dX11_ways_5 rfl (lv_at hl 0 rfl) ?_
  refine G_300_29 hC hS m308 dX11_ways_6 ?_
  refine La_314 hC hS hp.1 dX11_ways_9 ?_
  have hp := hp.2
  refine lv_imul hx hb dX11_ways_10 ?_
  exact hR _ _ _ _ _ _ dX11_ways_11 hp hS
def pX11_layWays_171 (k116 : Int32 → Int32 → Int32 → Int32 → Int32 → Int32 → Wd → Prop) (post : Wd → Prop) (x1 : Int32) (x2 : Int32) (x3 : Int32) (x4 : Int32) (x5 : Int32) (x6 : Int32) (w : Wd) : Prop := ∀ x6_1, x6_1 = x6 + (1 : Int32) → k116 x1 x2 x3 x4 x5 x6_1 w
def pX11_layWays_116 (k92 : Int32 → Int32 → Int32 → Int32 → Wd → Prop) (post : Wd → Prop) : Nat → Int32 → Int32 → Int32 → Int32 → Int32 → Int32 → Wd → Prop
  | 0, _, _, _, _, _, _, _ => False
  | n + 1, x1, x2, x3, x4, x5, x6, w => pX11_ways (fun r_1 w_2 => (r_1 ≤ x6 → (vp_in (((4096 : Int32) * x3) + x4) 20480 ∧ ∀ w_4, w_4 = sA w_2 351 (((4096 : Int32) * x3) + x4).toNatClampNeg x5 → ∀ x4_5, x4_5 = x4 + (1 : Int32) → k92 x1 x2 x3 x4_5 w_4)) ∧ (¬ r_1 ≤ x6 → (vp_in (((16 : Int32) * x4) + x6) 65536 ∧ vp_in (((4096 : Int32) * (x3 - (1 : Int32))) + (w_2.2.1 352 (((16 : Int32) * x4) + x6).toNatClampNeg)) 20480 ∧ ∀ x7_6, x7_6 = (((w_2.2.1 351 (((4096 : Int32) * (x3 - (1 : Int32))) + (w_2.2.1 352 (((16 : Int32) * x4) + x6).toNatClampNeg)).toNatClampNeg) + (1 : Int32)) + (x6 - x6 / (4 : Int32) * (4 : Int32))) → (x5 ≤ x7_6 → (pX11_layWays_171 (pX11_layWays_116 k92 post n) post x1 x2 x3 x4 x5 x6 w_2)) ∧ (¬ x5 ≤ x7_6 → (pX11_layWays_171 (pX11_layWays_116 k92 post n) post x1 x2 x3 x4 x7_6 x6 w_2))))) w
def pX11_layWays_111 (k92 : Int32 → Int32 → Int32 → Int32 → Wd → Prop) (post : Wd → Prop) (x1 : Int32) (x2 : Int32) (x3 : Int32) (x4 : Int32) (t0 : Int32) (w : Wd) : Prop := ∃ n9, pX11_layWays_116 k92 post n9 x1 x2 x3 x4 t0 (0 : Int32) w
def pX11_layWays_92 (k84 : Int32 → Int32 → Int32 → Wd → Prop) (post : Wd → Prop) : Nat → Int32 → Int32 → Int32 → Int32 → Wd → Prop
  | 0, _, _, _, _, _ => False
  | n + 1, x1, x2, x3, x4, w => (x2 ≤ x4 → (∀ x3_2, x3_2 = x3 + (1 : Int32) → k84 x1 x2 x3_2 w)) ∧ (¬ x2 ≤ x4 → ((¬ x4 = x1 → (pX11_layWays_111 (pX11_layWays_92 k84 post n) post x1 x2 x3 x4 (1000000 : Int32) w)) ∧ (x4 = x1 → (pX11_layWays_111 (pX11_layWays_92 k84 post n) post x1 x2 x3 x4 (0 : Int32) w))))
def pX11_layWays_84 (post : Wd → Prop) : Nat → Int32 → Int32 → Int32 → Wd → Prop
  | 0, _, _, _, _ => False
  | n + 1, x1, x2, x3, w => ((4 : Int32) < x3 → (post w)) ∧ (¬ (4 : Int32) < x3 → (∃ n9, pX11_layWays_92 (pX11_layWays_84 post n) post n9 x1 x2 x3 (0 : Int32) w))
def pX11_layWays_75 (k9 : Int32 → Int32 → Int32 → Wd → Prop) (post : Wd → Prop) (x1 : Int32) (x2 : Int32) (x3 : Int32) (t1 : Int32) (t2 : Int32) (w : Wd) : Prop := vp_in t1 20480 ∧ ∀ w_1, w_1 = sA w 351 t1.toNatClampNeg t2 → ∀ x3_2, x3_2 = x3 + (1 : Int32) → k9 x1 x2 x3_2 w_1
def pX11_layWays_17 (k9 : Int32 → Int32 → Int32 → Wd → Prop) (post : Wd → Prop) : Nat → Int32 → Int32 → Int32 → Int32 → Wd → Prop
  | 0, _, _, _, _, _ => False
  | n + 1, x1, x2, x3, x4, w => pX11_ways (fun r_1 w_2 => (r_1 ≤ x4 → ((¬ x3 = x1 → (pX11_layWays_75 k9 post x1 x2 x3 x3 (1000000 : Int32) w_2)) ∧ (x3 = x1 → (pX11_layWays_75 k9 post x1 x2 x3 x3 (0 : Int32) w_2)))) ∧ (¬ r_1 ≤ x4 → (pX11_castOf (fun r_5 w_6 => vp_in (((16 : Int32) * x3) + x4) 65536 ∧ ∀ w_7, w_7 = sA w_6 352 (((16 : Int32) * x3) + x4).toNatClampNeg r_5 → ∀ x4_8, x4_8 = x4 + (1 : Int32) → pX11_layWays_17 k9 post n x1 x2 x3 x4_8 w_7) x3 (x4 / (4 : Int32)) (x4 - x4 / (4 : Int32) * (4 : Int32)) (0 : Int32) w_2))) w
def pX11_layWays_9 (post : Wd → Prop) : Nat → Int32 → Int32 → Int32 → Wd → Prop
  | 0, _, _, _, _ => False
  | n + 1, x1, x2, x3, w => (x2 ≤ x3 → (∃ n9, pX11_layWays_84 post n9 x1 x2 (1 : Int32) w)) ∧ (¬ x2 ≤ x3 → (∃ n9, pX11_layWays_17 (pX11_layWays_9 post n) post n9 x1 x2 x3 (0 : Int32) w))
def pX11_layWays (post : Wd → Prop) (x1 : Int32) (w : Wd) : Prop := pX11_width (fun r_1 w_2 => ∀ x2_3, x2_3 = ((1 : Int32) <<< (r_1 &&& 31)) → ∃ n9, pX11_layWays_9 post n9 x1 x2_3 (0 : Int32) w_2) w
set_option maxHeartbeats 4000000 in
set_option maxRecDepth 100000 in
theorem bX11_layWays_171 {p : Program} {l : Launch} {e : Env} {s : State} {m : MethodId} {args : Array Value} {below : List Frame} {meth : Method} {c : Code} {Q : State → Prop} {A : Nat → Prop} {g : Gw} {post : Wd → Prop}  (hC : Cx p s m args c cX11_layWays RX11 8 g) (hR : RtV tabM p l e (rk 4) s m args below meth c Q cX11_layWays A g post)  {k116 : Int32 → Int32 → Int32 → Int32 → Int32 → Int32 → Wd → Prop} (hk116 : ∀ (x1 : Int32) (x2 : Int32) (x3 : Int32) (x4 : Int32) (x5 : Int32) (x6 : Int32) (w : Wd) (H : Heap) (locs : List Loc) (ls : Array Slot), k116 x1 x2 x3 x4 x5 x6 w → St tabM A s.heap g w H locs → lv_has ls 8 [(0, .ref (g.2.2 300)), (1, .int x1), (2, .int x2), (3, .int x3), (4, .int x4), (5, .int x5), (6, .int x6)] → W p l e (rk 4) s m args below meth c H locs 0 0 Q (F0 m 116 ls [])) : ∀ (x1 : Int32) (x2 : Int32) (x3 : Int32) (x4 : Int32) (x5 : Int32) (x6 : Int32) (w : Wd) (H : Heap) (locs : List Loc) (ls : Array Slot), pX11_layWays_171 k116 post x1 x2 x3 x4 x5 x6 w → St tabM A s.heap g w H locs → lv_has ls 8 [(0, .ref (g.2.2 300)), (1, .int x1), (2, .int x2), (3, .int x3), (4, .int x4), (5, .int x5), (6, .int x6)] → W p l e (rk 4) s m args below meth c H locs 0 0 Q (F0 m 171 ls []) := by
  have hx := hC.1
  have hb := hC.2.1
  intro x1 x2 x3 x4 x5 x6 w H locs ls hp hS hl
  unfold pX11_layWays_171 at hp
  obtain ⟨x6_1, ex6_1⟩ : ∃ y : Int32, y = x6 + (1 : Int32) := ⟨_, rfl⟩
  have hp := hp x6_1 ex6_1
  refine lv_iinc (v := x6_1) (lv' := [(6, .int x6_1), (0, .ref (g.2.2 300)), (1, .int x1), (2, .int x2), (3, .int x3), (4, .int x4), (5, .int x5)]) hx hb dX11_layWays_171 hl (k := 6) rfl (by rw [ex6_1]; rfl) (by decide) rfl (fun ls hl => ?_)
  refine lv_goto (tgt := 116) hx hb dX11_layWays_174 (by decide) ?_
  exact hk116 x1 x2 x3 x4 x5 x6_1 w _ _ _ hp hS (lv_sub hl [1, 2, 3, 4, 5, 6, 0] rfl)
set_option maxHeartbeats 4000000 in
set_option maxRecDepth 100000 in
theorem bX11_layWays_116 {p : Program} {l : Launch} {e : Env} {s : State} {m : MethodId} {args : Array Value} {below : List Frame} {meth : Method} {c : Code} {Q : State → Prop} {A : Nat → Prop} {g : Gw} {post : Wd → Prop}  (hC : Cx p s m args c cX11_layWays RX11 8 g) (hR : RtV tabM p l e (rk 4) s m args below meth c Q cX11_layWays A g post)  {k92 : Int32 → Int32 → Int32 → Int32 → Wd → Prop} (hk92 : ∀ (x1 : Int32) (x2 : Int32) (x3 : Int32) (x4 : Int32) (w : Wd) (H : Heap) (locs : List Loc) (ls : Array Slot), k92 x1 x2 x3 x4 w → St tabM A s.heap g w H locs → lv_has ls 8 [(0, .ref (g.2.2 300)), (1, .int x1), (2, .int x2), (3, .int x3), (4, .int x4)] → W p l e (rk 4) s m args below meth c H locs 0 0 Q (F0 m 92 ls [])) : ∀ (n : Nat) (x1 : Int32) (x2 : Int32) (x3 : Int32) (x4 : Int32) (x5 : Int32) (x6 : Int32) (w : Wd) (H : Heap) (locs : List Loc) (ls : Array Slot), pX11_layWays_116 k92 post n x1 x2 x3 x4 x5 x6 w → St tabM A s.heap g w H locs → lv_has ls 8 [(0, .ref (g.2.2 300)), (1, .int x1), (2, .int x2), (3, .int x3), (4, .int x4), (5, .int x5), (6, .int x6)] → W p l e (rk 4) s m args below meth c H locs 0 0 Q (F0 m 116 ls []) := by
  have hx := hC.1
  have hb := hC.2.1
  intro n
  induction n with
  | zero =>
    intro x1 x2 x3 x4 x5 x6 w H locs ls hp hS hl
    exact False.elim hp
  | succ n ih =>
    intro x1 x2 x3 x4 x5 x6 w H locs ls hp hS hl
    unfold pX11_layWays_116 at hp
    refine lv_iload hx hb dX11_layWays_116 (lv_at hl 6 rfl) ?_
    refine lv_aload_n hx hb dX11_layWays_118 rfl (lv_at hl 0 rfl) ?_
    refine q_cvI (As := []) (rest := [.int x6]) hC hS hl.1 (rX11_ways hp) cwX11_413 yvX11_ways (rcv_300 hC hS) rfl rfl (Nat.le_of_ble_eq_true rfl) (rmk (by decide) (by decide)) dX11_layWays_119 (fun r_1 w_2 H locs hp hS => ?_)
    refine lv_icmp_ge (tgt := 177) hx hb dX11_layWays_122 (by decide) (fun c_3 => ?_) (fun c_3 => ?_)
    · have hp := hp.1 c_3
      refine lv_aload_n hx hb dX11_layWays_177 rfl (lv_at hl 0 rfl) ?_
      refine G_300_50 hC hS m281 dX11_layWays_178 ?_
      refine lv_sipush hx hb dX11_layWays_181 kS_4096 ?_
      refine lv_iload_n hx hb dX11_layWays_184 rfl (lv_at hl 3 rfl) ?_
      refine lv_imul hx hb dX11_layWays_185 ?_
      refine lv_iload hx hb dX11_layWays_186 (lv_at hl 4 rfl) ?_
      refine lv_iadd hx hb dX11_layWays_188 ?_
      refine lv_iload hx hb dX11_layWays_189 (lv_at hl 5 rfl) ?_
      refine Sa_351 hC hS hp.1 dX11_layWays_191 (fun w_4 H locs ew_4 hS => ?_)
      have hp := hp.2
      have hp := hp w_4 ew_4
      obtain ⟨x4_5, ex4_5⟩ : ∃ y : Int32, y = x4 + (1 : Int32) := ⟨_, rfl⟩
      have hp := hp x4_5 ex4_5
      refine lv_iinc (v := x4_5) (lv' := [(4, .int x4_5), (0, .ref (g.2.2 300)), (1, .int x1), (2, .int x2), (3, .int x3), (5, .int x5), (6, .int x6)]) hx hb dX11_layWays_192 hl (k := 4) rfl (by rw [ex4_5]; rfl) (by decide) rfl (fun ls hl => ?_)
      refine lv_goto (tgt := 92) hx hb dX11_layWays_195 (by decide) ?_
      exact hk92 x1 x2 x3 x4_5 w_4 _ _ _ hp hS (lv_sub hl [1, 2, 3, 4, 0] rfl)
    · have hp := hp.2 c_3
      refine lv_aload_n hx hb dX11_layWays_125 rfl (lv_at hl 0 rfl) ?_
      refine G_300_50 hC hS m281 dX11_layWays_126 ?_
      refine lv_sipush hx hb dX11_layWays_129 kS_4096 ?_
      refine lv_iload_n hx hb dX11_layWays_132 rfl (lv_at hl 3 rfl) ?_
      refine lv_iconst hx hb dX11_layWays_133 kI_1 ?_
      refine lv_isub hx hb dX11_layWays_134 ?_
      refine lv_imul hx hb dX11_layWays_135 ?_
      refine lv_aload_n hx hb dX11_layWays_136 rfl (lv_at hl 0 rfl) ?_
      refine G_300_51 hC hS m283 dX11_layWays_137 ?_
      refine lv_bipush hx hb dX11_layWays_140 kB_16 ?_
      refine lv_iload hx hb dX11_layWays_142 (lv_at hl 4 rfl) ?_
      refine lv_imul hx hb dX11_layWays_144 ?_
      refine lv_iload hx hb dX11_layWays_145 (lv_at hl 6 rfl) ?_
      refine lv_iadd hx hb dX11_layWays_147 ?_
      refine La_352 hC hS hp.1 dX11_layWays_148 ?_
      have hp := hp.2
      refine lv_iadd hx hb dX11_layWays_149 ?_
      refine La_351 hC hS hp.1 dX11_layWays_150 ?_
      have hp := hp.2
      refine lv_iconst hx hb dX11_layWays_151 kI_1 ?_
      refine lv_iadd hx hb dX11_layWays_152 ?_
      refine lv_iload hx hb dX11_layWays_153 (lv_at hl 6 rfl) ?_
      refine lv_iconst hx hb dX11_layWays_155 kI_4 ?_
      refine lv_irem hx hb dX11_layWays_156 (by decide) ?_
      refine lv_iadd hx hb dX11_layWays_157 ?_
      refine lv_topi (fun x7_6 ex7_6 => ?_)
      have hp := hp x7_6 ex7_6
      refine lv_istore (lv' := [(7, .int x7_6), (0, .ref (g.2.2 300)), (1, .int x1), (2, .int x2), (3, .int x3), (4, .int x4), (5, .int x5), (6, .int x6)]) hx hb dX11_layWays_158 hl (by decide) rfl (fun ls hl => ?_)
      refine lv_iload hx hb dX11_layWays_160 (lv_at hl 0 rfl) ?_
      refine lv_iload hx hb dX11_layWays_162 (lv_at hl 6 rfl) ?_
      refine lv_icmp_ge (tgt := 171) hx hb dX11_layWays_164 (by decide) (fun c_7 => ?_) (fun c_7 => ?_)
      · have hp := hp.1 c_7
        exact bX11_layWays_171 hC hR ih x1 x2 x3 x4 x5 x6 w_2 _ _ _ hp hS (lv_sub hl [1, 2, 3, 4, 5, 6, 7] rfl)
      · have hp := hp.2 c_7
        refine lv_iload hx hb dX11_layWays_167 (lv_at hl 0 rfl) ?_
        refine lv_istore (lv' := [(5, .int x7_6), (7, .int x7_6), (0, .ref (g.2.2 300)), (1, .int x1), (2, .int x2), (3, .int x3), (4, .int x4), (6, .int x6)]) hx hb dX11_layWays_169 hl (by decide) rfl (fun ls hl => ?_)
        exact bX11_layWays_171 hC hR ih x1 x2 x3 x4 x7_6 x6 w_2 _ _ _ hp hS (lv_sub hl [2, 3, 4, 5, 6, 0, 7] rfl)
set_option maxHeartbeats 4000000 in
set_option maxRecDepth 100000 in
theorem bX11_layWays_111 {p : Program} {l : Launch} {e : Env} {s : State} {m : MethodId} {args : Array Value} {below : List Frame} {meth : Method} {c : Code} {Q : State → Prop} {A : Nat → Prop} {g : Gw} {post : Wd → Prop}  (hC : Cx p s m args c cX11_layWays RX11 8 g) (hR : RtV tabM p l e (rk 4) s m args below meth c Q cX11_layWays A g post)  {k92 : Int32 → Int32 → Int32 → Int32 → Wd → Prop} (hk92 : ∀ (x1 : Int32) (x2 : Int32) (x3 : Int32) (x4 : Int32) (w : Wd) (H : Heap) (locs : List Loc) (ls : Array Slot), k92 x1 x2 x3 x4 w → St tabM A s.heap g w H locs → lv_has ls 8 [(0, .ref (g.2.2 300)), (1, .int x1), (2, .int x2), (3, .int x3), (4, .int x4)] → W p l e (rk 4) s m args below meth c H locs 0 0 Q (F0 m 92 ls [])) : ∀ (x1 : Int32) (x2 : Int32) (x3 : Int32) (x4 : Int32) (t0 : Int32) (w : Wd) (H : Heap) (locs : List Loc) (ls : Array Slot), pX11_layWays_111 k92 post x1 x2 x3 x4 t0 w → St tabM A s.heap g w H locs → lv_has ls 8 [(0, .ref (g.2.2 300)), (1, .int x1), (2, .int x2), (3, .int x3), (4, .int x4)] → W p l e (rk 4) s m args below meth c H locs 0 0 Q (F0 m 111 ls [.int t0]) := by
  have hx := hC.1
  have hb := hC.2.1
  intro x1 x2 x3 x4 t0 w H locs ls hp hS hl
  unfold pX11_layWays_111 at hp
  refine lv_istore (lv' := [(5, .int t0), (0, .ref (g.2.2 300)), (1, .int x1), (2, .int x2), (3, .int x3), (4, .int x4)]) hx hb dX11_layWays_111 hl (by decide) rfl (fun ls hl => ?_)
  refine lv_iconst hx hb dX11_layWays_113 kI_0 ?_
  refine lv_istore (lv' := [(6, .int (0 : Int32)), (5, .int t0), (0, .ref (g.2.2 300)), (1, .int x1), (2, .int x2), (3, .int x3), (4, .int x4)]) hx hb dX11_layWays_114 hl (by decide) rfl (fun ls hl => ?_)
  obtain ⟨n9, hp⟩ := hp
  exact bX11_layWays_116 hC hR hk92 n9 x1 x2 x3 x4 t0 (0 : Int32) w _ _ _ hp hS (lv_sub hl [2, 3, 4, 5, 6, 1, 0] rfl)
set_option maxHeartbeats 4000000 in
set_option maxRecDepth 100000 in
theorem bX11_layWays_92 {p : Program} {l : Launch} {e : Env} {s : State} {m : MethodId} {args : Array Value} {below : List Frame} {meth : Method} {c : Code} {Q : State → Prop} {A : Nat → Prop} {g : Gw} {post : Wd → Prop}  (hC : Cx p s m args c cX11_layWays RX11 8 g) (hR : RtV tabM p l e (rk 4) s m args below meth c Q cX11_layWays A g post)  {k84 : Int32 → Int32 → Int32 → Wd → Prop} (hk84 : ∀ (x1 : Int32) (x2 : Int32) (x3 : Int32) (w : Wd) (H : Heap) (locs : List Loc) (ls : Array Slot), k84 x1 x2 x3 w → St tabM A s.heap g w H locs → lv_has ls 8 [(0, .ref (g.2.2 300)), (1, .int x1), (2, .int x2), (3, .int x3)] → W p l e (rk 4) s m args below meth c H locs 0 0 Q (F0 m 84 ls [])) : ∀ (n : Nat) (x1 : Int32) (x2 : Int32) (x3 : Int32) (x4 : Int32) (w : Wd) (H : Heap) (locs : List Loc) (ls : Array Slot), pX11_layWays_92 k84 post n x1 x2 x3 x4 w → St tabM A s.heap g w H locs → lv_has ls 8 [(0, .ref (g.2.2 300)), (1, .int x1), (2, .int x2), (3, .int x3), (4, .int x4)] → W p l e (rk 4) s m args below meth c H locs 0 0 Q (F0 m 92 ls []) := by
  have hx := hC.1
  have hb := hC.2.1
  intro n
  induction n with
  | zero =>
    intro x1 x2 x3 x4 w H locs ls hp hS hl
    exact False.elim hp
  | succ n ih =>
    intro x1 x2 x3 x4 w H locs ls hp hS hl
    unfold pX11_layWays_92 at hp
    refine lv_iload hx hb dX11_layWays_92 (lv_at hl 4 rfl) ?_
    refine lv_iload_n hx hb dX11_layWays_94 rfl (lv_at hl 2 rfl) ?_
    refine lv_icmp_ge (tgt := 198) hx hb dX11_layWays_95 (by decide) (fun c_1 => ?_) (fun c_1 => ?_)
    · have hp := hp.1 c_1
      obtain ⟨x3_2, ex3_2⟩ : ∃ y : Int32, y = x3 + (1 : Int32) := ⟨_, rfl⟩
      have hp := hp x3_2 ex3_2
      refine lv_iinc (v := x3_2) (lv' := [(3, .int x3_2), (0, .ref (g.2.2 300)), (1, .int x1), (2, .int x2), (4, .int x4)]) hx hb dX11_layWays_198 hl (k := 3) rfl (by rw [ex3_2]; rfl) (by decide) rfl (fun ls hl => ?_)
      refine lv_goto (tgt := 84) hx hb dX11_layWays_201 (by decide) ?_
      exact hk84 x1 x2 x3_2 w _ _ _ hp hS (lv_sub hl [1, 2, 3, 0] rfl)
    · have hp := hp.2 c_1
      refine lv_iload hx hb dX11_layWays_98 (lv_at hl 4 rfl) ?_
      refine lv_iload_n hx hb dX11_layWays_100 rfl (lv_at hl 1 rfl) ?_
      refine lv_icmp_ne (tgt := 108) hx hb dX11_layWays_101 (by decide) (fun c_3 => ?_) (fun c_3 => ?_)
      · have hp := hp.1 c_3
        refine lv_ldcw hx hb hC.2.2.2.1 (hC.2.2.2.2.1 _ m1150) dX11_layWays_108 ?_
        exact bX11_layWays_111 hC hR ih x1 x2 x3 x4 (1000000 : Int32) w _ _ _ hp hS (lv_sub hl [0, 1, 2, 3, 4] rfl)
      · have hp := hp.2 c_3
        refine lv_iconst hx hb dX11_layWays_104 kI_0 ?_
        refine lv_goto (tgt := 111) hx hb dX11_layWays_105 (by decide) ?_
        exact bX11_layWays_111 hC hR ih x1 x2 x3 x4 (0 : Int32) w _ _ _ hp hS (lv_sub hl [0, 1, 2, 3, 4] rfl)
set_option maxHeartbeats 4000000 in
set_option maxRecDepth 100000 in
theorem bX11_layWays_84 {p : Program} {l : Launch} {e : Env} {s : State} {m : MethodId} {args : Array Value} {below : List Frame} {meth : Method} {c : Code} {Q : State → Prop} {A : Nat → Prop} {g : Gw} {post : Wd → Prop}  (hC : Cx p s m args c cX11_layWays RX11 8 g) (hR : RtV tabM p l e (rk 4) s m args below meth c Q cX11_layWays A g post)  : ∀ (n : Nat) (x1 : Int32) (x2 : Int32) (x3 : Int32) (w : Wd) (H : Heap) (locs : List Loc) (ls : Array Slot), pX11_layWays_84 post n x1 x2 x3 w → St tabM A s.heap g w H locs → lv_has ls 8 [(0, .ref (g.2.2 300)), (1, .int x1), (2, .int x2), (3, .int x3)] → W p l e (rk 4) s m args below meth c H locs 0 0 Q (F0 m 84 ls []) := by
  have hx := hC.1
  have hb := hC.2.1
  intro n
  induction n with
  | zero =>
    intro x1 x2 x3 w H locs ls hp hS hl
    exact False.elim hp
  | succ n ih =>
    intro x1 x2 x3 w H locs ls hp hS hl
    unfold pX11_layWays_84 at hp
    refine lv_iload_n hx hb dX11_layWays_84 rfl (lv_at hl 3 rfl) ?_
    refine lv_iconst hx hb dX11_layWays_85 kI_4 ?_
    refine lv_icmp_gt (tgt := 204) hx hb dX11_layWays_86 (by decide) (fun c_1 => ?_) (fun c_1 => ?_)
    · have hp := hp.1 c_1
      exact hR _ _ _ _ _ dX11_layWays_204 hp hS
    · have hp := hp.2 c_1
      refine lv_iconst hx hb dX11_layWays_89 kI_0 ?_
      refine lv_istore (lv' := [(4, .int (0 : Int32)), (0, .ref (g.2.2 300)), (1, .int x1), (2, .int x2), (3, .int x3)]) hx hb dX11_layWays_90 hl (by decide) rfl (fun ls hl => ?_)
      obtain ⟨n9, hp⟩ := hp
      exact bX11_layWays_92 hC hR ih n9 x1 x2 x3 (0 : Int32) w _ _ _ hp hS (lv_sub hl [1, 2, 3, 4, 0] rfl)
set_option maxHeartbeats 4000000 in
set_option maxRecDepth 100000 in
theorem bX11_layWays_75 {p : Program} {l : Launch} {e : Env} {s : State} {m : MethodId} {args : Array Value} {below : List Frame} {meth : Method} {c : Code} {Q : State → Prop} {A : Nat → Prop} {g : Gw} {post : Wd → Prop}  (hC : Cx p s m args c cX11_layWays RX11 8 g) (hR : RtV tabM p l e (rk 4) s m args below meth c Q cX11_layWays A g post)  {k9 : Int32 → Int32 → Int32 → Wd → Prop} (hk9 : ∀ (x1 : Int32) (x2 : Int32) (x3 : Int32) (w : Wd) (H : Heap) (locs : List Loc) (ls : Array Slot), k9 x1 x2 x3 w → St tabM A s.heap g w H locs → lv_has ls 8 [(0, .ref (g.2.2 300)), (1, .int x1), (2, .int x2), (3, .int x3)] → W p l e (rk 4) s m args below meth c H locs 0 0 Q (F0 m 9 ls [])) : ∀ (x1 : Int32) (x2 : Int32) (x3 : Int32) (t1 : Int32) (t2 : Int32) (w : Wd) (H : Heap) (locs : List Loc) (ls : Array Slot), pX11_layWays_75 k9 post x1 x2 x3 t1 t2 w → St tabM A s.heap g w H locs → lv_has ls 8 [(0, .ref (g.2.2 300)), (1, .int x1), (2, .int x2), (3, .int x3)] → W p l e (rk 4) s m args below meth c H locs 0 0 Q (F0 m 75 ls [.int t2, .int t1, .ref (g.2.2 351)]) := by
  have hx := hC.1
  have hb := hC.2.1
  intro x1 x2 x3 t1 t2 w H locs ls hp hS hl
  unfold pX11_layWays_75 at hp
  refine Sa_351 hC hS hp.1 dX11_layWays_75 (fun w_1 H locs ew_1 hS => ?_)
  have hp := hp.2
  have hp := hp w_1 ew_1
  obtain ⟨x3_2, ex3_2⟩ : ∃ y : Int32, y = x3 + (1 : Int32) := ⟨_, rfl⟩
  have hp := hp x3_2 ex3_2
  refine lv_iinc (v := x3_2) (lv' := [(3, .int x3_2), (0, .ref (g.2.2 300)), (1, .int x1), (2, .int x2)]) hx hb dX11_layWays_76 hl (k := 3) rfl (by rw [ex3_2]; rfl) (by decide) rfl (fun ls hl => ?_)
  refine lv_goto (tgt := 9) hx hb dX11_layWays_79 (by decide) ?_
  exact hk9 x1 x2 x3_2 w_1 _ _ _ hp hS (lv_sub hl [1, 2, 3, 0] rfl)
set_option maxHeartbeats 4000000 in
set_option maxRecDepth 100000 in
theorem bX11_layWays_17 {p : Program} {l : Launch} {e : Env} {s : State} {m : MethodId} {args : Array Value} {below : List Frame} {meth : Method} {c : Code} {Q : State → Prop} {A : Nat → Prop} {g : Gw} {post : Wd → Prop}  (hC : Cx p s m args c cX11_layWays RX11 8 g) (hR : RtV tabM p l e (rk 4) s m args below meth c Q cX11_layWays A g post)  {k9 : Int32 → Int32 → Int32 → Wd → Prop} (hk9 : ∀ (x1 : Int32) (x2 : Int32) (x3 : Int32) (w : Wd) (H : Heap) (locs : List Loc) (ls : Array Slot), k9 x1 x2 x3 w → St tabM A s.heap g w H locs → lv_has ls 8 [(0, .ref (g.2.2 300)), (1, .int x1), (2, .int x2), (3, .int x3)] → W p l e (rk 4) s m args below meth c H locs 0 0 Q (F0 m 9 ls [])) : ∀ (n : Nat) (x1 : Int32) (x2 : Int32) (x3 : Int32) (x4 : Int32) (w : Wd) (H : Heap) (locs : List Loc) (ls : Array Slot), pX11_layWays_17 k9 post n x1 x2 x3 x4 w → St tabM A s.heap g w H locs → lv_has ls 8 [(0, .ref (g.2.2 300)), (1, .int x1), (2, .int x2), (3, .int x3), (4, .int x4)] → W p l e (rk 4) s m args below meth c H locs 0 0 Q (F0 m 17 ls []) := by
  have hx := hC.1
  have hb := hC.2.1
  intro n
  induction n with
  | zero =>
    intro x1 x2 x3 x4 w H locs ls hp hS hl
    exact False.elim hp
  | succ n ih =>
    intro x1 x2 x3 x4 w H locs ls hp hS hl
    unfold pX11_layWays_17 at hp
    refine lv_iload hx hb dX11_layWays_17 (lv_at hl 4 rfl) ?_
    refine lv_aload_n hx hb dX11_layWays_19 rfl (lv_at hl 0 rfl) ?_
    refine q_cvI (As := []) (rest := [.int x4]) hC hS hl.1 (rX11_ways hp) cwX11_413 yvX11_ways (rcv_300 hC hS) rfl rfl (Nat.le_of_ble_eq_true rfl) (rmk (by decide) (by decide)) dX11_layWays_20 (fun r_1 w_2 H locs hp hS => ?_)
    refine lv_icmp_ge (tgt := 58) hx hb dX11_layWays_23 (by decide) (fun c_3 => ?_) (fun c_3 => ?_)
    · have hp := hp.1 c_3
      refine lv_aload_n hx hb dX11_layWays_58 rfl (lv_at hl 0 rfl) ?_
      refine G_300_50 hC hS m281 dX11_layWays_59 ?_
      refine lv_iload_n hx hb dX11_layWays_62 rfl (lv_at hl 3 rfl) ?_
      refine lv_iload_n hx hb dX11_layWays_63 rfl (lv_at hl 3 rfl) ?_
      refine lv_iload_n hx hb dX11_layWays_64 rfl (lv_at hl 1 rfl) ?_
      refine lv_icmp_ne (tgt := 72) hx hb dX11_layWays_65 (by decide) (fun c_4 => ?_) (fun c_4 => ?_)
      · have hp := hp.1 c_4
        refine lv_ldcw hx hb hC.2.2.2.1 (hC.2.2.2.2.1 _ m1150) dX11_layWays_72 ?_
        exact bX11_layWays_75 hC hR hk9 x1 x2 x3 x3 (1000000 : Int32) w_2 _ _ _ hp hS (lv_sub hl [0, 1, 2, 3] rfl)
      · have hp := hp.2 c_4
        refine lv_iconst hx hb dX11_layWays_68 kI_0 ?_
        refine lv_goto (tgt := 75) hx hb dX11_layWays_69 (by decide) ?_
        exact bX11_layWays_75 hC hR hk9 x1 x2 x3 x3 (0 : Int32) w_2 _ _ _ hp hS (lv_sub hl [0, 1, 2, 3] rfl)
    · have hp := hp.2 c_3
      refine lv_aload_n hx hb dX11_layWays_26 rfl (lv_at hl 0 rfl) ?_
      refine G_300_51 hC hS m283 dX11_layWays_27 ?_
      refine lv_bipush hx hb dX11_layWays_30 kB_16 ?_
      refine lv_iload_n hx hb dX11_layWays_32 rfl (lv_at hl 3 rfl) ?_
      refine lv_imul hx hb dX11_layWays_33 ?_
      refine lv_iload hx hb dX11_layWays_34 (lv_at hl 4 rfl) ?_
      refine lv_iadd hx hb dX11_layWays_36 ?_
      refine lv_aload_n hx hb dX11_layWays_37 rfl (lv_at hl 0 rfl) ?_
      refine lv_iload_n hx hb dX11_layWays_38 rfl (lv_at hl 3 rfl) ?_
      refine lv_iload hx hb dX11_layWays_39 (lv_at hl 4 rfl) ?_
      refine lv_iconst hx hb dX11_layWays_41 kI_4 ?_
      refine lv_idiv hx hb dX11_layWays_42 (by decide) ?_
      refine lv_iload hx hb dX11_layWays_43 (lv_at hl 4 rfl) ?_
      refine lv_iconst hx hb dX11_layWays_45 kI_4 ?_
      refine lv_irem hx hb dX11_layWays_46 (by decide) ?_
      refine lv_iconst hx hb dX11_layWays_47 kI_0 ?_
      refine q_cvI (As := [.int x3, .int (x4 / (4 : Int32)), .int (x4 - x4 / (4 : Int32) * (4 : Int32)), .int (0 : Int32)]) (rest := [.int (((16 : Int32) * x3) + x4), .ref (g.2.2 352)]) hC hS hl.1 (rX11_castOf hp) cwX11_367 yvX11_castOf (rcv_300 hC hS) rfl rfl (Nat.le_of_ble_eq_true rfl) (rmk (by decide) (by decide)) dX11_layWays_48 (fun r_5 w_6 H locs hp hS => ?_)
      refine Sa_352 hC hS hp.1 dX11_layWays_51 (fun w_7 H locs ew_7 hS => ?_)
      have hp := hp.2
      have hp := hp w_7 ew_7
      obtain ⟨x4_8, ex4_8⟩ : ∃ y : Int32, y = x4 + (1 : Int32) := ⟨_, rfl⟩
      have hp := hp x4_8 ex4_8
      refine lv_iinc (v := x4_8) (lv' := [(4, .int x4_8), (0, .ref (g.2.2 300)), (1, .int x1), (2, .int x2), (3, .int x3)]) hx hb dX11_layWays_52 hl (k := 4) rfl (by rw [ex4_8]; rfl) (by decide) rfl (fun ls hl => ?_)
      refine lv_goto (tgt := 17) hx hb dX11_layWays_55 (by decide) ?_
      exact ih x1 x2 x3 x4_8 w_7 _ _ _ hp hS (lv_sub hl [1, 2, 3, 4, 0] rfl)
set_option maxHeartbeats 4000000 in
set_option maxRecDepth 100000 in
theorem bX11_layWays_9 {p : Program} {l : Launch} {e : Env} {s : State} {m : MethodId} {args : Array Value} {below : List Frame} {meth : Method} {c : Code} {Q : State → Prop} {A : Nat → Prop} {g : Gw} {post : Wd → Prop}  (hC : Cx p s m args c cX11_layWays RX11 8 g) (hR : RtV tabM p l e (rk 4) s m args below meth c Q cX11_layWays A g post)  : ∀ (n : Nat) (x1 : Int32) (x2 : Int32) (x3 : Int32) (w : Wd) (H : Heap) (locs : List Loc) (ls : Array Slot), pX11_layWays_9 post n x1 x2 x3 w → St tabM A s.heap g w H locs → lv_has ls 8 [(0, .ref (g.2.2 300)), (1, .int x1), (2, .int x2), (3, .int x3)] → W p l e (rk 4) s m args below meth c H locs 0 0 Q (F0 m 9 ls []) := by
  have hx := hC.1
  have hb := hC.2.1
  intro n
  induction n with
  | zero =>
    intro x1 x2 x3 w H locs ls hp hS hl
    exact False.elim hp
  | succ n ih =>
    intro x1 x2 x3 w H locs ls hp hS hl
    unfold pX11_layWays_9 at hp
    refine lv_iload_n hx hb dX11_layWays_9 rfl (lv_at hl 3 rfl) ?_
    refine lv_iload_n hx hb dX11_layWays_10 rfl (lv_at hl 2 rfl) ?_
    refine lv_icmp_ge (tgt := 82) hx hb dX11_layWays_11 (by decide) (fun c_1 => ?_) (fun c_1 => ?_)
    · have hp := hp.1 c_1
      refine lv_iconst hx hb dX11_layWays_82 kI_1 ?_
      refine lv_istore_n (lv' := [(3, .int (1 : Int32)), (0, .ref (g.2.2 300)), (1, .int x1), (2, .int x2)]) hx hb dX11_layWays_83 rfl hl (by decide) rfl (fun ls hl => ?_)
      obtain ⟨n9, hp⟩ := hp
      exact bX11_layWays_84 hC hR n9 x1 x2 (1 : Int32) w _ _ _ hp hS (lv_sub hl [1, 2, 3, 0] rfl)
    · have hp := hp.2 c_1
      refine lv_iconst hx hb dX11_layWays_14 kI_0 ?_
      refine lv_istore (lv' := [(4, .int (0 : Int32)), (0, .ref (g.2.2 300)), (1, .int x1), (2, .int x2), (3, .int x3)]) hx hb dX11_layWays_15 hl (by decide) rfl (fun ls hl => ?_)
      obtain ⟨n9, hp⟩ := hp
      exact bX11_layWays_17 hC hR ih n9 x1 x2 x3 (0 : Int32) w _ _ _ hp hS (lv_sub hl [1, 2, 3, 4, 0] rfl)
set_option maxHeartbeats 4000000 in
set_option maxRecDepth 100000 in
theorem rX11_layWays {l : Launch} {g : Gw} {w : Wd} {post : Wd → Prop}   {x1 : Int32} (hp : pX11_layWays post x1 w) : MtV tabM l yX11_layWays cX11_layWays 8 none 4 g w [.ref (g.2.2 300), .int x1] post := by
  refine q_entV tabM_nd (by decide) rfl (Nat.le_of_ble_eq_true rfl) ?_
  intro p e s m args below meth c A Q ls hC hR hS hl
  have hx := hC.1
  have hb := hC.2.1
  have hl : lv_has ls 8 [(0, .ref (g.2.2 300)), (1, .int x1)] := hl
  unfold pX11_layWays at hp
  refine lv_iconst hx hb dX11_layWays_0 kI_1 ?_
  refine lv_aload_n hx hb dX11_layWays_1 rfl (lv_at hl 0 rfl) ?_
  refine q_cvI (As := []) (rest := [.int (1 : Int32)]) hC hS hl.1 (rX11_width hp) cwX11_342 yvX11_width (rcv_300 hC hS) rfl rfl (Nat.le_of_ble_eq_true rfl) (rmk (by decide) (by decide)) dX11_layWays_2 (fun r_1 w_2 H locs hp hS => ?_)
  refine lv_ishl hx hb dX11_layWays_5 ?_
  refine lv_topi (fun x2_3 ex2_3 => ?_)
  have hp := hp x2_3 ex2_3
  refine lv_istore_n (lv' := [(2, .int x2_3), (0, .ref (g.2.2 300)), (1, .int x1)]) hx hb dX11_layWays_6 rfl hl (by decide) rfl (fun ls hl => ?_)
  refine lv_iconst hx hb dX11_layWays_7 kI_0 ?_
  refine lv_istore_n (lv' := [(3, .int (0 : Int32)), (2, .int x2_3), (0, .ref (g.2.2 300)), (1, .int x1)]) hx hb dX11_layWays_8 rfl hl (by decide) rfl (fun ls hl => ?_)
  obtain ⟨n9, hp⟩ := hp
  exact bX11_layWays_9 hC hR n9 x1 x2_3 (0 : Int32) w_2 _ _ _ hp hS (lv_sub hl [2, 3, 1, 0] rfl)
def pX11_wax_141 (k121 : Int32 → Int32 → Int32 → Wd → Prop) (post : Int32 → Wd → Prop) : Nat → Int32 → Int32 → Int32 → Int32 → Wd → Prop
  | 0, _, _, _, _, _ => False
  | n + 1, x3, x4, x5, x6, w => vp_in (((16 : Int32) * x4) + x6) 65536 ∧ vp_in (((4096 : Int32) * (x5 - (1 : Int32))) + (w.2.1 352 (((16 : Int32) * x4) + x6).toNatClampNeg)) 20480 ∧ vp_in (((4096 : Int32) * x5) + x4) 20480 ∧ ((((w.2.1 351 (((4096 : Int32) * (x5 - (1 : Int32))) + (w.2.1 352 (((16 : Int32) * x4) + x6).toNatClampNeg)).toNatClampNeg) + (1 : Int32)) + (x6 - x6 / (4 : Int32) * (4 : Int32))) = (w.2.1 351 (((4096 : Int32) * x5) + x4).toNatClampNeg) → (vp_in (w.1 300 48) 12 ∧ ∀ w_2, w_2 = sA w 348 (w.1 300 48).toNatClampNeg (((10 : Int32) * (x6 / (4 : Int32))) + (x6 - x6 / (4 : Int32) * (4 : Int32))) → ∀ w_3, w_3 = sI w_2 300 48 ((w_2.1 300 48) + (1 : Int32)) → vp_in (((16 : Int32) * x4) + x6) 65536 ∧ ∀ x4_4, x4_4 = (w_3.2.1 352 (((16 : Int32) * x4) + x6).toNatClampNeg) → ∀ x5_5, x5_5 = x5 + (-1 : Int32) → k121 x3 x4_4 x5_5 w_3)) ∧ (¬ (((w.2.1 351 (((4096 : Int32) * (x5 - (1 : Int32))) + (w.2.1 352 (((16 : Int32) * x4) + x6).toNatClampNeg)).toNatClampNeg) + (1 : Int32)) + (x6 - x6 / (4 : Int32) * (4 : Int32))) = (w.2.1 351 (((4096 : Int32) * x5) + x4).toNatClampNeg) → (∀ x6_6, x6_6 = x6 + (1 : Int32) → pX11_wax_141 k121 post n x3 x4 x5 x6_6 w))
def pX11_wax_121 (post : Int32 → Wd → Prop) : Nat → Int32 → Int32 → Int32 → Wd → Prop
  | 0, _, _, _, _ => False
  | n + 1, x3, x4, x5, w => vp_in (((4096 : Int32) * x5) + x4) 20480 ∧ ((w.2.1 351 (((4096 : Int32) * x5) + x4).toNatClampNeg) ≤ 0 → (post x3 w)) ∧ (¬ (w.2.1 351 (((4096 : Int32) * x5) + x4).toNatClampNeg) ≤ 0 → (∃ n9, pX11_wax_141 (pX11_wax_121 post n) post n9 x3 x4 x5 (0 : Int32) w))
def pX11_wax_69 (k24 : Int32 → Int32 → Wd → Prop) (post : Int32 → Wd → Prop) (x2 : Int32) (x3 : Int32) (w : Wd) : Prop := ∀ x3_1, x3_1 = x3 + (1 : Int32) → k24 x2 x3_1 w
def pX11_wax_24 (post : Int32 → Wd → Prop) : Nat → Int32 → Int32 → Wd → Prop
  | 0, _, _, _ => False
  | n + 1, x2, x3, w => ((w.2.1 341 (216 : Int32).toNatClampNeg) ≤ x3 → (pX11_rowOf (fun r_2 w_3 => vp_in ((16384 : Int32) + r_2) 20480 ∧ ∀ x3_4, x3_4 = (w_3.2.1 351 ((16384 : Int32) + r_2).toNatClampNeg) → (x3_4 < (1000000 : Int32) → (∀ w_6, w_6 = sA w_3 348 (0 : Int32).toNatClampNeg x2 → ∀ w_7, w_7 = sI w_6 300 48 (1 : Int32) → pX11_rowOf (fun r_8 w_9 => ∃ n9, pX11_wax_121 post n9 x3_4 r_8 (4 : Int32) w_9) x2 w_7)) ∧ (¬ x3_4 < (1000000 : Int32) → (post (-1 : Int32) w_3))) x2 w)) ∧ (¬ (w.2.1 341 (216 : Int32).toNatClampNeg) ≤ x3 → (pX11_rowOf (fun r_10 w_11 => vp_in ((16384 : Int32) + r_10) 20480 ∧ pX11_rowOf (fun r_12 w_13 => vp_in ((16384 : Int32) + r_12) 20480 ∧ ((w_13.2.1 351 ((16384 : Int32) + r_12).toNatClampNeg) ≤ (w_11.2.1 351 ((16384 : Int32) + r_10).toNatClampNeg) → (pX11_wax_69 (pX11_wax_24 post n) post x2 x3 w_13)) ∧ (¬ (w_13.2.1 351 ((16384 : Int32) + r_12).toNatClampNeg) ≤ (w_11.2.1 351 ((16384 : Int32) + r_10).toNatClampNeg) → (pX11_wax_69 (pX11_wax_24 post n) post x3 x3 w_13))) x2 w_11) x3 w))
def pX11_wax (post : Int32 → Wd → Prop) (x1 : Int32) (w : Wd) : Prop := ∀ w_1, w_1 = sI w 300 48 (0 : Int32) → pX11_isRow (fun r_2 w_3 => (¬ r_2 = 0 → (pX11_layWays (fun w_5 => ∃ n9, pX11_wax_24 post n9 (0 : Int32) (1 : Int32) w_5) x1 w_3)) ∧ (r_2 = 0 → (post (-1 : Int32) w_3))) x1 w_1
set_option maxHeartbeats 4000000 in
set_option maxRecDepth 100000 in
theorem bX11_wax_141 {p : Program} {l : Launch} {e : Env} {s : State} {m : MethodId} {args : Array Value} {below : List Frame} {meth : Method} {c : Code} {Q : State → Prop} {A : Nat → Prop} {g : Gw} {post : Int32 → Wd → Prop}  (hC : Cx p s m args c cX11_wax RX11 7 g) (hR : RtI tabM p l e (rk 5) s m args below meth c Q cX11_wax A g post)  {k121 : Int32 → Int32 → Int32 → Wd → Prop} (hk121 : ∀ (x3 : Int32) (x4 : Int32) (x5 : Int32) (w : Wd) (H : Heap) (locs : List Loc) (ls : Array Slot), k121 x3 x4 x5 w → St tabM A s.heap g w H locs → lv_has ls 7 [(0, .ref (g.2.2 300)), (3, .int x3), (4, .int x4), (5, .int x5)] → W p l e (rk 5) s m args below meth c H locs 0 0 Q (F0 m 121 ls [])) : ∀ (n : Nat) (x3 : Int32) (x4 : Int32) (x5 : Int32) (x6 : Int32) (w : Wd) (H : Heap) (locs : List Loc) (ls : Array Slot), pX11_wax_141 k121 post n x3 x4 x5 x6 w → St tabM A s.heap g w H locs → lv_has ls 7 [(0, .ref (g.2.2 300)), (3, .int x3), (4, .int x4), (5, .int x5), (6, .int x6)] → W p l e (rk 5) s m args below meth c H locs 0 0 Q (F0 m 141 ls []) := by
  have hx := hC.1
  have hb := hC.2.1
  intro n
  induction n with
  | zero =>
    intro x3 x4 x5 x6 w H locs ls hp hS hl
    exact False.elim hp
  | succ n ih =>
    intro x3 x4 x5 x6 w H locs ls hp hS hl
    unfold pX11_wax_141 at hp
    refine lv_aload_n hx hb dX11_wax_141 rfl (lv_at hl 0 rfl) ?_
    refine G_300_50 hC hS m281 dX11_wax_142 ?_
    refine lv_sipush hx hb dX11_wax_145 kS_4096 ?_
    refine lv_iload hx hb dX11_wax_148 (lv_at hl 3 rfl) ?_
    refine lv_iconst hx hb dX11_wax_150 kI_1 ?_
    refine lv_isub hx hb dX11_wax_151 ?_
    refine lv_imul hx hb dX11_wax_152 ?_
    refine lv_aload_n hx hb dX11_wax_153 rfl (lv_at hl 0 rfl) ?_
    refine G_300_51 hC hS m283 dX11_wax_154 ?_
    refine lv_bipush hx hb dX11_wax_157 kB_16 ?_
    refine lv_iload hx hb dX11_wax_159 (lv_at hl 2 rfl) ?_
    refine lv_imul hx hb dX11_wax_161 ?_
    refine lv_iload hx hb dX11_wax_162 (lv_at hl 4 rfl) ?_
    refine lv_iadd hx hb dX11_wax_164 ?_
    refine La_352 hC hS hp.1 dX11_wax_165 ?_
    have hp := hp.2
    refine lv_iadd hx hb dX11_wax_166 ?_
    refine La_351 hC hS hp.1 dX11_wax_167 ?_
    have hp := hp.2
    refine lv_iconst hx hb dX11_wax_168 kI_1 ?_
    refine lv_iadd hx hb dX11_wax_169 ?_
    refine lv_iload hx hb dX11_wax_170 (lv_at hl 4 rfl) ?_
    refine lv_iconst hx hb dX11_wax_172 kI_4 ?_
    refine lv_irem hx hb dX11_wax_173 (by decide) ?_
    refine lv_iadd hx hb dX11_wax_174 ?_
    refine lv_aload_n hx hb dX11_wax_175 rfl (lv_at hl 0 rfl) ?_
    refine G_300_50 hC hS m281 dX11_wax_176 ?_
    refine lv_sipush hx hb dX11_wax_179 kS_4096 ?_
    refine lv_iload hx hb dX11_wax_182 (lv_at hl 3 rfl) ?_
    refine lv_imul hx hb dX11_wax_184 ?_
    refine lv_iload hx hb dX11_wax_185 (lv_at hl 2 rfl) ?_
    refine lv_iadd hx hb dX11_wax_187 ?_
    refine La_351 hC hS hp.1 dX11_wax_188 ?_
    have hp := hp.2
    refine lv_icmp_eq (tgt := 198) hx hb dX11_wax_189 (by decide) (fun c_1 => ?_) (fun c_1 => ?_)
    · have hp := hp.1 c_1
      refine lv_aload_n hx hb dX11_wax_198 rfl (lv_at hl 0 rfl) ?_
      refine G_300_47 hC hS m279 dX11_wax_199 ?_
      refine lv_aload_n hx hb dX11_wax_202 rfl (lv_at hl 0 rfl) ?_
      refine G_300_48 hC hS m312 dX11_wax_203 ?_
      refine lv_bipush hx hb dX11_wax_206 kB_10 ?_
      refine lv_iload hx hb dX11_wax_208 (lv_at hl 4 rfl) ?_
      refine lv_iconst hx hb dX11_wax_210 kI_4 ?_
      refine lv_idiv hx hb dX11_wax_211 (by decide) ?_
      refine lv_imul hx hb dX11_wax_212 ?_
      refine lv_iload hx hb dX11_wax_213 (lv_at hl 4 rfl) ?_
      refine lv_iconst hx hb dX11_wax_215 kI_4 ?_
      refine lv_irem hx hb dX11_wax_216 (by decide) ?_
      refine lv_iadd hx hb dX11_wax_217 ?_
      refine Sa_348 hC hS hp.1 dX11_wax_218 (fun w_2 H locs ew_2 hS => ?_)
      have hp := hp.2
      have hp := hp w_2 ew_2
      refine lv_aload_n hx hb dX11_wax_219 rfl (lv_at hl 0 rfl) ?_
      refine lv_dup hx hb dX11_wax_220 rfl ?_
      refine G_300_48 hC hS m312 dX11_wax_221 ?_
      refine lv_iconst hx hb dX11_wax_224 kI_1 ?_
      refine lv_iadd hx hb dX11_wax_225 ?_
      refine P_300_48 hC hS m312 dX11_wax_226 (fun w_3 H locs ew_3 hS => ?_)
      have hp := hp w_3 ew_3
      refine lv_aload_n hx hb dX11_wax_229 rfl (lv_at hl 0 rfl) ?_
      refine G_300_51 hC hS m283 dX11_wax_230 ?_
      refine lv_bipush hx hb dX11_wax_233 kB_16 ?_
      refine lv_iload hx hb dX11_wax_235 (lv_at hl 2 rfl) ?_
      refine lv_imul hx hb dX11_wax_237 ?_
      refine lv_iload hx hb dX11_wax_238 (lv_at hl 4 rfl) ?_
      refine lv_iadd hx hb dX11_wax_240 ?_
      refine La_352 hC hS hp.1 dX11_wax_241 ?_
      have hp := hp.2
      refine lv_topi (fun x4_4 ex4_4 => ?_)
      have hp := hp x4_4 ex4_4
      refine lv_istore (lv' := [(4, .int x4_4), (0, .ref (g.2.2 300)), (3, .int x3), (5, .int x5), (6, .int x6)]) hx hb dX11_wax_242 hl (by decide) rfl (fun ls hl => ?_)
      obtain ⟨x5_5, ex5_5⟩ : ∃ y : Int32, y = x5 + (-1 : Int32) := ⟨_, rfl⟩
      have hp := hp x5_5 ex5_5
      refine lv_iinc (v := x5_5) (lv' := [(5, .int x5_5), (4, .int x4_4), (0, .ref (g.2.2 300)), (3, .int x3), (6, .int x6)]) hx hb dX11_wax_244 hl (k := 3) rfl (by rw [ex5_5]; rfl) (by decide) rfl (fun ls hl => ?_)
      refine lv_goto (tgt := 121) hx hb dX11_wax_247 (by decide) ?_
      exact hk121 x3 x4_4 x5_5 w_3 _ _ _ hp hS (lv_sub hl [2, 3, 1, 0] rfl)
    · have hp := hp.2 c_1
      obtain ⟨x6_6, ex6_6⟩ : ∃ y : Int32, y = x6 + (1 : Int32) := ⟨_, rfl⟩
      have hp := hp x6_6 ex6_6
      refine lv_iinc (v := x6_6) (lv' := [(6, .int x6_6), (0, .ref (g.2.2 300)), (3, .int x3), (4, .int x4), (5, .int x5)]) hx hb dX11_wax_192 hl (k := 4) rfl (by rw [ex6_6]; rfl) (by decide) rfl (fun ls hl => ?_)
      refine lv_goto (tgt := 141) hx hb dX11_wax_195 (by decide) ?_
      exact ih x3 x4 x5 x6_6 w _ _ _ hp hS (lv_sub hl [1, 2, 3, 4, 0] rfl)
set_option maxHeartbeats 4000000 in
set_option maxRecDepth 100000 in
theorem bX11_wax_121 {p : Program} {l : Launch} {e : Env} {s : State} {m : MethodId} {args : Array Value} {below : List Frame} {meth : Method} {c : Code} {Q : State → Prop} {A : Nat → Prop} {g : Gw} {post : Int32 → Wd → Prop}  (hC : Cx p s m args c cX11_wax RX11 7 g) (hR : RtI tabM p l e (rk 5) s m args below meth c Q cX11_wax A g post)  : ∀ (n : Nat) (x3 : Int32) (x4 : Int32) (x5 : Int32) (w : Wd) (H : Heap) (locs : List Loc) (ls : Array Slot), pX11_wax_121 post n x3 x4 x5 w → St tabM A s.heap g w H locs → lv_has ls 7 [(0, .ref (g.2.2 300)), (3, .int x3), (4, .int x4), (5, .int x5)] → W p l e (rk 5) s m args below meth c H locs 0 0 Q (F0 m 121 ls []) := by
  have hx := hC.1
  have hb := hC.2.1
  intro n
  induction n with
  | zero =>
    intro x3 x4 x5 w H locs ls hp hS hl
    exact False.elim hp
  | succ n ih =>
    intro x3 x4 x5 w H locs ls hp hS hl
    unfold pX11_wax_121 at hp
    refine lv_aload_n hx hb dX11_wax_121 rfl (lv_at hl 0 rfl) ?_
    refine G_300_50 hC hS m281 dX11_wax_122 ?_
    refine lv_sipush hx hb dX11_wax_125 kS_4096 ?_
    refine lv_iload hx hb dX11_wax_128 (lv_at hl 3 rfl) ?_
    refine lv_imul hx hb dX11_wax_130 ?_
    refine lv_iload hx hb dX11_wax_131 (lv_at hl 2 rfl) ?_
    refine lv_iadd hx hb dX11_wax_133 ?_
    refine La_351 hC hS hp.1 dX11_wax_134 ?_
    have hp := hp.2
    refine lv_if_le (tgt := 250) hx hb dX11_wax_135 (by decide) (fun c_1 => ?_) (fun c_1 => ?_)
    · have hp := hp.1 c_1
      refine lv_iload_n hx hb dX11_wax_250 rfl (lv_at hl 1 rfl) ?_
      exact hR _ _ _ _ _ _ dX11_wax_251 hp hS
    · have hp := hp.2 c_1
      refine lv_iconst hx hb dX11_wax_138 kI_0 ?_
      refine lv_istore (lv' := [(6, .int (0 : Int32)), (0, .ref (g.2.2 300)), (3, .int x3), (4, .int x4), (5, .int x5)]) hx hb dX11_wax_139 hl (by decide) rfl (fun ls hl => ?_)
      obtain ⟨n9, hp⟩ := hp
      exact bX11_wax_141 hC hR ih n9 x3 x4 x5 (0 : Int32) w _ _ _ hp hS (lv_sub hl [1, 2, 3, 4, 0] rfl)
set_option maxHeartbeats 4000000 in
set_option maxRecDepth 100000 in
theorem bX11_wax_69 {p : Program} {l : Launch} {e : Env} {s : State} {m : MethodId} {args : Array Value} {below : List Frame} {meth : Method} {c : Code} {Q : State → Prop} {A : Nat → Prop} {g : Gw} {post : Int32 → Wd → Prop}  (hC : Cx p s m args c cX11_wax RX11 7 g) (hR : RtI tabM p l e (rk 5) s m args below meth c Q cX11_wax A g post)  {k24 : Int32 → Int32 → Wd → Prop} (hk24 : ∀ (x2 : Int32) (x3 : Int32) (w : Wd) (H : Heap) (locs : List Loc) (ls : Array Slot), k24 x2 x3 w → St tabM A s.heap g w H locs → lv_has ls 7 [(0, .ref (g.2.2 300)), (2, .int x2), (3, .int x3)] → W p l e (rk 5) s m args below meth c H locs 0 0 Q (F0 m 24 ls [])) : ∀ (x2 : Int32) (x3 : Int32) (w : Wd) (H : Heap) (locs : List Loc) (ls : Array Slot), pX11_wax_69 k24 post x2 x3 w → St tabM A s.heap g w H locs → lv_has ls 7 [(0, .ref (g.2.2 300)), (2, .int x2), (3, .int x3)] → W p l e (rk 5) s m args below meth c H locs 0 0 Q (F0 m 69 ls []) := by
  have hx := hC.1
  have hb := hC.2.1
  intro x2 x3 w H locs ls hp hS hl
  unfold pX11_wax_69 at hp
  obtain ⟨x3_1, ex3_1⟩ : ∃ y : Int32, y = x3 + (1 : Int32) := ⟨_, rfl⟩
  have hp := hp x3_1 ex3_1
  refine lv_iinc (v := x3_1) (lv' := [(3, .int x3_1), (0, .ref (g.2.2 300)), (2, .int x2)]) hx hb dX11_wax_69 hl (k := 2) rfl (by rw [ex3_1]; rfl) (by decide) rfl (fun ls hl => ?_)
  refine lv_goto (tgt := 24) hx hb dX11_wax_72 (by decide) ?_
  exact hk24 x2 x3_1 w _ _ _ hp hS (lv_sub hl [1, 2, 0] rfl)
set_option maxHeartbeats 4000000 in
set_option maxRecDepth 100000 in
theorem bX11_wax_24 {p : Program} {l : Launch} {e : Env} {s : State} {m : MethodId} {args : Array Value} {below : List Frame} {meth : Method} {c : Code} {Q : State → Prop} {A : Nat → Prop} {g : Gw} {post : Int32 → Wd → Prop}  (hC : Cx p s m args c cX11_wax RX11 7 g) (hR : RtI tabM p l e (rk 5) s m args below meth c Q cX11_wax A g post)  : ∀ (n : Nat) (x2 : Int32) (x3 : Int32) (w : Wd) (H : Heap) (locs : List Loc) (ls : Array Slot), pX11_wax_24 post n x2 x3 w → St tabM A s.heap g w H locs → lv_has ls 7 [(0, .ref (g.2.2 300)), (2, .int x2), (3, .int x3)] → W p l e (rk 5) s m args below meth c H locs 0 0 Q (F0 m 24 ls []) := by
  have hx := hC.1
  have hb := hC.2.1
  intro n
  induction n with
  | zero =>
    intro x2 x3 w H locs ls hp hS hl
    exact False.elim hp
  | succ n ih =>
    intro x2 x3 w H locs ls hp hS hl
    unfold pX11_wax_24 at hp
    refine lv_iload_n hx hb dX11_wax_24 rfl (lv_at hl 2 rfl) ?_
    refine lv_aload_n hx hb dX11_wax_25 rfl (lv_at hl 0 rfl) ?_
    refine G_300_40 hC hS m274 dX11_wax_26 ?_
    refine lv_sipush hx hb dX11_wax_29 kS_216 ?_
    refine La_341 hC hS (by unfold vp_in; decide) dX11_wax_32 ?_
    refine lv_icmp_ge (tgt := 75) hx hb dX11_wax_33 (by decide) (fun c_1 => ?_) (fun c_1 => ?_)
    · have hp := hp.1 c_1
      refine lv_aload_n hx hb dX11_wax_75 rfl (lv_at hl 0 rfl) ?_
      refine G_300_50 hC hS m281 dX11_wax_76 ?_
      refine lv_sipush hx hb dX11_wax_79 kS_16384 ?_
      refine lv_aload_n hx hb dX11_wax_82 rfl (lv_at hl 0 rfl) ?_
      refine lv_iload_n hx hb dX11_wax_83 rfl (lv_at hl 1 rfl) ?_
      refine q_cvI (As := [.int x2]) (rest := [.int (16384 : Int32), .ref (g.2.2 351)]) hC hS hl.1 (rX11_rowOf hp) cwX11_392 yvX11_rowOf (rcv_300 hC hS) rfl rfl (Nat.le_of_ble_eq_true rfl) (rmk (by decide) (by decide)) dX11_wax_84 (fun r_2 w_3 H locs hp hS => ?_)
      refine lv_iadd hx hb dX11_wax_87 ?_
      refine La_351 hC hS hp.1 dX11_wax_88 ?_
      have hp := hp.2
      refine lv_topi (fun x3_4 ex3_4 => ?_)
      have hp := hp x3_4 ex3_4
      refine lv_istore_n (lv' := [(3, .int x3_4), (0, .ref (g.2.2 300)), (2, .int x2)]) hx hb dX11_wax_89 rfl hl (by decide) rfl (fun ls hl => ?_)
      refine lv_iload_n hx hb dX11_wax_90 rfl (lv_at hl 0 rfl) ?_
      refine lv_ldcw hx hb hC.2.2.2.1 (hC.2.2.2.2.1 _ m1150) dX11_wax_91 ?_
      refine lv_icmp_lt (tgt := 99) hx hb dX11_wax_94 (by decide) (fun c_5 => ?_) (fun c_5 => ?_)
      · have hp := hp.1 c_5
        refine lv_aload_n hx hb dX11_wax_99 rfl (lv_at hl 1 rfl) ?_
        refine G_300_47 hC hS m279 dX11_wax_100 ?_
        refine lv_iconst hx hb dX11_wax_103 kI_0 ?_
        refine lv_iload_n hx hb dX11_wax_104 rfl (lv_at hl 2 rfl) ?_
        refine Sa_348 hC hS (by unfold vp_in; decide) dX11_wax_105 (fun w_6 H locs ew_6 hS => ?_)
        have hp := hp w_6 ew_6
        refine lv_aload_n hx hb dX11_wax_106 rfl (lv_at hl 1 rfl) ?_
        refine lv_iconst hx hb dX11_wax_107 kI_1 ?_
        refine P_300_48 hC hS m312 dX11_wax_108 (fun w_7 H locs ew_7 hS => ?_)
        have hp := hp w_7 ew_7
        refine lv_aload_n hx hb dX11_wax_111 rfl (lv_at hl 1 rfl) ?_
        refine lv_iload_n hx hb dX11_wax_112 rfl (lv_at hl 2 rfl) ?_
        refine q_cvI (As := [.int x2]) (rest := []) hC hS hl.1 (rX11_rowOf hp) cwX11_392 yvX11_rowOf (rcv_300 hC hS) rfl rfl (Nat.le_of_ble_eq_true rfl) (rmk (by decide) (by decide)) dX11_wax_113 (fun r_8 w_9 H locs hp hS => ?_)
        refine lv_istore (lv' := [(4, .int r_8), (3, .int x3_4), (0, .ref (g.2.2 300)), (2, .int x2)]) hx hb dX11_wax_116 hl (by decide) rfl (fun ls hl => ?_)
        refine lv_iconst hx hb dX11_wax_118 kI_4 ?_
        refine lv_istore (lv' := [(5, .int (4 : Int32)), (4, .int r_8), (3, .int x3_4), (0, .ref (g.2.2 300)), (2, .int x2)]) hx hb dX11_wax_119 hl (by decide) rfl (fun ls hl => ?_)
        obtain ⟨n9, hp⟩ := hp
        exact bX11_wax_121 hC hR n9 x3_4 r_8 (4 : Int32) w_9 _ _ _ hp hS (lv_sub hl [3, 2, 1, 0] rfl)
      · have hp := hp.2 c_5
        refine lv_iconst hx hb dX11_wax_97 kI_m1 ?_
        exact hR _ _ _ _ _ _ dX11_wax_98 hp hS
    · have hp := hp.2 c_1
      refine lv_aload_n hx hb dX11_wax_36 rfl (lv_at hl 0 rfl) ?_
      refine G_300_50 hC hS m281 dX11_wax_37 ?_
      refine lv_sipush hx hb dX11_wax_40 kS_16384 ?_
      refine lv_aload_n hx hb dX11_wax_43 rfl (lv_at hl 0 rfl) ?_
      refine lv_iload_n hx hb dX11_wax_44 rfl (lv_at hl 2 rfl) ?_
      refine q_cvI (As := [.int x3]) (rest := [.int (16384 : Int32), .ref (g.2.2 351)]) hC hS hl.1 (rX11_rowOf hp) cwX11_392 yvX11_rowOf (rcv_300 hC hS) rfl rfl (Nat.le_of_ble_eq_true rfl) (rmk (by decide) (by decide)) dX11_wax_45 (fun r_10 w_11 H locs hp hS => ?_)
      refine lv_iadd hx hb dX11_wax_48 ?_
      refine La_351 hC hS hp.1 dX11_wax_49 ?_
      have hp := hp.2
      refine lv_aload_n hx hb dX11_wax_50 rfl (lv_at hl 0 rfl) ?_
      refine G_300_50 hC hS m281 dX11_wax_51 ?_
      refine lv_sipush hx hb dX11_wax_54 kS_16384 ?_
      refine lv_aload_n hx hb dX11_wax_57 rfl (lv_at hl 0 rfl) ?_
      refine lv_iload_n hx hb dX11_wax_58 rfl (lv_at hl 1 rfl) ?_
      refine q_cvI (As := [.int x2]) (rest := [.int (16384 : Int32), .ref (g.2.2 351), .int (w_11.2.1 351 ((16384 : Int32) + r_10).toNatClampNeg)]) hC hS hl.1 (rX11_rowOf hp) cwX11_392 yvX11_rowOf (rcv_300 hC hS) rfl rfl (Nat.le_of_ble_eq_true rfl) (rmk (by decide) (by decide)) dX11_wax_59 (fun r_12 w_13 H locs hp hS => ?_)
      refine lv_iadd hx hb dX11_wax_62 ?_
      refine La_351 hC hS hp.1 dX11_wax_63 ?_
      have hp := hp.2
      refine lv_icmp_ge (tgt := 69) hx hb dX11_wax_64 (by decide) (fun c_14 => ?_) (fun c_14 => ?_)
      · have hp := hp.1 c_14
        exact bX11_wax_69 hC hR ih x2 x3 w_13 _ _ _ hp hS (lv_sub hl [0, 1, 2] rfl)
      · have hp := hp.2 c_14
        refine lv_iload_n hx hb dX11_wax_67 rfl (lv_at hl 2 rfl) ?_
        refine lv_istore_n (lv' := [(2, .int x3), (0, .ref (g.2.2 300)), (3, .int x3)]) hx hb dX11_wax_68 rfl hl (by decide) rfl (fun ls hl => ?_)
        exact bX11_wax_69 hC hR ih x3 x3 w_13 _ _ _ hp hS (lv_sub hl [1, 0, 2] rfl)
set_option maxHeartbeats 4000000 in
set_option maxRecDepth 100000 in
theorem rX11_wax {l : Launch} {g : Gw} {w : Wd} {post : Int32 → Wd → Prop}   {x1 : Int32} (hp : pX11_wax post x1 w) : MtI tabM l yX11_wax cX11_wax 7 (some .int) 5 g w [.ref (g.2.2 300), .int x1] post := by
  refine q_entI tabM_nd (by decide) rfl (Nat.le_of_ble_eq_true rfl) ?_
  intro p e s m args below meth c A Q ls hC hR hS hl
  have hx := hC.1
  have hb := hC.2.1
  have hl : lv_has ls 7 [(0, .ref (g.2.2 300)), (1, .int x1)] := hl
  unfold pX11_wax at hp
  refine lv_aload_n hx hb dX11_wax_0 rfl (lv_at hl 0 rfl) ?_
  refine lv_iconst hx hb dX11_wax_1 kI_0 ?_
  refine P_300_48 hC hS m312 dX11_wax_2 (fun w_1 H locs ew_1 hS => ?_)
  have hp := hp w_1 ew_1
  refine lv_aload_n hx hb dX11_wax_5 rfl (lv_at hl 0 rfl) ?_
  refine lv_iload_n hx hb dX11_wax_6 rfl (lv_at hl 1 rfl) ?_
  refine q_cvI (As := [.int x1]) (rest := []) hC hS hl.1 (rX11_isRow hp) cwX11_358 yvX11_isRow (rcv_300 hC hS) rfl rfl (Nat.le_of_ble_eq_true rfl) (rmk (by decide) (by decide)) dX11_wax_7 (fun r_2 w_3 H locs hp hS => ?_)
  refine lv_if_ne (tgt := 15) hx hb dX11_wax_10 (by decide) (fun c_4 => ?_) (fun c_4 => ?_)
  · have hp := hp.1 c_4
    refine lv_aload_n hx hb dX11_wax_15 rfl (lv_at hl 0 rfl) ?_
    refine lv_iload_n hx hb dX11_wax_16 rfl (lv_at hl 1 rfl) ?_
    refine q_cvV (As := [.int x1]) (rest := []) hC hS hl.1 (rX11_layWays hp) cwX11_417 yvX11_layWays (rcv_300 hC hS) rfl rfl (Nat.le_of_ble_eq_true rfl) (rmk (by decide) (by decide)) dX11_wax_17 (fun w_5 H locs hp hS => ?_)
    refine lv_iconst hx hb dX11_wax_20 kI_0 ?_
    refine lv_istore_n (lv' := [(2, .int (0 : Int32)), (0, .ref (g.2.2 300)), (1, .int x1)]) hx hb dX11_wax_21 rfl hl (by decide) rfl (fun ls hl => ?_)
    refine lv_iconst hx hb dX11_wax_22 kI_1 ?_
    refine lv_istore_n (lv' := [(3, .int (1 : Int32)), (2, .int (0 : Int32)), (0, .ref (g.2.2 300)), (1, .int x1)]) hx hb dX11_wax_23 rfl hl (by decide) rfl (fun ls hl => ?_)
    obtain ⟨n9, hp⟩ := hp
    exact bX11_wax_24 hC hR n9 (0 : Int32) (1 : Int32) w_5 _ _ _ hp hS (lv_sub hl [2, 1, 0] rfl)
  · have hp := hp.2 c_4
    refine lv_iconst hx hb dX11_wax_13 kI_m1 ?_
    exact hR _ _ _ _ _ _ dX11_wax_14 hp hS
def pX11_fact (post : Int32 → Wd → Prop) (x1 : Int32) (x2 : Int32) (x3 : Int32) (x4 : Int32) (w : Wd) : Prop := (¬ (w.1 300 58) = (40 : Int32) → (vp_in (w.1 300 58) 40 ∧ ∀ w_2, w_2 = sA w 353 (w.1 300 58).toNatClampNeg x1 → vp_in (w_2.1 300 58) 40 ∧ ∀ w_3, w_3 = sA w_2 354 (w_2.1 300 58).toNatClampNeg x2 → vp_in (w_3.1 300 58) 40 ∧ ∀ w_4, w_4 = sA w_3 355 (w_3.1 300 58).toNatClampNeg x3 → vp_in (w_4.1 300 58) 40 ∧ ∀ w_5, w_5 = sA w_4 356 (w_4.1 300 58).toNatClampNeg x4 → vp_in (w_5.1 300 58) 40 ∧ ∀ w_6, w_6 = sA w_5 357 (w_5.1 300 58).toNatClampNeg (w_5.1 300 59) → vp_in (w_6.1 300 58) 40 ∧ ∀ w_7, w_7 = sA w_6 358 (w_6.1 300 58).toNatClampNeg (-1 : Int32) → ∀ w_8, w_8 = sI w_7 300 58 ((w_7.1 300 58) + (1 : Int32)) → post ((w_8.1 300 58) - (1 : Int32)) w_8)) ∧ ((w.1 300 58) = (40 : Int32) → (post (-1 : Int32) w))
set_option maxHeartbeats 4000000 in
set_option maxRecDepth 100000 in
theorem rX11_fact {l : Launch} {g : Gw} {w : Wd} {post : Int32 → Wd → Prop}   {x1 : Int32} {x2 : Int32} {x3 : Int32} {x4 : Int32} (hp : pX11_fact post x1 x2 x3 x4 w) : MtI tabM l yX11_fact cX11_fact 5 (some .int) 1 g w [.ref (g.2.2 300), .int x1, .int x2, .int x3, .int x4] post := by
  refine q_entI tabM_nd (by decide) rfl (Nat.le_of_ble_eq_true rfl) ?_
  intro p e s m args below meth c A Q ls hC hR hS hl
  have hx := hC.1
  have hb := hC.2.1
  have hl : lv_has ls 5 [(0, .ref (g.2.2 300)), (1, .int x1), (2, .int x2), (3, .int x3), (4, .int x4)] := hl
  unfold pX11_fact at hp
  refine lv_aload_n hx hb dX11_fact_0 rfl (lv_at hl 0 rfl) ?_
  refine G_300_58 hC hS m311 dX11_fact_1 ?_
  refine lv_bipush hx hb dX11_fact_4 kB_40 ?_
  refine lv_icmp_ne (tgt := 11) hx hb dX11_fact_6 (by decide) (fun c_1 => ?_) (fun c_1 => ?_)
  · have hp := hp.1 c_1
    refine lv_aload_n hx hb dX11_fact_11 rfl (lv_at hl 0 rfl) ?_
    refine G_300_52 hC hS m284 dX11_fact_12 ?_
    refine lv_aload_n hx hb dX11_fact_15 rfl (lv_at hl 0 rfl) ?_
    refine G_300_58 hC hS m311 dX11_fact_16 ?_
    refine lv_iload_n hx hb dX11_fact_19 rfl (lv_at hl 1 rfl) ?_
    refine Sa_353 hC hS hp.1 dX11_fact_20 (fun w_2 H locs ew_2 hS => ?_)
    have hp := hp.2
    have hp := hp w_2 ew_2
    refine lv_aload_n hx hb dX11_fact_21 rfl (lv_at hl 0 rfl) ?_
    refine G_300_53 hC hS m285 dX11_fact_22 ?_
    refine lv_aload_n hx hb dX11_fact_25 rfl (lv_at hl 0 rfl) ?_
    refine G_300_58 hC hS m311 dX11_fact_26 ?_
    refine lv_iload_n hx hb dX11_fact_29 rfl (lv_at hl 2 rfl) ?_
    refine Sa_354 hC hS hp.1 dX11_fact_30 (fun w_3 H locs ew_3 hS => ?_)
    have hp := hp.2
    have hp := hp w_3 ew_3
    refine lv_aload_n hx hb dX11_fact_31 rfl (lv_at hl 0 rfl) ?_
    refine G_300_54 hC hS m286 dX11_fact_32 ?_
    refine lv_aload_n hx hb dX11_fact_35 rfl (lv_at hl 0 rfl) ?_
    refine G_300_58 hC hS m311 dX11_fact_36 ?_
    refine lv_iload_n hx hb dX11_fact_39 rfl (lv_at hl 3 rfl) ?_
    refine Sa_355 hC hS hp.1 dX11_fact_40 (fun w_4 H locs ew_4 hS => ?_)
    have hp := hp.2
    have hp := hp w_4 ew_4
    refine lv_aload_n hx hb dX11_fact_41 rfl (lv_at hl 0 rfl) ?_
    refine G_300_55 hC hS m287 dX11_fact_42 ?_
    refine lv_aload_n hx hb dX11_fact_45 rfl (lv_at hl 0 rfl) ?_
    refine G_300_58 hC hS m311 dX11_fact_46 ?_
    refine lv_iload hx hb dX11_fact_49 (lv_at hl 4 rfl) ?_
    refine Sa_356 hC hS hp.1 dX11_fact_51 (fun w_5 H locs ew_5 hS => ?_)
    have hp := hp.2
    have hp := hp w_5 ew_5
    refine lv_aload_n hx hb dX11_fact_52 rfl (lv_at hl 0 rfl) ?_
    refine G_300_56 hC hS m288 dX11_fact_53 ?_
    refine lv_aload_n hx hb dX11_fact_56 rfl (lv_at hl 0 rfl) ?_
    refine G_300_58 hC hS m311 dX11_fact_57 ?_
    refine lv_aload_n hx hb dX11_fact_60 rfl (lv_at hl 0 rfl) ?_
    refine G_300_59 hC hS m1177 dX11_fact_61 ?_
    refine Sa_357 hC hS hp.1 dX11_fact_64 (fun w_6 H locs ew_6 hS => ?_)
    have hp := hp.2
    have hp := hp w_6 ew_6
    refine lv_aload_n hx hb dX11_fact_65 rfl (lv_at hl 0 rfl) ?_
    refine G_300_57 hC hS m289 dX11_fact_66 ?_
    refine lv_aload_n hx hb dX11_fact_69 rfl (lv_at hl 0 rfl) ?_
    refine G_300_58 hC hS m311 dX11_fact_70 ?_
    refine lv_iconst hx hb dX11_fact_73 kI_m1 ?_
    refine Sa_358 hC hS hp.1 dX11_fact_74 (fun w_7 H locs ew_7 hS => ?_)
    have hp := hp.2
    have hp := hp w_7 ew_7
    refine lv_aload_n hx hb dX11_fact_75 rfl (lv_at hl 0 rfl) ?_
    refine lv_dup hx hb dX11_fact_76 rfl ?_
    refine G_300_58 hC hS m311 dX11_fact_77 ?_
    refine lv_iconst hx hb dX11_fact_80 kI_1 ?_
    refine lv_iadd hx hb dX11_fact_81 ?_
    refine P_300_58 hC hS m311 dX11_fact_82 (fun w_8 H locs ew_8 hS => ?_)
    have hp := hp w_8 ew_8
    refine lv_aload_n hx hb dX11_fact_85 rfl (lv_at hl 0 rfl) ?_
    refine G_300_58 hC hS m311 dX11_fact_86 ?_
    refine lv_iconst hx hb dX11_fact_89 kI_1 ?_
    refine lv_isub hx hb dX11_fact_90 ?_
    exact hR _ _ _ _ _ _ dX11_fact_91 hp hS
  · have hp := hp.2 c_1
    refine lv_iconst hx hb dX11_fact_9 kI_m1 ?_
    exact hR _ _ _ _ _ _ dX11_fact_10 hp hS
def pX11_sample (post : Int32 → Wd → Prop) (x1 : Int32) (x2 : Int32) (w : Wd) : Prop := pX11_isRow (fun r_1 w_2 => (r_1 = 0 → (post (-1 : Int32) w_2)) ∧ (¬ r_1 = 0 → ((x2 = 0 → (pX11_fact (fun r_5 w_6 => post r_5 w_6) (0 : Int32) x1 (0 : Int32) (0 : Int32) w_2)) ∧ (¬ x2 = 0 → (pX11_fact (fun r_7 w_8 => post r_7 w_8) (0 : Int32) x1 (1 : Int32) (0 : Int32) w_2))))) x1 w
set_option maxHeartbeats 4000000 in
set_option maxRecDepth 100000 in
theorem rX11_sample {l : Launch} {g : Gw} {w : Wd} {post : Int32 → Wd → Prop}   {x1 : Int32} {x2 : Int32} (hp : pX11_sample post x1 x2 w) : MtI tabM l yX11_sample cX11_sample 3 (some .int) 3 g w [.ref (g.2.2 300), .int x1, .int x2] post := by
  refine q_entI tabM_nd (by decide) rfl (Nat.le_of_ble_eq_true rfl) ?_
  intro p e s m args below meth c A Q ls hC hR hS hl
  have hx := hC.1
  have hb := hC.2.1
  have hl : lv_has ls 3 [(0, .ref (g.2.2 300)), (1, .int x1), (2, .int x2)] := hl
  unfold pX11_sample at hp
  refine lv_aload_n hx hb dX11_sample_0 rfl (lv_at hl 0 rfl) ?_
  refine lv_iload_n hx hb dX11_sample_1 rfl (lv_at hl 1 rfl) ?_
  refine q_cvI (As := [.int x1]) (rest := []) hC hS hl.1 (rX11_isRow hp) cwX11_358 yvX11_isRow (rcv_300 hC hS) rfl rfl (Nat.le_of_ble_eq_true rfl) (rmk (by decide) (by decide)) dX11_sample_2 (fun r_1 w_2 H locs hp hS => ?_)
  refine lv_if_eq (tgt := 27) hx hb dX11_sample_5 (by decide) (fun c_3 => ?_) (fun c_3 => ?_)
  · have hp := hp.1 c_3
    refine lv_iconst hx hb dX11_sample_27 kI_m1 ?_
    exact hR _ _ _ _ _ _ dX11_sample_28 hp hS
  · have hp := hp.2 c_3
    refine lv_aload_n hx hb dX11_sample_8 rfl (lv_at hl 0 rfl) ?_
    refine lv_iconst hx hb dX11_sample_9 kI_0 ?_
    refine lv_iload_n hx hb dX11_sample_10 rfl (lv_at hl 1 rfl) ?_
    refine lv_iload_n hx hb dX11_sample_11 rfl (lv_at hl 2 rfl) ?_
    refine lv_if_eq (tgt := 19) hx hb dX11_sample_12 (by decide) (fun c_4 => ?_) (fun c_4 => ?_)
    · have hp := hp.1 c_4
      refine lv_iconst hx hb dX11_sample_19 kI_0 ?_
      refine lv_iconst hx hb dX11_sample_20 kI_0 ?_
      refine q_cvI (As := [.int (0 : Int32), .int x1, .int (0 : Int32), .int (0 : Int32)]) (rest := []) hC hS hl.1 (rX11_fact hp) cwX11_423 yvX11_fact (rcv_300 hC hS) rfl rfl (Nat.le_of_ble_eq_true rfl) (rmk (by decide) (by decide)) dX11_sample_21 (fun r_5 w_6 H locs hp hS => ?_)
      refine lv_goto (tgt := 28) hx hb dX11_sample_24 (by decide) ?_
      exact hR _ _ _ _ _ _ dX11_sample_28 hp hS
    · have hp := hp.2 c_4
      refine lv_iconst hx hb dX11_sample_15 kI_1 ?_
      refine lv_goto (tgt := 20) hx hb dX11_sample_16 (by decide) ?_
      refine lv_iconst hx hb dX11_sample_20 kI_0 ?_
      refine q_cvI (As := [.int (0 : Int32), .int x1, .int (1 : Int32), .int (0 : Int32)]) (rest := []) hC hS hl.1 (rX11_fact hp) cwX11_423 yvX11_fact (rcv_300 hC hS) rfl rfl (Nat.le_of_ble_eq_true rfl) (rmk (by decide) (by decide)) dX11_sample_21 (fun r_7 w_8 H locs hp hS => ?_)
      refine lv_goto (tgt := 28) hx hb dX11_sample_24 (by decide) ?_
      exact hR _ _ _ _ _ _ dX11_sample_28 hp hS
def pX11_claim (post : Int32 → Wd → Prop) (x1 : Int32) (x2 : Int32) (x3 : Int32) (w : Wd) : Prop := pX11_isRow (fun r_1 w_2 => (r_1 = 0 → (post (-1 : Int32) w_2)) ∧ (¬ r_1 = 0 → (pX11_isSeal (fun r_4 w_5 => (r_4 = 0 → (post (-1 : Int32) w_5)) ∧ (¬ r_4 = 0 → (pX11_isIn (fun r_7 w_8 => (r_7 = 0 → (post (-1 : Int32) w_8)) ∧ (¬ r_7 = 0 → (pX11_fact (fun r_10 w_11 => post r_10 w_11) (1 : Int32) x1 x2 x3 w_8))) x3 (0 : Int32) (999 : Int32) w_5))) x2 w_2))) x1 w
set_option maxHeartbeats 4000000 in
set_option maxRecDepth 100000 in
theorem rX11_claim {l : Launch} {g : Gw} {w : Wd} {post : Int32 → Wd → Prop}   {x1 : Int32} {x2 : Int32} {x3 : Int32} (hp : pX11_claim post x1 x2 x3 w) : MtI tabM l yX11_claim cX11_claim 4 (some .int) 3 g w [.ref (g.2.2 300), .int x1, .int x2, .int x3] post := by
  refine q_entI tabM_nd (by decide) rfl (Nat.le_of_ble_eq_true rfl) ?_
  intro p e s m args below meth c A Q ls hC hR hS hl
  have hx := hC.1
  have hb := hC.2.1
  have hl : lv_has ls 4 [(0, .ref (g.2.2 300)), (1, .int x1), (2, .int x2), (3, .int x3)] := hl
  unfold pX11_claim at hp
  refine lv_aload_n hx hb dX11_claim_0 rfl (lv_at hl 0 rfl) ?_
  refine lv_iload_n hx hb dX11_claim_1 rfl (lv_at hl 1 rfl) ?_
  refine q_cvI (As := [.int x1]) (rest := []) hC hS hl.1 (rX11_isRow hp) cwX11_358 yvX11_isRow (rcv_300 hC hS) rfl rfl (Nat.le_of_ble_eq_true rfl) (rmk (by decide) (by decide)) dX11_claim_2 (fun r_1 w_2 H locs hp hS => ?_)
  refine lv_if_eq (tgt := 38) hx hb dX11_claim_5 (by decide) (fun c_3 => ?_) (fun c_3 => ?_)
  · have hp := hp.1 c_3
    refine lv_iconst hx hb dX11_claim_38 kI_m1 ?_
    exact hR _ _ _ _ _ _ dX11_claim_39 hp hS
  · have hp := hp.2 c_3
    refine lv_aload_n hx hb dX11_claim_8 rfl (lv_at hl 0 rfl) ?_
    refine lv_iload_n hx hb dX11_claim_9 rfl (lv_at hl 2 rfl) ?_
    refine q_cvI (As := [.int x2]) (rest := []) hC hS hl.1 (rX11_isSeal hp) cwX11_383 yvX11_isSeal (rcv_300 hC hS) rfl rfl (Nat.le_of_ble_eq_true rfl) (rmk (by decide) (by decide)) dX11_claim_10 (fun r_4 w_5 H locs hp hS => ?_)
    refine lv_if_eq (tgt := 38) hx hb dX11_claim_13 (by decide) (fun c_6 => ?_) (fun c_6 => ?_)
    · have hp := hp.1 c_6
      refine lv_iconst hx hb dX11_claim_38 kI_m1 ?_
      exact hR _ _ _ _ _ _ dX11_claim_39 hp hS
    · have hp := hp.2 c_6
      refine lv_iload_n hx hb dX11_claim_16 rfl (lv_at hl 3 rfl) ?_
      refine lv_iconst hx hb dX11_claim_17 kI_0 ?_
      refine lv_sipush hx hb dX11_claim_18 kS_999 ?_
      refine q_csI (As := [.int x3, .int (0 : Int32), .int (999 : Int32)]) (rest := []) hC hS hl.1 (rX11_isIn hp) cwX11_345 ysX11_isIn rfl rfl (Nat.le_of_ble_eq_true rfl) (rmk (by decide) (by decide)) dX11_claim_21 (fun r_7 w_8 H locs hp hS => ?_)
      refine lv_if_eq (tgt := 38) hx hb dX11_claim_24 (by decide) (fun c_9 => ?_) (fun c_9 => ?_)
      · have hp := hp.1 c_9
        refine lv_iconst hx hb dX11_claim_38 kI_m1 ?_
        exact hR _ _ _ _ _ _ dX11_claim_39 hp hS
      · have hp := hp.2 c_9
        refine lv_aload_n hx hb dX11_claim_27 rfl (lv_at hl 0 rfl) ?_
        refine lv_iconst hx hb dX11_claim_28 kI_1 ?_
        refine lv_iload_n hx hb dX11_claim_29 rfl (lv_at hl 1 rfl) ?_
        refine lv_iload_n hx hb dX11_claim_30 rfl (lv_at hl 2 rfl) ?_
        refine lv_iload_n hx hb dX11_claim_31 rfl (lv_at hl 3 rfl) ?_
        refine q_cvI (As := [.int (1 : Int32), .int x1, .int x2, .int x3]) (rest := []) hC hS hl.1 (rX11_fact hp) cwX11_423 yvX11_fact (rcv_300 hC hS) rfl rfl (Nat.le_of_ble_eq_true rfl) (rmk (by decide) (by decide)) dX11_claim_32 (fun r_10 w_11 H locs hp hS => ?_)
        refine lv_goto (tgt := 39) hx hb dX11_claim_35 (by decide) ?_
        exact hR _ _ _ _ _ _ dX11_claim_39 hp hS
def pX11_saw (post : Int32 → Wd → Prop) (x1 : Int32) (x2 : Int32) (x3 : Int32) (w : Wd) : Prop := pX11_width (fun r_1 w_2 => pX11_isIn (fun r_3 w_4 => (r_3 = 0 → (post (-1 : Int32) w_4)) ∧ (¬ r_3 = 0 → (pX11_isIn (fun r_6 w_7 => (r_6 = 0 → (post (-1 : Int32) w_7)) ∧ (¬ r_6 = 0 → ((x3 = 0 → (pX11_fact (fun r_10 w_11 => post r_10 w_11) (2 : Int32) x1 x2 (0 : Int32) w_7)) ∧ (¬ x3 = 0 → (pX11_fact (fun r_12 w_13 => post r_12 w_13) (2 : Int32) x1 x2 (1 : Int32) w_7))))) x2 (0 : Int32) (999 : Int32) w_4))) x1 (0 : Int32) (r_1 - (1 : Int32)) w_2) w
set_option maxHeartbeats 4000000 in
set_option maxRecDepth 100000 in
theorem rX11_saw {l : Launch} {g : Gw} {w : Wd} {post : Int32 → Wd → Prop}   {x1 : Int32} {x2 : Int32} {x3 : Int32} (hp : pX11_saw post x1 x2 x3 w) : MtI tabM l yX11_saw cX11_saw 4 (some .int) 2 g w [.ref (g.2.2 300), .int x1, .int x2, .int x3] post := by
  refine q_entI tabM_nd (by decide) rfl (Nat.le_of_ble_eq_true rfl) ?_
  intro p e s m args below meth c A Q ls hC hR hS hl
  have hx := hC.1
  have hb := hC.2.1
  have hl : lv_has ls 4 [(0, .ref (g.2.2 300)), (1, .int x1), (2, .int x2), (3, .int x3)] := hl
  unfold pX11_saw at hp
  refine lv_iload_n hx hb dX11_saw_0 rfl (lv_at hl 1 rfl) ?_
  refine lv_iconst hx hb dX11_saw_1 kI_0 ?_
  refine lv_aload_n hx hb dX11_saw_2 rfl (lv_at hl 0 rfl) ?_
  refine q_cvI (As := []) (rest := [.int (0 : Int32), .int x1]) hC hS hl.1 (rX11_width hp) cwX11_342 yvX11_width (rcv_300 hC hS) rfl rfl (Nat.le_of_ble_eq_true rfl) (rmk (by decide) (by decide)) dX11_saw_3 (fun r_1 w_2 H locs hp hS => ?_)
  refine lv_iconst hx hb dX11_saw_6 kI_1 ?_
  refine lv_isub hx hb dX11_saw_7 ?_
  refine q_csI (As := [.int x1, .int (0 : Int32), .int (r_1 - (1 : Int32))]) (rest := []) hC hS hl.1 (rX11_isIn hp) cwX11_345 ysX11_isIn rfl rfl (Nat.le_of_ble_eq_true rfl) (rmk (by decide) (by decide)) dX11_saw_8 (fun r_3 w_4 H locs hp hS => ?_)
  refine lv_if_eq (tgt := 44) hx hb dX11_saw_11 (by decide) (fun c_5 => ?_) (fun c_5 => ?_)
  · have hp := hp.1 c_5
    refine lv_iconst hx hb dX11_saw_44 kI_m1 ?_
    exact hR _ _ _ _ _ _ dX11_saw_45 hp hS
  · have hp := hp.2 c_5
    refine lv_iload_n hx hb dX11_saw_14 rfl (lv_at hl 2 rfl) ?_
    refine lv_iconst hx hb dX11_saw_15 kI_0 ?_
    refine lv_sipush hx hb dX11_saw_16 kS_999 ?_
    refine q_csI (As := [.int x2, .int (0 : Int32), .int (999 : Int32)]) (rest := []) hC hS hl.1 (rX11_isIn hp) cwX11_345 ysX11_isIn rfl rfl (Nat.le_of_ble_eq_true rfl) (rmk (by decide) (by decide)) dX11_saw_19 (fun r_6 w_7 H locs hp hS => ?_)
    refine lv_if_eq (tgt := 44) hx hb dX11_saw_22 (by decide) (fun c_8 => ?_) (fun c_8 => ?_)
    · have hp := hp.1 c_8
      refine lv_iconst hx hb dX11_saw_44 kI_m1 ?_
      exact hR _ _ _ _ _ _ dX11_saw_45 hp hS
    · have hp := hp.2 c_8
      refine lv_aload_n hx hb dX11_saw_25 rfl (lv_at hl 0 rfl) ?_
      refine lv_iconst hx hb dX11_saw_26 kI_2 ?_
      refine lv_iload_n hx hb dX11_saw_27 rfl (lv_at hl 1 rfl) ?_
      refine lv_iload_n hx hb dX11_saw_28 rfl (lv_at hl 2 rfl) ?_
      refine lv_iload_n hx hb dX11_saw_29 rfl (lv_at hl 3 rfl) ?_
      refine lv_if_eq (tgt := 37) hx hb dX11_saw_30 (by decide) (fun c_9 => ?_) (fun c_9 => ?_)
      · have hp := hp.1 c_9
        refine lv_iconst hx hb dX11_saw_37 kI_0 ?_
        refine q_cvI (As := [.int (2 : Int32), .int x1, .int x2, .int (0 : Int32)]) (rest := []) hC hS hl.1 (rX11_fact hp) cwX11_423 yvX11_fact (rcv_300 hC hS) rfl rfl (Nat.le_of_ble_eq_true rfl) (rmk (by decide) (by decide)) dX11_saw_38 (fun r_10 w_11 H locs hp hS => ?_)
        refine lv_goto (tgt := 45) hx hb dX11_saw_41 (by decide) ?_
        exact hR _ _ _ _ _ _ dX11_saw_45 hp hS
      · have hp := hp.2 c_9
        refine lv_iconst hx hb dX11_saw_33 kI_1 ?_
        refine lv_goto (tgt := 38) hx hb dX11_saw_34 (by decide) ?_
        refine q_cvI (As := [.int (2 : Int32), .int x1, .int x2, .int (1 : Int32)]) (rest := []) hC hS hl.1 (rX11_fact hp) cwX11_423 yvX11_fact (rcv_300 hC hS) rfl rfl (Nat.le_of_ble_eq_true rfl) (rmk (by decide) (by decide)) dX11_saw_38 (fun r_12 w_13 H locs hp hS => ?_)
        refine lv_goto (tgt := 45) hx hb dX11_saw_41 (by decide) ?_
        exact hR _ _ _ _ _ _ dX11_saw_45 hp hS
def pX11_link (post : Int32 → Wd → Prop) (x1 : Int32) (x2 : Int32) (x3 : Int32) (w : Wd) : Prop := pX11_isIn (fun r_1 w_2 => (r_1 = 0 → (post (-1 : Int32) w_2)) ∧ (¬ r_1 = 0 → (pX11_isIn (fun r_4 w_5 => (r_4 = 0 → (post (-1 : Int32) w_5)) ∧ (¬ r_4 = 0 → ((x1 = x2 → (post (-1 : Int32) w_5)) ∧ (¬ x1 = x2 → ((x3 = 0 → (pX11_fact (fun r_9 w_10 => post r_9 w_10) (3 : Int32) x1 x2 (0 : Int32) w_5)) ∧ (¬ x3 = 0 → (pX11_fact (fun r_11 w_12 => post r_11 w_12) (3 : Int32) x1 x2 (1 : Int32) w_5))))))) x2 (0 : Int32) (7 : Int32) w_2))) x1 (0 : Int32) (7 : Int32) w
set_option maxHeartbeats 4000000 in
set_option maxRecDepth 100000 in
theorem rX11_link {l : Launch} {g : Gw} {w : Wd} {post : Int32 → Wd → Prop}   {x1 : Int32} {x2 : Int32} {x3 : Int32} (hp : pX11_link post x1 x2 x3 w) : MtI tabM l yX11_link cX11_link 4 (some .int) 2 g w [.ref (g.2.2 300), .int x1, .int x2, .int x3] post := by
  refine q_entI tabM_nd (by decide) rfl (Nat.le_of_ble_eq_true rfl) ?_
  intro p e s m args below meth c A Q ls hC hR hS hl
  have hx := hC.1
  have hb := hC.2.1
  have hl : lv_has ls 4 [(0, .ref (g.2.2 300)), (1, .int x1), (2, .int x2), (3, .int x3)] := hl
  unfold pX11_link at hp
  refine lv_iload_n hx hb dX11_link_0 rfl (lv_at hl 1 rfl) ?_
  refine lv_iconst hx hb dX11_link_1 kI_0 ?_
  refine lv_bipush hx hb dX11_link_2 kB_7 ?_
  refine q_csI (As := [.int x1, .int (0 : Int32), .int (7 : Int32)]) (rest := []) hC hS hl.1 (rX11_isIn hp) cwX11_345 ysX11_isIn rfl rfl (Nat.le_of_ble_eq_true rfl) (rmk (by decide) (by decide)) dX11_link_4 (fun r_1 w_2 H locs hp hS => ?_)
  refine lv_if_eq (tgt := 44) hx hb dX11_link_7 (by decide) (fun c_3 => ?_) (fun c_3 => ?_)
  · have hp := hp.1 c_3
    refine lv_iconst hx hb dX11_link_44 kI_m1 ?_
    exact hR _ _ _ _ _ _ dX11_link_45 hp hS
  · have hp := hp.2 c_3
    refine lv_iload_n hx hb dX11_link_10 rfl (lv_at hl 2 rfl) ?_
    refine lv_iconst hx hb dX11_link_11 kI_0 ?_
    refine lv_bipush hx hb dX11_link_12 kB_7 ?_
    refine q_csI (As := [.int x2, .int (0 : Int32), .int (7 : Int32)]) (rest := []) hC hS hl.1 (rX11_isIn hp) cwX11_345 ysX11_isIn rfl rfl (Nat.le_of_ble_eq_true rfl) (rmk (by decide) (by decide)) dX11_link_14 (fun r_4 w_5 H locs hp hS => ?_)
    refine lv_if_eq (tgt := 44) hx hb dX11_link_17 (by decide) (fun c_6 => ?_) (fun c_6 => ?_)
    · have hp := hp.1 c_6
      refine lv_iconst hx hb dX11_link_44 kI_m1 ?_
      exact hR _ _ _ _ _ _ dX11_link_45 hp hS
    · have hp := hp.2 c_6
      refine lv_iload_n hx hb dX11_link_20 rfl (lv_at hl 1 rfl) ?_
      refine lv_iload_n hx hb dX11_link_21 rfl (lv_at hl 2 rfl) ?_
      refine lv_icmp_eq (tgt := 44) hx hb dX11_link_22 (by decide) (fun c_7 => ?_) (fun c_7 => ?_)
      · have hp := hp.1 c_7
        refine lv_iconst hx hb dX11_link_44 kI_m1 ?_
        exact hR _ _ _ _ _ _ dX11_link_45 hp hS
      · have hp := hp.2 c_7
        refine lv_aload_n hx hb dX11_link_25 rfl (lv_at hl 0 rfl) ?_
        refine lv_iconst hx hb dX11_link_26 kI_3 ?_
        refine lv_iload_n hx hb dX11_link_27 rfl (lv_at hl 1 rfl) ?_
        refine lv_iload_n hx hb dX11_link_28 rfl (lv_at hl 2 rfl) ?_
        refine lv_iload_n hx hb dX11_link_29 rfl (lv_at hl 3 rfl) ?_
        refine lv_if_eq (tgt := 37) hx hb dX11_link_30 (by decide) (fun c_8 => ?_) (fun c_8 => ?_)
        · have hp := hp.1 c_8
          refine lv_iconst hx hb dX11_link_37 kI_0 ?_
          refine q_cvI (As := [.int (3 : Int32), .int x1, .int x2, .int (0 : Int32)]) (rest := []) hC hS hl.1 (rX11_fact hp) cwX11_423 yvX11_fact (rcv_300 hC hS) rfl rfl (Nat.le_of_ble_eq_true rfl) (rmk (by decide) (by decide)) dX11_link_38 (fun r_9 w_10 H locs hp hS => ?_)
          refine lv_goto (tgt := 45) hx hb dX11_link_41 (by decide) ?_
          exact hR _ _ _ _ _ _ dX11_link_45 hp hS
        · have hp := hp.2 c_8
          refine lv_iconst hx hb dX11_link_33 kI_1 ?_
          refine lv_goto (tgt := 38) hx hb dX11_link_34 (by decide) ?_
          refine q_cvI (As := [.int (3 : Int32), .int x1, .int x2, .int (1 : Int32)]) (rest := []) hC hS hl.1 (rX11_fact hp) cwX11_423 yvX11_fact (rcv_300 hC hS) rfl rfl (Nat.le_of_ble_eq_true rfl) (rmk (by decide) (by decide)) dX11_link_38 (fun r_11 w_12 H locs hp hS => ?_)
          refine lv_goto (tgt := 45) hx hb dX11_link_41 (by decide) ?_
          exact hR _ _ _ _ _ _ dX11_link_45 hp hS
def pX11_untell (post : Int32 → Wd → Prop) (x1 : Int32) (w : Wd) : Prop := pX11_isIn (fun r_1 w_2 => (r_1 = 0 → (post (0 : Int32) w_2)) ∧ (¬ r_1 = 0 → (vp_in x1 40 ∧ ((w_2.2.1 358 x1.toNatClampNeg) < 0 → (vp_in x1 40 ∧ ∀ w_5, w_5 = sA w_2 358 x1.toNatClampNeg (w_2.1 300 59) → post (1 : Int32) w_5)) ∧ (¬ (w_2.2.1 358 x1.toNatClampNeg) < 0 → (post (0 : Int32) w_2))))) x1 (0 : Int32) ((w.1 300 58) - (1 : Int32)) w
set_option maxHeartbeats 4000000 in
set_option maxRecDepth 100000 in
theorem rX11_untell {l : Launch} {g : Gw} {w : Wd} {post : Int32 → Wd → Prop}   {x1 : Int32} (hp : pX11_untell post x1 w) : MtI tabM l yX11_untell cX11_untell 2 (some .boolean) 2 g w [.ref (g.2.2 300), .int x1] post := by
  refine q_entZ tabM_nd (by decide) rfl (Nat.le_of_ble_eq_true rfl) ?_
  intro p e s m args below meth c A Q ls hC hR hS hl
  have hx := hC.1
  have hb := hC.2.1
  have hl : lv_has ls 2 [(0, .ref (g.2.2 300)), (1, .int x1)] := hl
  unfold pX11_untell at hp
  refine lv_iload_n hx hb dX11_untell_0 rfl (lv_at hl 1 rfl) ?_
  refine lv_iconst hx hb dX11_untell_1 kI_0 ?_
  refine lv_aload_n hx hb dX11_untell_2 rfl (lv_at hl 0 rfl) ?_
  refine G_300_58 hC hS m311 dX11_untell_3 ?_
  refine lv_iconst hx hb dX11_untell_6 kI_1 ?_
  refine lv_isub hx hb dX11_untell_7 ?_
  refine q_csI (As := [.int x1, .int (0 : Int32), .int ((w.1 300 58) - (1 : Int32))]) (rest := []) hC hS hl.1 (rX11_isIn hp) cwX11_345 ysX11_isIn rfl rfl (Nat.le_of_ble_eq_true rfl) (rmk (by decide) (by decide)) dX11_untell_8 (fun r_1 w_2 H locs hp hS => ?_)
  refine lv_if_eq (tgt := 23) hx hb dX11_untell_11 (by decide) (fun c_3 => ?_) (fun c_3 => ?_)
  · have hp := hp.1 c_3
    refine lv_iconst hx hb dX11_untell_23 kI_0 ?_
    exact hR _ _ _ _ _ _ dX11_untell_24 (by decide) hp hS
  · have hp := hp.2 c_3
    refine lv_aload_n hx hb dX11_untell_14 rfl (lv_at hl 0 rfl) ?_
    refine G_300_57 hC hS m289 dX11_untell_15 ?_
    refine lv_iload_n hx hb dX11_untell_18 rfl (lv_at hl 1 rfl) ?_
    refine La_358 hC hS hp.1 dX11_untell_19 ?_
    have hp := hp.2
    refine lv_if_lt (tgt := 25) hx hb dX11_untell_20 (by decide) (fun c_4 => ?_) (fun c_4 => ?_)
    · have hp := hp.1 c_4
      refine lv_aload_n hx hb dX11_untell_25 rfl (lv_at hl 0 rfl) ?_
      refine G_300_57 hC hS m289 dX11_untell_26 ?_
      refine lv_iload_n hx hb dX11_untell_29 rfl (lv_at hl 1 rfl) ?_
      refine lv_aload_n hx hb dX11_untell_30 rfl (lv_at hl 0 rfl) ?_
      refine G_300_59 hC hS m1177 dX11_untell_31 ?_
      refine Sa_358 hC hS hp.1 dX11_untell_34 (fun w_5 H locs ew_5 hS => ?_)
      have hp := hp.2
      have hp := hp w_5 ew_5
      refine lv_iconst hx hb dX11_untell_35 kI_1 ?_
      exact hR _ _ _ _ _ _ dX11_untell_36 (by decide) hp hS
    · have hp := hp.2 c_4
      refine lv_iconst hx hb dX11_untell_23 kI_0 ?_
      exact hR _ _ _ _ _ _ dX11_untell_24 (by decide) hp hS
def pX11_later (post : Int32 → Wd → Prop) (x1 : Int32) (w : Wd) : Prop := pX11_isIn (fun r_1 w_2 => (r_1 = 0 → (post (-1 : Int32) w_2)) ∧ (¬ r_1 = 0 → ((((w_2.1 300 59) + x1) ≤ (100000 : Int32) → (∀ w_5, w_5 = sI w_2 300 59 ((w_2.1 300 59) + x1) → post (w_5.1 300 59) w_5)) ∧ (¬ ((w_2.1 300 59) + x1) ≤ (100000 : Int32) → (post (-1 : Int32) w_2))))) x1 (0 : Int32) (1000 : Int32) w
set_option maxHeartbeats 4000000 in
set_option maxRecDepth 100000 in
theorem rX11_later {l : Launch} {g : Gw} {w : Wd} {post : Int32 → Wd → Prop}   {x1 : Int32} (hp : pX11_later post x1 w) : MtI tabM l yX11_later cX11_later 2 (some .int) 2 g w [.ref (g.2.2 300), .int x1] post := by
  refine q_entI tabM_nd (by decide) rfl (Nat.le_of_ble_eq_true rfl) ?_
  intro p e s m args below meth c A Q ls hC hR hS hl
  have hx := hC.1
  have hb := hC.2.1
  have hl : lv_has ls 2 [(0, .ref (g.2.2 300)), (1, .int x1)] := hl
  unfold pX11_later at hp
  refine lv_iload_n hx hb dX11_later_0 rfl (lv_at hl 1 rfl) ?_
  refine lv_iconst hx hb dX11_later_1 kI_0 ?_
  refine lv_sipush hx hb dX11_later_2 kS_1000 ?_
  refine q_csI (As := [.int x1, .int (0 : Int32), .int (1000 : Int32)]) (rest := []) hC hS hl.1 (rX11_isIn hp) cwX11_345 ysX11_isIn rfl rfl (Nat.le_of_ble_eq_true rfl) (rmk (by decide) (by decide)) dX11_later_5 (fun r_1 w_2 H locs hp hS => ?_)
  refine lv_if_eq (tgt := 23) hx hb dX11_later_8 (by decide) (fun c_3 => ?_) (fun c_3 => ?_)
  · have hp := hp.1 c_3
    refine lv_iconst hx hb dX11_later_23 kI_m1 ?_
    exact hR _ _ _ _ _ _ dX11_later_24 hp hS
  · have hp := hp.2 c_3
    refine lv_aload_n hx hb dX11_later_11 rfl (lv_at hl 0 rfl) ?_
    refine G_300_59 hC hS m1177 dX11_later_12 ?_
    refine lv_iload_n hx hb dX11_later_15 rfl (lv_at hl 1 rfl) ?_
    refine lv_iadd hx hb dX11_later_16 ?_
    refine lv_ldcw hx hb hC.2.2.2.1 (hC.2.2.2.2.1 _ m1227) dX11_later_17 ?_
    refine lv_icmp_le (tgt := 25) hx hb dX11_later_20 (by decide) (fun c_4 => ?_) (fun c_4 => ?_)
    · have hp := hp.1 c_4
      refine lv_aload_n hx hb dX11_later_25 rfl (lv_at hl 0 rfl) ?_
      refine lv_dup hx hb dX11_later_26 rfl ?_
      refine G_300_59 hC hS m1177 dX11_later_27 ?_
      refine lv_iload_n hx hb dX11_later_30 rfl (lv_at hl 1 rfl) ?_
      refine lv_iadd hx hb dX11_later_31 ?_
      refine P_300_59 hC hS m1177 dX11_later_32 (fun w_5 H locs ew_5 hS => ?_)
      have hp := hp w_5 ew_5
      refine lv_aload_n hx hb dX11_later_35 rfl (lv_at hl 0 rfl) ?_
      refine G_300_59 hC hS m1177 dX11_later_36 ?_
      exact hR _ _ _ _ _ _ dX11_later_39 hp hS
    · have hp := hp.2 c_4
      refine lv_iconst hx hb dX11_later_23 kI_m1 ?_
      exact hR _ _ _ _ _ _ dX11_later_24 hp hS
