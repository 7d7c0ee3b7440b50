def pX10_tell_91 (k64 : Int32 → Int32 → Int32 → Wd → Prop) (post : Int32 → Wd → Prop) (x1 : Int32) (x2 : Int32) (x3 : Int32) (w : Wd) : Prop := ∀ x3_1, x3_1 = x3 + (1 : Int32) → k64 x1 x2 x3_1 w
def pX10_tell_64 (post : Int32 → Wd → Prop) : Nat → Int32 → Int32 → Int32 → Wd → Prop
  | 0, _, _, _, _ => False
  | n + 1, x1, x2, x3, w => ((w.1 (rl (w.2.2.2.2 0)) 0) ≤ x3 → (post x1 w)) ∧ (¬ (w.1 (rl (w.2.2.2.2 0)) 0) ≤ x3 → ((((x2 >>> (x3 &&& 31)) &&& (1 : Int32)) = 0 → (pX10_tell_91 (pX10_tell_64 post n) post x1 x2 x3 w)) ∧ (¬ ((x2 >>> (x3 &&& 31)) &&& (1 : Int32)) = 0 → (pX4_lay (fun w_3 => pX10_tell_91 (pX10_tell_64 post n) post x1 x2 x3 w_3) x3 w))))
def pX10_tell_48 (k14 : Int32 → Int32 → Int32 → Wd → Prop) (post : Int32 → Wd → Prop) (x1 : Int32) (x2 : Int32) (x3 : Int32) (w : Wd) : Prop := ∀ x3_1, x3_1 = x3 + (1 : Int32) → k14 x1 x2 x3_1 w
def pX10_tell_14 (post : Int32 → Wd → Prop) : Nat → Int32 → Int32 → Int32 → Wd → Prop
  | 0, _, _, _, _ => False
  | n + 1, x1, x2, x3, w => pX7_rows (fun r_1 w_2 => (r_1 ≤ x3 → (∀ w_4, w_4 = sI w_2 110 1 (0 : Int32) → ∃ n9, pX10_tell_64 post n9 x1 x2 (0 : Int32) w_4)) ∧ (¬ r_1 ≤ x3 → (pJ6_bitCount_0f7a4 (fun r_5 w_6 => (x1 ≤ r_5 → (pX10_tell_48 (pX10_tell_14 post n) post x1 x2 x3 w_6)) ∧ (¬ x1 ≤ r_5 → (pX10_tellsApart (fun r_8 w_9 => (r_8 = 0 → (pX10_tell_48 (pX10_tell_14 post n) post x1 x2 x3 w_9)) ∧ (¬ r_8 = 0 → (pJ6_bitCount_0f7a4 (fun r_11 w_12 => pX10_tell_48 (pX10_tell_14 post n) post r_11 x3 x3 w_12) x3 w_9))) x3 w_6))) x3 w_2))) (w.2.2.2.2 0) w
def pX10_tell (post : Int32 → Wd → Prop)  (w : Wd) : Prop := ∀ x1_1, x1_1 = ((w.1 (rl (w.2.2.2.2 0)) 0) + (1 : Int32)) → ∃ n9, pX10_tell_14 post n9 x1_1 (0 : Int32) (0 : Int32) w
set_option maxHeartbeats 4000000 in
set_option maxRecDepth 100000 in
theorem bX10_tell_91 {p : Program} {l : Launch} {e : Env} {s : State} {m : MethodId} {args : Array Value} {below : List Frame} {meth : Method} {c : Code} {Q : State → Prop} {A : Nat → Prop} {g : Gw} {post : Int32 → Wd → Prop}  (hC : Cx p s m args c cX10_tell RX10 4 g) (hR : RtI tabX p l e (rk 2) s m args below meth c Q cX10_tell A g post)  {k64 : Int32 → Int32 → Int32 → Wd → Prop} (hk64 : ∀ (x1 : Int32) (x2 : Int32) (x3 : Int32) (w : Wd) (H : Heap) (locs : List Loc) (ls : Array Slot), k64 x1 x2 x3 w → St tabX A s.heap g w H locs → lv_has ls 4 [(0, .ref (g.2.2 0)), (1, .int x1), (2, .int x2), (3, .int x3)] → W p l e (rk 2) s m args below meth c H locs 0 0 Q (F0 m 64 ls [])) : ∀ (x1 : Int32) (x2 : Int32) (x3 : Int32) (w : Wd) (H : Heap) (locs : List Loc) (ls : Array Slot), pX10_tell_91 k64 post x1 x2 x3 w → St tabX A s.heap g w H locs → lv_has ls 4 [(0, .ref (g.2.2 0)), (1, .int x1), (2, .int x2), (3, .int x3)] → W p l e (rk 2) s m args below meth c H locs 0 0 Q (F0 m 91 ls []) := by
  have hx := hC.1
  have hb := hC.2.1
  intro x1 x2 x3 w H locs ls hp hS hl
  unfold pX10_tell_91 at hp
  obtain ⟨x3_1, ex3_1⟩ : ∃ y : Int32, y = x3 + (1 : Int32) := ⟨_, rfl⟩
  have hp := hp x3_1 ex3_1
  refine lv_iinc (v := x3_1) (lv' := [(3, .int x3_1), (0, .ref (g.2.2 0)), (1, .int x1), (2, .int x2)]) hx hb dX10_tell_91 hl (k := 3) rfl (by rw [ex3_1]; rfl) (by decide) rfl (fun ls hl => ?_)
  refine lv_goto (tgt := 64) hx hb dX10_tell_94 (by decide) ?_
  exact hk64 x1 x2 x3_1 w _ _ _ hp hS (lv_sub hl [1, 2, 3, 0] rfl)
set_option maxHeartbeats 4000000 in
set_option maxRecDepth 100000 in
theorem bX10_tell_64 {p : Program} {l : Launch} {e : Env} {s : State} {m : MethodId} {args : Array Value} {below : List Frame} {meth : Method} {c : Code} {Q : State → Prop} {A : Nat → Prop} {g : Gw} {post : Int32 → Wd → Prop}  (hC : Cx p s m args c cX10_tell RX10 4 g) (hR : RtI tabX p l e (rk 2) s m args below meth c Q cX10_tell A g post)  : ∀ (n : Nat) (x1 : Int32) (x2 : Int32) (x3 : Int32) (w : Wd) (H : Heap) (locs : List Loc) (ls : Array Slot), pX10_tell_64 post n x1 x2 x3 w → St tabX A s.heap g w H locs → lv_has ls 4 [(0, .ref (g.2.2 0)), (1, .int x1), (2, .int x2), (3, .int x3)] → W p l e (rk 2) s m args below meth c H locs 0 0 Q (F0 m 64 ls []) := by
  have hx := hC.1
  have hb := hC.2.1
  intro n
  induction n with
  | zero =>
    intro x1 x2 x3 w H locs ls hp hS hl
    exact False.elim hp
  | succ n ih =>
    intro x1 x2 x3 w H locs ls hp hS hl
    unfold pX10_tell_64 at hp
    refine lv_iload_n hx hb dX10_tell_64 rfl (lv_at hl 3 rfl) ?_
    refine lv_aload_n hx hb dX10_tell_65 rfl (lv_at hl 0 rfl) ?_
    refine G_0_16 hC hS m21 dX10_tell_66 ?_
    refine GR_0 hC hS m678 dX10_tell_69 ?_
    refine lv_icmp_ge (tgt := 97) hx hb dX10_tell_72 (by decide) (fun c_1 => ?_) (fun c_1 => ?_)
    · have hp := hp.1 c_1
      refine lv_iload_n hx hb dX10_tell_97 rfl (lv_at hl 1 rfl) ?_
      exact hR _ _ _ _ _ _ dX10_tell_98 hp hS
    · have hp := hp.2 c_1
      refine lv_iload_n hx hb dX10_tell_75 rfl (lv_at hl 2 rfl) ?_
      refine lv_iload_n hx hb dX10_tell_76 rfl (lv_at hl 3 rfl) ?_
      refine lv_ishr hx hb dX10_tell_77 ?_
      refine lv_iconst hx hb dX10_tell_78 kI_1 ?_
      refine lv_iand hx hb dX10_tell_79 ?_
      refine lv_if_eq (tgt := 91) hx hb dX10_tell_80 (by decide) (fun c_2 => ?_) (fun c_2 => ?_)
      · have hp := hp.1 c_2
        exact bX10_tell_91 hC hR ih x1 x2 x3 w _ _ _ hp hS (lv_sub hl [0, 1, 2, 3] rfl)
      · have hp := hp.2 c_2
        refine lv_aload_n hx hb dX10_tell_83 rfl (lv_at hl 0 rfl) ?_
        refine G_0_9 hC hS m54 dX10_tell_84 ?_
        refine lv_iload_n hx hb dX10_tell_87 rfl (lv_at hl 3 rfl) ?_
        refine q_cvV (As := [.int x3]) (rest := []) hC hS hl.1 (rX4_lay hp) cwX10_263 yvX4_lay (rcv_110 hC hS) rfl rfl (Nat.le_of_ble_eq_true rfl) (rmk (by decide) (by decide)) dX10_tell_88 (fun w_3 H locs hp hS => ?_)
        exact bX10_tell_91 hC hR ih x1 x2 x3 w_3 _ _ _ hp hS (lv_sub hl [0, 1, 2, 3] rfl)
set_option maxHeartbeats 4000000 in
set_option maxRecDepth 100000 in
theorem bX10_tell_48 {p : Program} {l : Launch} {e : Env} {s : State} {m : MethodId} {args : Array Value} {below : List Frame} {meth : Method} {c : Code} {Q : State → Prop} {A : Nat → Prop} {g : Gw} {post : Int32 → Wd → Prop}  (hC : Cx p s m args c cX10_tell RX10 4 g) (hR : RtI tabX p l e (rk 2) s m args below meth c Q cX10_tell A g post)  {k14 : Int32 → Int32 → Int32 → Wd → Prop} (hk14 : ∀ (x1 : Int32) (x2 : Int32) (x3 : Int32) (w : Wd) (H : Heap) (locs : List Loc) (ls : Array Slot), k14 x1 x2 x3 w → St tabX A s.heap g w H locs → lv_has ls 4 [(0, .ref (g.2.2 0)), (1, .int x1), (2, .int x2), (3, .int x3)] → W p l e (rk 2) s m args below meth c H locs 0 0 Q (F0 m 14 ls [])) : ∀ (x1 : Int32) (x2 : Int32) (x3 : Int32) (w : Wd) (H : Heap) (locs : List Loc) (ls : Array Slot), pX10_tell_48 k14 post x1 x2 x3 w → St tabX A s.heap g w H locs → lv_has ls 4 [(0, .ref (g.2.2 0)), (1, .int x1), (2, .int x2), (3, .int x3)] → W p l e (rk 2) s m args below meth c H locs 0 0 Q (F0 m 48 ls []) := by
  have hx := hC.1
  have hb := hC.2.1
  intro x1 x2 x3 w H locs ls hp hS hl
  unfold pX10_tell_48 at hp
  obtain ⟨x3_1, ex3_1⟩ : ∃ y : Int32, y = x3 + (1 : Int32) := ⟨_, rfl⟩
  have hp := hp x3_1 ex3_1
  refine lv_iinc (v := x3_1) (lv' := [(3, .int x3_1), (0, .ref (g.2.2 0)), (1, .int x1), (2, .int x2)]) hx hb dX10_tell_48 hl (k := 3) rfl (by rw [ex3_1]; rfl) (by decide) rfl (fun ls hl => ?_)
  refine lv_goto (tgt := 14) hx hb dX10_tell_51 (by decide) ?_
  exact hk14 x1 x2 x3_1 w _ _ _ hp hS (lv_sub hl [1, 2, 3, 0] rfl)
set_option maxHeartbeats 4000000 in
set_option maxRecDepth 100000 in
theorem bX10_tell_14 {p : Program} {l : Launch} {e : Env} {s : State} {m : MethodId} {args : Array Value} {below : List Frame} {meth : Method} {c : Code} {Q : State → Prop} {A : Nat → Prop} {g : Gw} {post : Int32 → Wd → Prop}  (hC : Cx p s m args c cX10_tell RX10 4 g) (hR : RtI tabX p l e (rk 2) s m args below meth c Q cX10_tell A g post)  : ∀ (n : Nat) (x1 : Int32) (x2 : Int32) (x3 : Int32) (w : Wd) (H : Heap) (locs : List Loc) (ls : Array Slot), pX10_tell_14 post n x1 x2 x3 w → St tabX A s.heap g w H locs → lv_has ls 4 [(0, .ref (g.2.2 0)), (1, .int x1), (2, .int x2), (3, .int x3)] → W p l e (rk 2) s m args below meth c H locs 0 0 Q (F0 m 14 ls []) := by
  have hx := hC.1
  have hb := hC.2.1
  intro n
  induction n with
  | zero =>
    intro x1 x2 x3 w H locs ls hp hS hl
    exact False.elim hp
  | succ n ih =>
    intro x1 x2 x3 w H locs ls hp hS hl
    unfold pX10_tell_14 at hp
    refine lv_iload_n hx hb dX10_tell_14 rfl (lv_at hl 3 rfl) ?_
    refine lv_aload_n hx hb dX10_tell_15 rfl (lv_at hl 0 rfl) ?_
    refine G_0_16 hC hS m21 dX10_tell_16 ?_
    refine q_cvI (As := []) (rest := [.int x3]) hC hS hl.1 (rX7_rows hp) cwX10_240 yvX7_rows (rcvR hC hS) rfl rfl (Nat.le_of_ble_eq_true rfl) (rmk (by decide) (by decide)) dX10_tell_19 (fun r_1 w_2 H locs hp hS => ?_)
    refine lv_icmp_ge (tgt := 54) hx hb dX10_tell_22 (by decide) (fun c_3 => ?_) (fun c_3 => ?_)
    · have hp := hp.1 c_3
      refine lv_aload_n hx hb dX10_tell_54 rfl (lv_at hl 0 rfl) ?_
      refine G_0_9 hC hS m54 dX10_tell_55 ?_
      refine lv_iconst hx hb dX10_tell_58 kI_0 ?_
      refine P_110_1 hC hS m224 dX10_tell_59 (fun w_4 H locs ew_4 hS => ?_)
      have hp := hp w_4 ew_4
      refine lv_iconst hx hb dX10_tell_62 kI_0 ?_
      refine lv_istore_n (lv' := [(3, .int (0 : Int32)), (0, .ref (g.2.2 0)), (1, .int x1), (2, .int x2)]) hx hb dX10_tell_63 rfl hl (by decide) rfl (fun ls hl => ?_)
      obtain ⟨n9, hp⟩ := hp
      exact bX10_tell_64 hC hR n9 x1 x2 (0 : Int32) w_4 _ _ _ hp hS (lv_sub hl [1, 2, 3, 0] rfl)
    · have hp := hp.2 c_3
      refine lv_iload_n hx hb dX10_tell_25 rfl (lv_at hl 3 rfl) ?_
      refine q_csI (As := [.int x3]) (rest := []) hC hS hl.1 (rJ6_bitCount_0f7a4 hp) cwX10_232 ysJ6_bitCount_0f7a4 rfl rfl (Nat.le_of_ble_eq_true rfl) (rmk (by decide) (by decide)) dX10_tell_26 (fun r_5 w_6 H locs hp hS => ?_)
      refine lv_iload_n hx hb dX10_tell_29 rfl (lv_at hl 1 rfl) ?_
      refine lv_icmp_ge (tgt := 48) hx hb dX10_tell_30 (by decide) (fun c_7 => ?_) (fun c_7 => ?_)
      · have hp := hp.1 c_7
        exact bX10_tell_48 hC hR ih x1 x2 x3 w_6 _ _ _ hp hS (lv_sub hl [0, 1, 2, 3] rfl)
      · have hp := hp.2 c_7
        refine lv_aload_n hx hb dX10_tell_33 rfl (lv_at hl 0 rfl) ?_
        refine lv_iload_n hx hb dX10_tell_34 rfl (lv_at hl 3 rfl) ?_
        refine q_cvI (As := [.int x3]) (rest := []) hC hS hl.1 (rX10_tellsApart hp) cwX10_260 yvX10_tellsApart (rcv_0 hC hS) rfl rfl (Nat.le_of_ble_eq_true rfl) (rmk (by decide) (by decide)) dX10_tell_35 (fun r_8 w_9 H locs hp hS => ?_)
        refine lv_if_eq (tgt := 48) hx hb dX10_tell_38 (by decide) (fun c_10 => ?_) (fun c_10 => ?_)
        · have hp := hp.1 c_10
          exact bX10_tell_48 hC hR ih x1 x2 x3 w_9 _ _ _ hp hS (lv_sub hl [0, 1, 2, 3] rfl)
        · have hp := hp.2 c_10
          refine lv_iload_n hx hb dX10_tell_41 rfl (lv_at hl 3 rfl) ?_
          refine q_csI (As := [.int x3]) (rest := []) hC hS hl.1 (rJ6_bitCount_0f7a4 hp) cwX10_232 ysJ6_bitCount_0f7a4 rfl rfl (Nat.le_of_ble_eq_true rfl) (rmk (by decide) (by decide)) dX10_tell_42 (fun r_11 w_12 H locs hp hS => ?_)
          refine lv_istore_n (lv' := [(1, .int r_11), (0, .ref (g.2.2 0)), (2, .int x2), (3, .int x3)]) hx hb dX10_tell_45 rfl hl (by decide) rfl (fun ls hl => ?_)
          refine lv_iload_n hx hb dX10_tell_46 rfl (lv_at hl 3 rfl) ?_
          refine lv_istore_n (lv' := [(2, .int x3), (1, .int r_11), (0, .ref (g.2.2 0)), (3, .int x3)]) hx hb dX10_tell_47 rfl hl (by decide) rfl (fun ls hl => ?_)
          exact bX10_tell_48 hC hR ih r_11 x3 x3 w_12 _ _ _ hp hS (lv_sub hl [2, 1, 0, 3] rfl)
set_option maxHeartbeats 4000000 in
set_option maxRecDepth 100000 in
theorem rX10_tell {l : Launch} {g : Gw} {w : Wd} {post : Int32 → Wd → Prop}    (hp : pX10_tell post  w) : MtI tabX l yX10_tell cX10_tell 4 (some .int) 2 g w [.ref (g.2.2 0)] post := by
  refine q_entI tabX_nd (by decide) rfl (Nat.le_of_ble_eq_true rfl) ?_
  intro p e s m args below meth c A Q ls hC hR hS hl
  have hx := hC.1
  have hb := hC.2.1
  have hl : lv_has ls 4 [(0, .ref (g.2.2 0))] := hl
  unfold pX10_tell at hp
  refine lv_aload_n hx hb dX10_tell_0 rfl (lv_at hl 0 rfl) ?_
  refine G_0_16 hC hS m21 dX10_tell_1 ?_
  refine GR_0 hC hS m678 dX10_tell_4 ?_
  refine lv_iconst hx hb dX10_tell_7 kI_1 ?_
  refine lv_iadd hx hb dX10_tell_8 ?_
  refine lv_topi (fun x1_1 ex1_1 => ?_)
  have hp := hp x1_1 ex1_1
  refine lv_istore_n (lv' := [(1, .int x1_1), (0, .ref (g.2.2 0))]) hx hb dX10_tell_9 rfl hl (by decide) rfl (fun ls hl => ?_)
  refine lv_iconst hx hb dX10_tell_10 kI_0 ?_
  refine lv_istore_n (lv' := [(2, .int (0 : Int32)), (1, .int x1_1), (0, .ref (g.2.2 0))]) hx hb dX10_tell_11 rfl hl (by decide) rfl (fun ls hl => ?_)
  refine lv_iconst hx hb dX10_tell_12 kI_0 ?_
  refine lv_istore_n (lv' := [(3, .int (0 : Int32)), (2, .int (0 : Int32)), (1, .int x1_1), (0, .ref (g.2.2 0))]) hx hb dX10_tell_13 rfl hl (by decide) rfl (fun ls hl => ?_)
  obtain ⟨n9, hp⟩ := hp
  exact bX10_tell_14 hC hR n9 x1_1 (0 : Int32) (0 : Int32) w _ _ _ hp hS (lv_sub hl [3, 2, 1, 0] rfl)
def pX10_round_46 (post : Int32 → Wd → Prop) : Nat → Int32 → Int32 → Int32 → Int32 → Wd → Prop
  | 0, _, _, _, _, _ => False
  | n + 1, x4, x5, x6, x7, w => pX7_rows (fun r_1 w_2 => (r_1 ≤ x7 → ((x4 = 0 → (post x6 w_2)) ∧ (¬ x4 = 0 → (pX10_isRow (fun r_5 w_6 => (¬ r_5 = 0 → (vp_in x5 4096 ∧ post (x6 - ((w_6.2.1 13 x5.toNatClampNeg) - (1 : Int32))) w_6)) ∧ (r_5 = 0 → (post x6 w_6))) x5 w_2)))) ∧ (¬ r_1 ≤ x7 → (vp_in x7 4096 ∧ ∀ x6_8, x6_8 = (if x6 < (w_2.2.1 13 x7.toNatClampNeg) then (w_2.2.1 13 x7.toNatClampNeg) else x6) → ∀ x7_9, x7_9 = x7 + (1 : Int32) → pX10_round_46 post n x4 x5 x6_8 x7_9 w_2))) (w.2.2.2.2 0) w
def pX10_round (post : Int32 → Wd → Prop) (x1 : Int32) (x2 : Int32) (x3 : Int32) (x4 : Int32) (w : Wd) : Prop := pX10_canCast (fun r_1 w_2 => (r_1 = 0 → (post (-1 : Int32) w_2)) ∧ (¬ r_1 = 0 → ((x4 < 0 → (post (-1 : Int32) w_2)) ∧ (¬ x4 < 0 → ((x4 ≤ (1 : Int32) → (vp_in x1 24 ∧ pX10_goRound (fun r_6 w_7 => ∃ n9, pX10_round_46 post n9 x4 r_6 (0 : Int32) (0 : Int32) w_7) (w_2.2.1 162 x1.toNatClampNeg) x2 x3 w_2)) ∧ (¬ x4 ≤ (1 : Int32) → (post (-1 : Int32) w_2))))))) x1 x2 x3 w
set_option maxHeartbeats 4000000 in
set_option maxRecDepth 100000 in
theorem bX10_round_46 {p : Program} {l : Launch} {e : Env} {s : State} {m : MethodId} {args : Array Value} {below : List Frame} {meth : Method} {c : Code} {Q : State → Prop} {A : Nat → Prop} {g : Gw} {post : Int32 → Wd → Prop}  (hC : Cx p s m args c cX10_round RX10 8 g) (hR : RtI tabX p l e (rk 6) s m args below meth c Q cX10_round A g post)  : ∀ (n : Nat) (x4 : Int32) (x5 : Int32) (x6 : Int32) (x7 : Int32) (w : Wd) (H : Heap) (locs : List Loc) (ls : Array Slot), pX10_round_46 post n x4 x5 x6 x7 w → St tabX A s.heap g w H locs → lv_has ls 8 [(0, .ref (g.2.2 0)), (4, .int x4), (5, .int x5), (6, .int x6), (7, .int x7)] → W p l e (rk 6) s m args below meth c H locs 0 0 Q (F0 m 46 ls []) := by
  have hx := hC.1
  have hb := hC.2.1
  intro n
  induction n with
  | zero =>
    intro x4 x5 x6 x7 w H locs ls hp hS hl
    exact False.elim hp
  | succ n ih =>
    intro x4 x5 x6 x7 w H locs ls hp hS hl
    unfold pX10_round_46 at hp
    refine lv_iload hx hb dX10_round_46 (lv_at hl 4 rfl) ?_
    refine lv_aload_n hx hb dX10_round_48 rfl (lv_at hl 0 rfl) ?_
    refine G_0_16 hC hS m21 dX10_round_49 ?_
    refine q_cvI (As := []) (rest := [.int x7]) hC hS hl.1 (rX7_rows hp) cwX10_240 yvX7_rows (rcvR hC hS) rfl rfl (Nat.le_of_ble_eq_true rfl) (rmk (by decide) (by decide)) dX10_round_52 (fun r_1 w_2 H locs hp hS => ?_)
    refine lv_icmp_ge (tgt := 78) hx hb dX10_round_55 (by decide) (fun c_3 => ?_) (fun c_3 => ?_)
    · have hp := hp.1 c_3
      refine lv_iload hx hb dX10_round_78 (lv_at hl 1 rfl) ?_
      refine lv_if_eq (tgt := 92) hx hb dX10_round_80 (by decide) (fun c_4 => ?_) (fun c_4 => ?_)
      · have hp := hp.1 c_4
        refine lv_iload hx hb dX10_round_92 (lv_at hl 3 rfl) ?_
        refine lv_goto (tgt := 109) hx hb dX10_round_94 (by decide) ?_
        exact hR _ _ _ _ _ _ dX10_round_109 hp hS
      · have hp := hp.2 c_4
        refine lv_aload_n hx hb dX10_round_83 rfl (lv_at hl 0 rfl) ?_
        refine lv_iload hx hb dX10_round_84 (lv_at hl 2 rfl) ?_
        refine q_cvI (As := [.int x5]) (rest := []) hC hS hl.1 (rX10_isRow hp) cwX10_180 yvX10_isRow (rcv_0 hC hS) rfl rfl (Nat.le_of_ble_eq_true rfl) (rmk (by decide) (by decide)) dX10_round_86 (fun r_5 w_6 H locs hp hS => ?_)
        refine lv_if_ne (tgt := 97) hx hb dX10_round_89 (by decide) (fun c_7 => ?_) (fun c_7 => ?_)
        · have hp := hp.1 c_7
          refine lv_iload hx hb dX10_round_97 (lv_at hl 3 rfl) ?_
          refine lv_aload_n hx hb dX10_round_99 rfl (lv_at hl 0 rfl) ?_
          refine G_0_12 hC hS m59 dX10_round_100 ?_
          refine lv_iload hx hb dX10_round_103 (lv_at hl 2 rfl) ?_
          refine La_13 hC hS hp.1 dX10_round_105 ?_
          have hp := hp.2
          refine lv_iconst hx hb dX10_round_106 kI_1 ?_
          refine lv_isub hx hb dX10_round_107 ?_
          refine lv_isub hx hb dX10_round_108 ?_
          exact hR _ _ _ _ _ _ dX10_round_109 hp hS
        · have hp := hp.2 c_7
          refine lv_iload hx hb dX10_round_92 (lv_at hl 3 rfl) ?_
          refine lv_goto (tgt := 109) hx hb dX10_round_94 (by decide) ?_
          exact hR _ _ _ _ _ _ dX10_round_109 hp hS
    · have hp := hp.2 c_3
      refine lv_iload hx hb dX10_round_58 (lv_at hl 3 rfl) ?_
      refine lv_aload_n hx hb dX10_round_60 rfl (lv_at hl 0 rfl) ?_
      refine G_0_12 hC hS m59 dX10_round_61 ?_
      refine lv_iload hx hb dX10_round_64 (lv_at hl 4 rfl) ?_
      refine La_13 hC hS hp.1 dX10_round_66 ?_
      have hp := hp.2
      refine q_max hC hl.1 m1084 m728 m348 m729 (rmm (by decide) (Nat.le_of_ble_eq_true rfl)) dX10_round_67 ?_
      refine lv_topi (fun x6_8 ex6_8 => ?_)
      have hp := hp x6_8 ex6_8
      refine lv_istore (lv' := [(6, .int x6_8), (0, .ref (g.2.2 0)), (4, .int x4), (5, .int x5), (7, .int x7)]) hx hb dX10_round_70 hl (by decide) rfl (fun ls hl => ?_)
      obtain ⟨x7_9, ex7_9⟩ : ∃ y : Int32, y = x7 + (1 : Int32) := ⟨_, rfl⟩
      have hp := hp x7_9 ex7_9
      refine lv_iinc (v := x7_9) (lv' := [(7, .int x7_9), (6, .int x6_8), (0, .ref (g.2.2 0)), (4, .int x4), (5, .int x5)]) hx hb dX10_round_72 hl (k := 4) rfl (by rw [ex7_9]; rfl) (by decide) rfl (fun ls hl => ?_)
      refine lv_goto (tgt := 46) hx hb dX10_round_75 (by decide) ?_
      exact ih x4 x5 x6_8 x7_9 w_2 _ _ _ hp hS (lv_sub hl [2, 3, 4, 1, 0] rfl)
set_option maxHeartbeats 4000000 in
set_option maxRecDepth 100000 in
theorem rX10_round {l : Launch} {g : Gw} {w : Wd} {post : Int32 → Wd → Prop}   {x1 : Int32} {x2 : Int32} {x3 : Int32} {x4 : Int32} (hp : pX10_round post x1 x2 x3 x4 w) : MtI tabX l yX10_round cX10_round 8 (some .int) 6 g w [.ref (g.2.2 0), .int x1, .int x2, .int x3, .int x4] post := by
  refine q_entI tabX_nd (by decide) rfl (Nat.le_of_ble_eq_true rfl) ?_
  intro p e s m args below meth c A Q ls hC hR hS hl
  have hx := hC.1
  have hb := hC.2.1
  have hl : lv_has ls 8 [(0, .ref (g.2.2 0)), (1, .int x1), (2, .int x2), (3, .int x3), (4, .int x4)] := hl
  unfold pX10_round at hp
  refine lv_aload_n hx hb dX10_round_0 rfl (lv_at hl 0 rfl) ?_
  refine lv_iload_n hx hb dX10_round_1 rfl (lv_at hl 1 rfl) ?_
  refine lv_iload_n hx hb dX10_round_2 rfl (lv_at hl 2 rfl) ?_
  refine lv_iload_n hx hb dX10_round_3 rfl (lv_at hl 3 rfl) ?_
  refine q_cvI (As := [.int x1, .int x2, .int x3]) (rest := []) hC hS hl.1 (rX10_canCast hp) cwX10_200 yvX10_canCast (rcv_0 hC hS) rfl rfl (Nat.le_of_ble_eq_true rfl) (rmk (by decide) (by decide)) dX10_round_4 (fun r_1 w_2 H locs hp hS => ?_)
  refine lv_if_eq (tgt := 21) hx hb dX10_round_7 (by decide) (fun c_3 => ?_) (fun c_3 => ?_)
  · have hp := hp.1 c_3
    refine lv_iconst hx hb dX10_round_21 kI_m1 ?_
    exact hR _ _ _ _ _ _ dX10_round_22 hp hS
  · have hp := hp.2 c_3
    refine lv_iload hx hb dX10_round_10 (lv_at hl 4 rfl) ?_
    refine lv_if_lt (tgt := 21) hx hb dX10_round_12 (by decide) (fun c_4 => ?_) (fun c_4 => ?_)
    · have hp := hp.1 c_4
      refine lv_iconst hx hb dX10_round_21 kI_m1 ?_
      exact hR _ _ _ _ _ _ dX10_round_22 hp hS
    · have hp := hp.2 c_4
      refine lv_iload hx hb dX10_round_15 (lv_at hl 4 rfl) ?_
      refine lv_iconst hx hb dX10_round_17 kI_1 ?_
      refine lv_icmp_le (tgt := 23) hx hb dX10_round_18 (by decide) (fun c_5 => ?_) (fun c_5 => ?_)
      · have hp := hp.1 c_5
        refine lv_aload_n hx hb dX10_round_23 rfl (lv_at hl 0 rfl) ?_
        refine lv_aload_n hx hb dX10_round_24 rfl (lv_at hl 0 rfl) ?_
        refine G_0_3 hC hS m30 dX10_round_25 ?_
        refine G_160_1 hC hS m613 dX10_round_28 ?_
        refine lv_iload_n hx hb dX10_round_31 rfl (lv_at hl 1 rfl) ?_
        refine La_162 hC hS hp.1 dX10_round_32 ?_
        have hp := hp.2
        refine lv_iload_n hx hb dX10_round_33 rfl (lv_at hl 2 rfl) ?_
        refine lv_iload_n hx hb dX10_round_34 rfl (lv_at hl 3 rfl) ?_
        refine q_cvI (As := [.int (w_2.2.1 162 x1.toNatClampNeg), .int x2, .int x3]) (rest := []) hC hS hl.1 (rX10_goRound hp) cwX10_244 yvX10_goRound (rcv_0 hC hS) rfl rfl (Nat.le_of_ble_eq_true rfl) (rmk (by decide) (by decide)) dX10_round_35 (fun r_6 w_7 H locs hp hS => ?_)
        refine lv_istore (lv' := [(5, .int r_6), (0, .ref (g.2.2 0)), (1, .int x1), (2, .int x2), (3, .int x3), (4, .int x4)]) hx hb dX10_round_38 hl (by decide) rfl (fun ls hl => ?_)
        refine lv_iconst hx hb dX10_round_40 kI_0 ?_
        refine lv_istore (lv' := [(6, .int (0 : Int32)), (5, .int r_6), (0, .ref (g.2.2 0)), (1, .int x1), (2, .int x2), (3, .int x3), (4, .int x4)]) hx hb dX10_round_41 hl (by decide) rfl (fun ls hl => ?_)
        refine lv_iconst hx hb dX10_round_43 kI_0 ?_
        refine lv_istore (lv' := [(7, .int (0 : Int32)), (6, .int (0 : Int32)), (5, .int r_6), (0, .ref (g.2.2 0)), (1, .int x1), (2, .int x2), (3, .int x3), (4, .int x4)]) hx hb dX10_round_44 hl (by decide) rfl (fun ls hl => ?_)
        obtain ⟨n9, hp⟩ := hp
        exact bX10_round_46 hC hR n9 x4 r_6 (0 : Int32) (0 : Int32) w_7 _ _ _ hp hS (lv_sub hl [3, 7, 2, 1, 0] rfl)
      · have hp := hp.2 c_5
        refine lv_iconst hx hb dX10_round_21 kI_m1 ?_
        exact hR _ _ _ _ _ _ dX10_round_22 hp hS
def pX10_steady_145 (k78 : Int32 → Int32 → Int32 → Int32 → Int32 → Wd → Prop) (post : Int32 → Wd → Prop) (x3 : Int32) (x4 : Int32) (x5 : Int32) (x6 : Int32) (x7 : Int32) (w : Wd) : Prop := ∀ x7_1, x7_1 = x7 + (1 : Int32) → k78 x3 x4 x5 x6 x7_1 w
def pX10_steady_78 (post : Int32 → Wd → Prop) : Nat → Int32 → Int32 → Int32 → Int32 → Int32 → Wd → Prop
  | 0, _, _, _, _, _, _ => False
  | n + 1, x3, x4, x5, x6, x7, w => pX7_rows (fun r_1 w_2 => (r_1 ≤ x7 → ((¬ x3 = 0 → (post x6 w_2)) ∧ (x3 = 0 → (post x4 w_2)))) ∧ (¬ r_1 ≤ x7 → (vp_in x7 4096 ∧ pX10_isRow (fun r_5 w_6 => (r_5 = 0 → (pX10_steady_145 (pX10_steady_78 post n) post x3 x4 x5 x6 x7 w_6)) ∧ (¬ r_5 = 0 → (vp_in x7 4096 ∧ vp_in (w_6.2.1 13 x7.toNatClampNeg) 4096 ∧ (¬ (w_6.2.1 13 (w_6.2.1 13 x7.toNatClampNeg).toNatClampNeg) = x7 → (pX10_steady_145 (pX10_steady_78 post n) post x3 x4 x5 x6 x7 w_6)) ∧ ((w_6.2.1 13 (w_6.2.1 13 x7.toNatClampNeg).toNatClampNeg) = x7 → (∀ x4_9, x4_9 = x4 + (1 : Int32) → pJ6_bitCount_0f7a4 (fun r_10 w_11 => (r_10 ≤ x5 → (pX10_steady_145 (pX10_steady_78 post n) post x3 x4_9 x5 x6 x7 w_11)) ∧ (¬ r_10 ≤ x5 → (pJ6_bitCount_0f7a4 (fun r_13 w_14 => pX10_steady_145 (pX10_steady_78 post n) post x3 x4_9 r_13 x7 x7 w_14) x7 w_11))) x7 w_6))))) (w_2.2.1 13 x7.toNatClampNeg) w_2))) (w.2.2.2.2 0) w
def pX10_steady_29 (post : Int32 → Wd → Prop) : Nat → Int32 → Int32 → Int32 → Int32 → Wd → Prop
  | 0, _, _, _, _, _ => False
  | n + 1, x1, x2, x3, x4, w => pX7_rows (fun r_1 w_2 => (r_1 ≤ x4 → (∃ n9, pX10_steady_78 post n9 x3 (0 : Int32) (-1 : Int32) (-1 : Int32) (0 : Int32) w_2)) ∧ (¬ r_1 ≤ x4 → (pX1_rowAfter (fun r_4 w_5 => vp_in x4 4096 ∧ ∀ w_6, w_6 = sA w_5 13 x4.toNatClampNeg r_4 → ∀ x4_7, x4_7 = x4 + (1 : Int32) → pX10_steady_29 post n x1 x2 x3 x4_7 w_6) x4 x1 x2 (0 : Int32) w_2))) (w.2.2.2.2 0) w
def pX10_steady (post : Int32 → Wd → Prop) (x1 : Int32) (x2 : Int32) (x3 : Int32) (w : Wd) : Prop := pX10_isHand (fun r_1 w_2 => (r_1 = 0 → (post (-1 : Int32) w_2)) ∧ (¬ r_1 = 0 → (pX10_isHeat (fun r_4 w_5 => (r_4 = 0 → (post (-1 : Int32) w_5)) ∧ (¬ r_4 = 0 → ((x3 < 0 → (post (-1 : Int32) w_5)) ∧ (¬ x3 < 0 → ((x3 ≤ (1 : Int32) → (∃ n9, pX10_steady_29 post n9 x1 x2 x3 (0 : Int32) w_5)) ∧ (¬ x3 ≤ (1 : Int32) → (post (-1 : Int32) w_5))))))) x2 w_2))) x1 w
set_option maxHeartbeats 4000000 in
set_option maxRecDepth 100000 in
theorem bX10_steady_145 {p : Program} {l : Launch} {e : Env} {s : State} {m : MethodId} {args : Array Value} {below : List Frame} {meth : Method} {c : Code} {Q : State → Prop} {A : Nat → Prop} {g : Gw} {post : Int32 → Wd → Prop}  (hC : Cx p s m args c cX10_steady RX10 8 g) (hR : RtI tabX p l e (rk 5) s m args below meth c Q cX10_steady A g post)  {k78 : Int32 → Int32 → Int32 → Int32 → Int32 → Wd → Prop} (hk78 : ∀ (x3 : Int32) (x4 : Int32) (x5 : Int32) (x6 : Int32) (x7 : Int32) (w : Wd) (H : Heap) (locs : List Loc) (ls : Array Slot), k78 x3 x4 x5 x6 x7 w → St tabX A s.heap g w H locs → lv_has ls 8 [(0, .ref (g.2.2 0)), (3, .int x3), (4, .int x4), (5, .int x5), (6, .int x6), (7, .int x7)] → W p l e (rk 5) s m args below meth c H locs 0 0 Q (F0 m 78 ls [])) : ∀ (x3 : Int32) (x4 : Int32) (x5 : Int32) (x6 : Int32) (x7 : Int32) (w : Wd) (H : Heap) (locs : List Loc) (ls : Array Slot), pX10_steady_145 k78 post x3 x4 x5 x6 x7 w → St tabX A s.heap g w H locs → lv_has ls 8 [(0, .ref (g.2.2 0)), (3, .int x3), (4, .int x4), (5, .int x5), (6, .int x6), (7, .int x7)] → W p l e (rk 5) s m args below meth c H locs 0 0 Q (F0 m 145 ls []) := by
  have hx := hC.1
  have hb := hC.2.1
  intro x3 x4 x5 x6 x7 w H locs ls hp hS hl
  unfold pX10_steady_145 at hp
  obtain ⟨x7_1, ex7_1⟩ : ∃ y : Int32, y = x7 + (1 : Int32) := ⟨_, rfl⟩
  have hp := hp x7_1 ex7_1
  refine lv_iinc (v := x7_1) (lv' := [(7, .int x7_1), (0, .ref (g.2.2 0)), (3, .int x3), (4, .int x4), (5, .int x5), (6, .int x6)]) hx hb dX10_steady_145 hl (k := 5) rfl (by rw [ex7_1]; rfl) (by decide) rfl (fun ls hl => ?_)
  refine lv_goto (tgt := 78) hx hb dX10_steady_148 (by decide) ?_
  exact hk78 x3 x4 x5 x6 x7_1 w _ _ _ hp hS (lv_sub hl [1, 2, 3, 4, 5, 0] rfl)
set_option maxHeartbeats 4000000 in
set_option maxRecDepth 100000 in
theorem bX10_steady_78 {p : Program} {l : Launch} {e : Env} {s : State} {m : MethodId} {args : Array Value} {below : List Frame} {meth : Method} {c : Code} {Q : State → Prop} {A : Nat → Prop} {g : Gw} {post : Int32 → Wd → Prop}  (hC : Cx p s m args c cX10_steady RX10 8 g) (hR : RtI tabX p l e (rk 5) s m args below meth c Q cX10_steady A g post)  : ∀ (n : Nat) (x3 : Int32) (x4 : Int32) (x5 : Int32) (x6 : Int32) (x7 : Int32) (w : Wd) (H : Heap) (locs : List Loc) (ls : Array Slot), pX10_steady_78 post n x3 x4 x5 x6 x7 w → St tabX A s.heap g w H locs → lv_has ls 8 [(0, .ref (g.2.2 0)), (3, .int x3), (4, .int x4), (5, .int x5), (6, .int x6), (7, .int x7)] → W p l e (rk 5) s m args below meth c H locs 0 0 Q (F0 m 78 ls []) := by
  have hx := hC.1
  have hb := hC.2.1
  intro n
  induction n with
  | zero =>
    intro x3 x4 x5 x6 x7 w H locs ls hp hS hl
    exact False.elim hp
  | succ n ih =>
    intro x3 x4 x5 x6 x7 w H locs ls hp hS hl
    unfold pX10_steady_78 at hp
    refine lv_iload hx hb dX10_steady_78 (lv_at hl 5 rfl) ?_
    refine lv_aload_n hx hb dX10_steady_80 rfl (lv_at hl 0 rfl) ?_
    refine G_0_16 hC hS m21 dX10_steady_81 ?_
    refine q_cvI (As := []) (rest := [.int x7]) hC hS hl.1 (rX7_rows hp) cwX10_240 yvX7_rows (rcvR hC hS) rfl rfl (Nat.le_of_ble_eq_true rfl) (rmk (by decide) (by decide)) dX10_steady_84 (fun r_1 w_2 H locs hp hS => ?_)
    refine lv_icmp_ge (tgt := 151) hx hb dX10_steady_87 (by decide) (fun c_3 => ?_) (fun c_3 => ?_)
    · have hp := hp.1 c_3
      refine lv_iload_n hx hb dX10_steady_151 rfl (lv_at hl 1 rfl) ?_
      refine lv_if_ne (tgt := 160) hx hb dX10_steady_152 (by decide) (fun c_4 => ?_) (fun c_4 => ?_)
      · have hp := hp.1 c_4
        refine lv_iload hx hb dX10_steady_160 (lv_at hl 4 rfl) ?_
        exact hR _ _ _ _ _ _ dX10_steady_162 hp hS
      · have hp := hp.2 c_4
        refine lv_iload hx hb dX10_steady_155 (lv_at hl 2 rfl) ?_
        refine lv_goto (tgt := 162) hx hb dX10_steady_157 (by decide) ?_
        exact hR _ _ _ _ _ _ dX10_steady_162 hp hS
    · have hp := hp.2 c_3
      refine lv_aload_n hx hb dX10_steady_90 rfl (lv_at hl 0 rfl) ?_
      refine lv_aload_n hx hb dX10_steady_91 rfl (lv_at hl 0 rfl) ?_
      refine G_0_12 hC hS m59 dX10_steady_92 ?_
      refine lv_iload hx hb dX10_steady_95 (lv_at hl 5 rfl) ?_
      refine La_13 hC hS hp.1 dX10_steady_97 ?_
      have hp := hp.2
      refine q_cvI (As := [.int (w_2.2.1 13 x7.toNatClampNeg)]) (rest := []) hC hS hl.1 (rX10_isRow hp) cwX10_180 yvX10_isRow (rcv_0 hC hS) rfl rfl (Nat.le_of_ble_eq_true rfl) (rmk (by decide) (by decide)) dX10_steady_98 (fun r_5 w_6 H locs hp hS => ?_)
      refine lv_if_eq (tgt := 145) hx hb dX10_steady_101 (by decide) (fun c_7 => ?_) (fun c_7 => ?_)
      · have hp := hp.1 c_7
        exact bX10_steady_145 hC hR ih x3 x4 x5 x6 x7 w_6 _ _ _ hp hS (lv_sub hl [0, 1, 2, 3, 4, 5] rfl)
      · have hp := hp.2 c_7
        refine lv_aload_n hx hb dX10_steady_104 rfl (lv_at hl 0 rfl) ?_
        refine G_0_12 hC hS m59 dX10_steady_105 ?_
        refine lv_aload_n hx hb dX10_steady_108 rfl (lv_at hl 0 rfl) ?_
        refine G_0_12 hC hS m59 dX10_steady_109 ?_
        refine lv_iload hx hb dX10_steady_112 (lv_at hl 5 rfl) ?_
        refine La_13 hC hS hp.1 dX10_steady_114 ?_
        have hp := hp.2
        refine La_13 hC hS hp.1 dX10_steady_115 ?_
        have hp := hp.2
        refine lv_iload hx hb dX10_steady_116 (lv_at hl 5 rfl) ?_
        refine lv_icmp_ne (tgt := 145) hx hb dX10_steady_118 (by decide) (fun c_8 => ?_) (fun c_8 => ?_)
        · have hp := hp.1 c_8
          exact bX10_steady_145 hC hR ih x3 x4 x5 x6 x7 w_6 _ _ _ hp hS (lv_sub hl [0, 1, 2, 3, 4, 5] rfl)
        · have hp := hp.2 c_8
          obtain ⟨x4_9, ex4_9⟩ : ∃ y : Int32, y = x4 + (1 : Int32) := ⟨_, rfl⟩
          have hp := hp x4_9 ex4_9
          refine lv_iinc (v := x4_9) (lv' := [(4, .int x4_9), (0, .ref (g.2.2 0)), (3, .int x3), (5, .int x5), (6, .int x6), (7, .int x7)]) hx hb dX10_steady_121 hl (k := 2) rfl (by rw [ex4_9]; rfl) (by decide) rfl (fun ls hl => ?_)
          refine lv_iload hx hb dX10_steady_124 (lv_at hl 5 rfl) ?_
          refine q_csI (As := [.int x7]) (rest := []) hC hS hl.1 (rJ6_bitCount_0f7a4 hp) cwX10_232 ysJ6_bitCount_0f7a4 rfl rfl (Nat.le_of_ble_eq_true rfl) (rmk (by decide) (by decide)) dX10_steady_126 (fun r_10 w_11 H locs hp hS => ?_)
          refine lv_iload hx hb dX10_steady_129 (lv_at hl 3 rfl) ?_
          refine lv_icmp_le (tgt := 145) hx hb dX10_steady_131 (by decide) (fun c_12 => ?_) (fun c_12 => ?_)
          · have hp := hp.1 c_12
            exact bX10_steady_145 hC hR ih x3 x4_9 x5 x6 x7 w_11 _ _ _ hp hS (lv_sub hl [1, 2, 0, 3, 4, 5] rfl)
          · have hp := hp.2 c_12
            refine lv_iload hx hb dX10_steady_134 (lv_at hl 5 rfl) ?_
            refine q_csI (As := [.int x7]) (rest := []) hC hS hl.1 (rJ6_bitCount_0f7a4 hp) cwX10_232 ysJ6_bitCount_0f7a4 rfl rfl (Nat.le_of_ble_eq_true rfl) (rmk (by decide) (by decide)) dX10_steady_136 (fun r_13 w_14 H locs hp hS => ?_)
            refine lv_istore (lv' := [(5, .int r_13), (4, .int x4_9), (0, .ref (g.2.2 0)), (3, .int x3), (6, .int x6), (7, .int x7)]) hx hb dX10_steady_139 hl (by decide) rfl (fun ls hl => ?_)
            refine lv_iload hx hb dX10_steady_141 (lv_at hl 5 rfl) ?_
            refine lv_istore (lv' := [(6, .int x7), (5, .int r_13), (4, .int x4_9), (0, .ref (g.2.2 0)), (3, .int x3), (7, .int x7)]) hx hb dX10_steady_143 hl (by decide) rfl (fun ls hl => ?_)
            exact bX10_steady_145 hC hR ih x3 x4_9 r_13 x7 x7 w_14 _ _ _ hp hS (lv_sub hl [3, 4, 2, 1, 0, 5] rfl)
set_option maxHeartbeats 4000000 in
set_option maxRecDepth 100000 in
theorem bX10_steady_29 {p : Program} {l : Launch} {e : Env} {s : State} {m : MethodId} {args : Array Value} {below : List Frame} {meth : Method} {c : Code} {Q : State → Prop} {A : Nat → Prop} {g : Gw} {post : Int32 → Wd → Prop}  (hC : Cx p s m args c cX10_steady RX10 8 g) (hR : RtI tabX p l e (rk 5) s m args below meth c Q cX10_steady A g post)  : ∀ (n : Nat) (x1 : Int32) (x2 : Int32) (x3 : Int32) (x4 : Int32) (w : Wd) (H : Heap) (locs : List Loc) (ls : Array Slot), pX10_steady_29 post n x1 x2 x3 x4 w → St tabX A s.heap g w H locs → lv_has ls 8 [(0, .ref (g.2.2 0)), (1, .int x1), (2, .int x2), (3, .int x3), (4, .int x4)] → W p l e (rk 5) s m args below meth c H locs 0 0 Q (F0 m 29 ls []) := by
  have hx := hC.1
  have hb := hC.2.1
  intro n
  induction n with
  | zero =>
    intro x1 x2 x3 x4 w H locs ls hp hS hl
    exact False.elim hp
  | succ n ih =>
    intro x1 x2 x3 x4 w H locs ls hp hS hl
    unfold pX10_steady_29 at hp
    refine lv_iload hx hb dX10_steady_29 (lv_at hl 4 rfl) ?_
    refine lv_aload_n hx hb dX10_steady_31 rfl (lv_at hl 0 rfl) ?_
    refine G_0_16 hC hS m21 dX10_steady_32 ?_
    refine q_cvI (As := []) (rest := [.int x4]) hC hS hl.1 (rX7_rows hp) cwX10_240 yvX7_rows (rcvR hC hS) rfl rfl (Nat.le_of_ble_eq_true rfl) (rmk (by decide) (by decide)) dX10_steady_35 (fun r_1 w_2 H locs hp hS => ?_)
    refine lv_icmp_ge (tgt := 66) hx hb dX10_steady_38 (by decide) (fun c_3 => ?_) (fun c_3 => ?_)
    · have hp := hp.1 c_3
      refine lv_iconst hx hb dX10_steady_66 kI_0 ?_
      refine lv_istore (lv' := [(4, .int (0 : Int32)), (0, .ref (g.2.2 0)), (1, .int x1), (2, .int x2), (3, .int x3)]) hx hb dX10_steady_67 hl (by decide) rfl (fun ls hl => ?_)
      refine lv_iconst hx hb dX10_steady_69 kI_m1 ?_
      refine lv_istore (lv' := [(5, .int (-1 : Int32)), (4, .int (0 : Int32)), (0, .ref (g.2.2 0)), (1, .int x1), (2, .int x2), (3, .int x3)]) hx hb dX10_steady_70 hl (by decide) rfl (fun ls hl => ?_)
      refine lv_iconst hx hb dX10_steady_72 kI_m1 ?_
      refine lv_istore (lv' := [(6, .int (-1 : Int32)), (5, .int (-1 : Int32)), (4, .int (0 : Int32)), (0, .ref (g.2.2 0)), (1, .int x1), (2, .int x2), (3, .int x3)]) hx hb dX10_steady_73 hl (by decide) rfl (fun ls hl => ?_)
      refine lv_iconst hx hb dX10_steady_75 kI_0 ?_
      refine lv_istore (lv' := [(7, .int (0 : Int32)), (6, .int (-1 : Int32)), (5, .int (-1 : Int32)), (4, .int (0 : Int32)), (0, .ref (g.2.2 0)), (1, .int x1), (2, .int x2), (3, .int x3)]) hx hb dX10_steady_76 hl (by decide) rfl (fun ls hl => ?_)
      obtain ⟨n9, hp⟩ := hp
      exact bX10_steady_78 hC hR n9 x3 (0 : Int32) (-1 : Int32) (-1 : Int32) (0 : Int32) w_2 _ _ _ hp hS (lv_sub hl [4, 7, 3, 2, 1, 0] rfl)
    · have hp := hp.2 c_3
      refine lv_aload_n hx hb dX10_steady_41 rfl (lv_at hl 0 rfl) ?_
      refine G_0_12 hC hS m59 dX10_steady_42 ?_
      refine lv_iload hx hb dX10_steady_45 (lv_at hl 4 rfl) ?_
      refine lv_aload_n hx hb dX10_steady_47 rfl (lv_at hl 0 rfl) ?_
      refine G_0_4 hC hS m34 dX10_steady_48 ?_
      refine lv_iload hx hb dX10_steady_51 (lv_at hl 4 rfl) ?_
      refine lv_iload_n hx hb dX10_steady_53 rfl (lv_at hl 1 rfl) ?_
      refine lv_iload_n hx hb dX10_steady_54 rfl (lv_at hl 2 rfl) ?_
      refine lv_iconst hx hb dX10_steady_55 kI_0 ?_
      refine q_cvI (As := [.int x4, .int x1, .int x2, .int (0 : Int32)]) (rest := [.int x4, .ref (g.2.2 13)]) hC hS hl.1 (rX1_rowAfter hp) cwX10_196 yvX1_rowAfter (rcv_40 hC hS) rfl rfl (Nat.le_of_ble_eq_true rfl) (rmk (by decide) (by decide)) dX10_steady_56 (fun r_4 w_5 H locs hp hS => ?_)
      refine Sa_13 hC hS hp.1 dX10_steady_59 (fun w_6 H locs ew_6 hS => ?_)
      have hp := hp.2
      have hp := hp w_6 ew_6
      obtain ⟨x4_7, ex4_7⟩ : ∃ y : Int32, y = x4 + (1 : Int32) := ⟨_, rfl⟩
      have hp := hp x4_7 ex4_7
      refine lv_iinc (v := x4_7) (lv' := [(4, .int x4_7), (0, .ref (g.2.2 0)), (1, .int x1), (2, .int x2), (3, .int x3)]) hx hb dX10_steady_60 hl (k := 4) rfl (by rw [ex4_7]; rfl) (by decide) rfl (fun ls hl => ?_)
      refine lv_goto (tgt := 29) hx hb dX10_steady_63 (by decide) ?_
      exact ih x1 x2 x3 x4_7 w_6 _ _ _ hp hS (lv_sub hl [1, 2, 3, 4, 0] rfl)
set_option maxHeartbeats 4000000 in
set_option maxRecDepth 100000 in
theorem rX10_steady {l : Launch} {g : Gw} {w : Wd} {post : Int32 → Wd → Prop}   {x1 : Int32} {x2 : Int32} {x3 : Int32} (hp : pX10_steady post x1 x2 x3 w) : MtI tabX l yX10_steady cX10_steady 8 (some .int) 5 g w [.ref (g.2.2 0), .int x1, .int x2, .int x3] post := by
  refine q_entI tabX_nd (by decide) rfl (Nat.le_of_ble_eq_true rfl) ?_
  intro p e s m args below meth c A Q ls hC hR hS hl
  have hx := hC.1
  have hb := hC.2.1
  have hl : lv_has ls 8 [(0, .ref (g.2.2 0)), (1, .int x1), (2, .int x2), (3, .int x3)] := hl
  unfold pX10_steady at hp
  refine lv_aload_n hx hb dX10_steady_0 rfl (lv_at hl 0 rfl) ?_
  refine lv_iload_n hx hb dX10_steady_1 rfl (lv_at hl 1 rfl) ?_
  refine q_cvI (As := [.int x1]) (rest := []) hC hS hl.1 (rX10_isHand hp) cwX10_190 yvX10_isHand (rcv_0 hC hS) rfl rfl (Nat.le_of_ble_eq_true rfl) (rmk (by decide) (by decide)) dX10_steady_2 (fun r_1 w_2 H locs hp hS => ?_)
  refine lv_if_eq (tgt := 24) hx hb dX10_steady_5 (by decide) (fun c_3 => ?_) (fun c_3 => ?_)
  · have hp := hp.1 c_3
    refine lv_iconst hx hb dX10_steady_24 kI_m1 ?_
    exact hR _ _ _ _ _ _ dX10_steady_25 hp hS
  · have hp := hp.2 c_3
    refine lv_iload_n hx hb dX10_steady_8 rfl (lv_at hl 2 rfl) ?_
    refine q_csI (As := [.int x2]) (rest := []) hC hS hl.1 (rX10_isHeat hp) cwX10_193 ysX10_isHeat rfl rfl (Nat.le_of_ble_eq_true rfl) (rmk (by decide) (by decide)) dX10_steady_9 (fun r_4 w_5 H locs hp hS => ?_)
    refine lv_if_eq (tgt := 24) hx hb dX10_steady_12 (by decide) (fun c_6 => ?_) (fun c_6 => ?_)
    · have hp := hp.1 c_6
      refine lv_iconst hx hb dX10_steady_24 kI_m1 ?_
      exact hR _ _ _ _ _ _ dX10_steady_25 hp hS
    · have hp := hp.2 c_6
      refine lv_iload_n hx hb dX10_steady_15 rfl (lv_at hl 3 rfl) ?_
      refine lv_if_lt (tgt := 24) hx hb dX10_steady_16 (by decide) (fun c_7 => ?_) (fun c_7 => ?_)
      · have hp := hp.1 c_7
        refine lv_iconst hx hb dX10_steady_24 kI_m1 ?_
        exact hR _ _ _ _ _ _ dX10_steady_25 hp hS
      · have hp := hp.2 c_7
        refine lv_iload_n hx hb dX10_steady_19 rfl (lv_at hl 3 rfl) ?_
        refine lv_iconst hx hb dX10_steady_20 kI_1 ?_
        refine lv_icmp_le (tgt := 26) hx hb dX10_steady_21 (by decide) (fun c_8 => ?_) (fun c_8 => ?_)
        · have hp := hp.1 c_8
          refine lv_iconst hx hb dX10_steady_26 kI_0 ?_
          refine lv_istore (lv' := [(4, .int (0 : Int32)), (0, .ref (g.2.2 0)), (1, .int x1), (2, .int x2), (3, .int x3)]) hx hb dX10_steady_27 hl (by decide) rfl (fun ls hl => ?_)
          obtain ⟨n9, hp⟩ := hp
          exact bX10_steady_29 hC hR n9 x1 x2 x3 (0 : Int32) w_5 _ _ _ hp hS (lv_sub hl [1, 2, 3, 4, 0] rfl)
        · have hp := hp.2 c_8
          refine lv_iconst hx hb dX10_steady_24 kI_m1 ?_
          exact hR _ _ _ _ _ _ dX10_steady_25 hp hS
def pX10_against_73 (k31 : Int32 → Int32 → Int32 → Int32 → Int32 → Wd → Prop) (post : Int32 → Wd → Prop) (x1 : Int32) (x2 : Int32) (x3 : Int32) (x4 : Int32) (x5 : Int32) (w : Wd) : Prop := ∀ x5_1, x5_1 = x5 + (1 : Int32) → k31 x1 x2 x3 x4 x5_1 w
def pX10_against_31 (post : Int32 → Wd → Prop) : Nat → Int32 → Int32 → Int32 → Int32 → Int32 → Wd → Prop
  | 0, _, _, _, _, _, _ => False
  | n + 1, x1, x2, x3, x4, x5, w => pX7_rows (fun r_1 w_2 => (r_1 ≤ x5 → (post x4 w_2)) ∧ (¬ r_1 ≤ x5 → (pX1_rowAfter (fun r_4 w_5 => pX1_rowAfter (fun r_6 w_7 => (r_4 = r_6 → (pX10_against_73 (pX10_against_31 post n) post x1 x2 x3 x4 x5 w_7)) ∧ (¬ r_4 = r_6 → (∀ x4_9, x4_9 = x4 + (1 : Int32) → pX10_against_73 (pX10_against_31 post n) post x1 x2 x3 x4_9 x5 w_7))) x5 x2 x3 (0 : Int32) w_5) x5 x1 x3 (0 : Int32) w_2))) (w.2.2.2.2 0) w
def pX10_against (post : Int32 → Wd → Prop) (x1 : Int32) (x2 : Int32) (x3 : Int32) (w : Wd) : Prop := pX10_isHand (fun r_1 w_2 => (r_1 = 0 → (post (-1 : Int32) w_2)) ∧ (¬ r_1 = 0 → (pX10_isHand (fun r_4 w_5 => (r_4 = 0 → (post (-1 : Int32) w_5)) ∧ (¬ r_4 = 0 → (pX10_isHeat (fun r_7 w_8 => (¬ r_7 = 0 → (∃ n9, pX10_against_31 post n9 x1 x2 x3 (0 : Int32) (0 : Int32) w_8)) ∧ (r_7 = 0 → (post (-1 : Int32) w_8))) x3 w_5))) x2 w_2))) x1 w
set_option maxHeartbeats 4000000 in
set_option maxRecDepth 100000 in
theorem bX10_against_73 {p : Program} {l : Launch} {e : Env} {s : State} {m : MethodId} {args : Array Value} {below : List Frame} {meth : Method} {c : Code} {Q : State → Prop} {A : Nat → Prop} {g : Gw} {post : Int32 → Wd → Prop}  (hC : Cx p s m args c cX10_against RX10 6 g) (hR : RtI tabX p l e (rk 5) s m args below meth c Q cX10_against A g post)  {k31 : Int32 → Int32 → Int32 → Int32 → Int32 → Wd → Prop} (hk31 : ∀ (x1 : Int32) (x2 : Int32) (x3 : Int32) (x4 : Int32) (x5 : Int32) (w : Wd) (H : Heap) (locs : List Loc) (ls : Array Slot), k31 x1 x2 x3 x4 x5 w → St tabX A s.heap g w H locs → lv_has ls 6 [(0, .ref (g.2.2 0)), (1, .int x1), (2, .int x2), (3, .int x3), (4, .int x4), (5, .int x5)] → W p l e (rk 5) s m args below meth c H locs 0 0 Q (F0 m 31 ls [])) : ∀ (x1 : Int32) (x2 : Int32) (x3 : Int32) (x4 : Int32) (x5 : Int32) (w : Wd) (H : Heap) (locs : List Loc) (ls : Array Slot), pX10_against_73 k31 post x1 x2 x3 x4 x5 w → St tabX A s.heap g w H locs → lv_has ls 6 [(0, .ref (g.2.2 0)), (1, .int x1), (2, .int x2), (3, .int x3), (4, .int x4), (5, .int x5)] → W p l e (rk 5) s m args below meth c H locs 0 0 Q (F0 m 73 ls []) := by
  have hx := hC.1
  have hb := hC.2.1
  intro x1 x2 x3 x4 x5 w H locs ls hp hS hl
  unfold pX10_against_73 at hp
  obtain ⟨x5_1, ex5_1⟩ : ∃ y : Int32, y = x5 + (1 : Int32) := ⟨_, rfl⟩
  have hp := hp x5_1 ex5_1
  refine lv_iinc (v := x5_1) (lv' := [(5, .int x5_1), (0, .ref (g.2.2 0)), (1, .int x1), (2, .int x2), (3, .int x3), (4, .int x4)]) hx hb dX10_against_73 hl (k := 5) rfl (by rw [ex5_1]; rfl) (by decide) rfl (fun ls hl => ?_)
  refine lv_goto (tgt := 31) hx hb dX10_against_76 (by decide) ?_
  exact hk31 x1 x2 x3 x4 x5_1 w _ _ _ hp hS (lv_sub hl [1, 2, 3, 4, 5, 0] rfl)
set_option maxHeartbeats 4000000 in
set_option maxRecDepth 100000 in
theorem bX10_against_31 {p : Program} {l : Launch} {e : Env} {s : State} {m : MethodId} {args : Array Value} {below : List Frame} {meth : Method} {c : Code} {Q : State → Prop} {A : Nat → Prop} {g : Gw} {post : Int32 → Wd → Prop}  (hC : Cx p s m args c cX10_against RX10 6 g) (hR : RtI tabX p l e (rk 5) s m args below meth c Q cX10_against A g post)  : ∀ (n : Nat) (x1 : Int32) (x2 : Int32) (x3 : Int32) (x4 : Int32) (x5 : Int32) (w : Wd) (H : Heap) (locs : List Loc) (ls : Array Slot), pX10_against_31 post n x1 x2 x3 x4 x5 w → St tabX A s.heap g w H locs → lv_has ls 6 [(0, .ref (g.2.2 0)), (1, .int x1), (2, .int x2), (3, .int x3), (4, .int x4), (5, .int x5)] → W p l e (rk 5) s m args below meth c H locs 0 0 Q (F0 m 31 ls []) := by
  have hx := hC.1
  have hb := hC.2.1
  intro n
  induction n with
  | zero =>
    intro x1 x2 x3 x4 x5 w H locs ls hp hS hl
    exact False.elim hp
  | succ n ih =>
    intro x1 x2 x3 x4 x5 w H locs ls hp hS hl
    unfold pX10_against_31 at hp
    refine lv_iload hx hb dX10_against_31 (lv_at hl 5 rfl) ?_
    refine lv_aload_n hx hb dX10_against_33 rfl (lv_at hl 0 rfl) ?_
    refine G_0_16 hC hS m21 dX10_against_34 ?_
    refine q_cvI (As := []) (rest := [.int x5]) hC hS hl.1 (rX7_rows hp) cwX10_240 yvX7_rows (rcvR hC hS) rfl rfl (Nat.le_of_ble_eq_true rfl) (rmk (by decide) (by decide)) dX10_against_37 (fun r_1 w_2 H locs hp hS => ?_)
    refine lv_icmp_ge (tgt := 79) hx hb dX10_against_40 (by decide) (fun c_3 => ?_) (fun c_3 => ?_)
    · have hp := hp.1 c_3
      refine lv_iload hx hb dX10_against_79 (lv_at hl 4 rfl) ?_
      exact hR _ _ _ _ _ _ dX10_against_81 hp hS
    · have hp := hp.2 c_3
      refine lv_aload_n hx hb dX10_against_43 rfl (lv_at hl 0 rfl) ?_
      refine G_0_4 hC hS m34 dX10_against_44 ?_
      refine lv_iload hx hb dX10_against_47 (lv_at hl 5 rfl) ?_
      refine lv_iload_n hx hb dX10_against_49 rfl (lv_at hl 1 rfl) ?_
      refine lv_iload_n hx hb dX10_against_50 rfl (lv_at hl 3 rfl) ?_
      refine lv_iconst hx hb dX10_against_51 kI_0 ?_
      refine q_cvI (As := [.int x5, .int x1, .int x3, .int (0 : Int32)]) (rest := []) hC hS hl.1 (rX1_rowAfter hp) cwX10_196 yvX1_rowAfter (rcv_40 hC hS) rfl rfl (Nat.le_of_ble_eq_true rfl) (rmk (by decide) (by decide)) dX10_against_52 (fun r_4 w_5 H locs hp hS => ?_)
      refine lv_aload_n hx hb dX10_against_55 rfl (lv_at hl 0 rfl) ?_
      refine G_0_4 hC hS m34 dX10_against_56 ?_
      refine lv_iload hx hb dX10_against_59 (lv_at hl 5 rfl) ?_
      refine lv_iload_n hx hb dX10_against_61 rfl (lv_at hl 2 rfl) ?_
      refine lv_iload_n hx hb dX10_against_62 rfl (lv_at hl 3 rfl) ?_
      refine lv_iconst hx hb dX10_against_63 kI_0 ?_
      refine q_cvI (As := [.int x5, .int x2, .int x3, .int (0 : Int32)]) (rest := [.int r_4]) hC hS hl.1 (rX1_rowAfter hp) cwX10_196 yvX1_rowAfter (rcv_40 hC hS) rfl rfl (Nat.le_of_ble_eq_true rfl) (rmk (by decide) (by decide)) dX10_against_64 (fun r_6 w_7 H locs hp hS => ?_)
      refine lv_icmp_eq (tgt := 73) hx hb dX10_against_67 (by decide) (fun c_8 => ?_) (fun c_8 => ?_)
      · have hp := hp.1 c_8
        exact bX10_against_73 hC hR ih x1 x2 x3 x4 x5 w_7 _ _ _ hp hS (lv_sub hl [0, 1, 2, 3, 4, 5] rfl)
      · have hp := hp.2 c_8
        obtain ⟨x4_9, ex4_9⟩ : ∃ y : Int32, y = x4 + (1 : Int32) := ⟨_, rfl⟩
        have hp := hp x4_9 ex4_9
        refine lv_iinc (v := x4_9) (lv' := [(4, .int x4_9), (0, .ref (g.2.2 0)), (1, .int x1), (2, .int x2), (3, .int x3), (5, .int x5)]) hx hb dX10_against_70 hl (k := 4) rfl (by rw [ex4_9]; rfl) (by decide) rfl (fun ls hl => ?_)
        exact bX10_against_73 hC hR ih x1 x2 x3 x4_9 x5 w_7 _ _ _ hp hS (lv_sub hl [1, 2, 3, 4, 0, 5] rfl)
set_option maxHeartbeats 4000000 in
set_option maxRecDepth 100000 in
theorem rX10_against {l : Launch} {g : Gw} {w : Wd} {post : Int32 → Wd → Prop}   {x1 : Int32} {x2 : Int32} {x3 : Int32} (hp : pX10_against post x1 x2 x3 w) : MtI tabX l yX10_against cX10_against 6 (some .int) 5 g w [.ref (g.2.2 0), .int x1, .int x2, .int x3] post := by
  refine q_entI tabX_nd (by decide) rfl (Nat.le_of_ble_eq_true rfl) ?_
  intro p e s m args below meth c A Q ls hC hR hS hl
  have hx := hC.1
  have hb := hC.2.1
  have hl : lv_has ls 6 [(0, .ref (g.2.2 0)), (1, .int x1), (2, .int x2), (3, .int x3)] := hl
  unfold pX10_against at hp
  refine lv_aload_n hx hb dX10_against_0 rfl (lv_at hl 0 rfl) ?_
  refine lv_iload_n hx hb dX10_against_1 rfl (lv_at hl 1 rfl) ?_
  refine q_cvI (As := [.int x1]) (rest := []) hC hS hl.1 (rX10_isHand hp) cwX10_190 yvX10_isHand (rcv_0 hC hS) rfl rfl (Nat.le_of_ble_eq_true rfl) (rmk (by decide) (by decide)) dX10_against_2 (fun r_1 w_2 H locs hp hS => ?_)
  refine lv_if_eq (tgt := 23) hx hb dX10_against_5 (by decide) (fun c_3 => ?_) (fun c_3 => ?_)
  · have hp := hp.1 c_3
    refine lv_iconst hx hb dX10_against_23 kI_m1 ?_
    exact hR _ _ _ _ _ _ dX10_against_24 hp hS
  · have hp := hp.2 c_3
    refine lv_aload_n hx hb dX10_against_8 rfl (lv_at hl 0 rfl) ?_
    refine lv_iload_n hx hb dX10_against_9 rfl (lv_at hl 2 rfl) ?_
    refine q_cvI (As := [.int x2]) (rest := []) hC hS hl.1 (rX10_isHand hp) cwX10_190 yvX10_isHand (rcv_0 hC hS) rfl rfl (Nat.le_of_ble_eq_true rfl) (rmk (by decide) (by decide)) dX10_against_10 (fun r_4 w_5 H locs hp hS => ?_)
    refine lv_if_eq (tgt := 23) hx hb dX10_against_13 (by decide) (fun c_6 => ?_) (fun c_6 => ?_)
    · have hp := hp.1 c_6
      refine lv_iconst hx hb dX10_against_23 kI_m1 ?_
      exact hR _ _ _ _ _ _ dX10_against_24 hp hS
    · have hp := hp.2 c_6
      refine lv_iload_n hx hb dX10_against_16 rfl (lv_at hl 3 rfl) ?_
      refine q_csI (As := [.int x3]) (rest := []) hC hS hl.1 (rX10_isHeat hp) cwX10_193 ysX10_isHeat rfl rfl (Nat.le_of_ble_eq_true rfl) (rmk (by decide) (by decide)) dX10_against_17 (fun r_7 w_8 H locs hp hS => ?_)
      refine lv_if_ne (tgt := 25) hx hb dX10_against_20 (by decide) (fun c_9 => ?_) (fun c_9 => ?_)
      · have hp := hp.1 c_9
        refine lv_iconst hx hb dX10_against_25 kI_0 ?_
        refine lv_istore (lv' := [(4, .int (0 : Int32)), (0, .ref (g.2.2 0)), (1, .int x1), (2, .int x2), (3, .int x3)]) hx hb dX10_against_26 hl (by decide) rfl (fun ls hl => ?_)
        refine lv_iconst hx hb dX10_against_28 kI_0 ?_
        refine lv_istore (lv' := [(5, .int (0 : Int32)), (4, .int (0 : Int32)), (0, .ref (g.2.2 0)), (1, .int x1), (2, .int x2), (3, .int x3)]) hx hb dX10_against_29 hl (by decide) rfl (fun ls hl => ?_)
        obtain ⟨n9, hp⟩ := hp
        exact bX10_against_31 hC hR n9 x1 x2 x3 (0 : Int32) (0 : Int32) w_8 _ _ _ hp hS (lv_sub hl [2, 3, 4, 5, 1, 0] rfl)
      · have hp := hp.2 c_9
        refine lv_iconst hx hb dX10_against_23 kI_m1 ?_
        exact hR _ _ _ _ _ _ dX10_against_24 hp hS
def pX1_handCount (post : Int32 → Wd → Prop)  (w : Wd) : Prop := post (w.1 (rl (w.2.2.2.2 3)) 2) w
set_option maxHeartbeats 4000000 in
set_option maxRecDepth 100000 in
theorem rX1_handCount {l : Launch} {g : Gw} {w : Wd} {post : Int32 → Wd → Prop}    (hp : pX1_handCount post  w) : MtI tabX l yX1_handCount cX1_handCount 1 (some .int) 1 g w [.ref (g.2.2 40)] post := by
  refine q_entI tabX_nd (by decide) rfl (Nat.le_of_ble_eq_true rfl) ?_
  intro p e s m args below meth c A Q ls hC hR hS hl
  have hx := hC.1
  have hb := hC.2.1
  have hl : lv_has ls 1 [(0, .ref (g.2.2 40))] := hl
  unfold pX1_handCount at hp
  refine lv_aload_n hx hb dX1_handCount_0 rfl (lv_at hl 0 rfl) ?_
  refine G_40_1 hC hS m168 dX1_handCount_1 ?_
  refine GR_2 hC hS m705 dX1_handCount_4 ?_
  exact hR _ _ _ _ _ _ dX1_handCount_7 hp hS
def pX1_isHeatUsed (post : Int32 → Wd → Prop) (x1 : Int32) (w : Wd) : Prop := pX7_isUsed (fun r_1 w_2 => r_1 = vp_nar .boolean r_1 ∧ post r_1 w_2) (w.2.2.2.2 3) x1 (6 : Int32) w
set_option maxHeartbeats 4000000 in
set_option maxRecDepth 100000 in
theorem rX1_isHeatUsed {l : Launch} {g : Gw} {w : Wd} {post : Int32 → Wd → Prop}   {x1 : Int32} (hp : pX1_isHeatUsed post x1 w) : MtI tabX l yX1_isHeatUsed cX1_isHeatUsed 2 (some .boolean) 2 g w [.ref (g.2.2 40), .int x1] post := by
  refine q_entZ tabX_nd (by decide) rfl (Nat.le_of_ble_eq_true rfl) ?_
  intro p e s m args below meth c A Q ls hC hR hS hl
  have hx := hC.1
  have hb := hC.2.1
  have hl : lv_has ls 2 [(0, .ref (g.2.2 40)), (1, .int x1)] := hl
  unfold pX1_isHeatUsed at hp
  refine lv_aload_n hx hb dX1_isHeatUsed_0 rfl (lv_at hl 0 rfl) ?_
  refine G_40_1 hC hS m168 dX1_isHeatUsed_1 ?_
  refine lv_iload_n hx hb dX1_isHeatUsed_4 rfl (lv_at hl 1 rfl) ?_
  refine lv_bipush hx hb dX1_isHeatUsed_5 kB_6 ?_
  refine q_cvI (As := [.int x1, .int (6 : Int32)]) (rest := []) hC hS hl.1 (rX7_isUsed hp) cwX1_32 yvX7_isUsed (rcvR hC hS) rfl rfl (Nat.le_of_ble_eq_true rfl) (rmk (by decide) (by decide)) dX1_isHeatUsed_7 (fun r_1 w_2 H locs hp hS => ?_)
  exact hR _ _ _ _ _ _ dX1_isHeatUsed_10 hp.1 hp.2 hS
def pX9_heatsOf (post : Int32 → Wd → Prop) (x1 : Int32) (w : Wd) : Prop := pX1_isHeatUsed (fun r_1 w_2 => (r_1 = 0 → (post (1 : Int32) w_2)) ∧ (¬ r_1 = 0 → (post (4 : Int32) w_2))) x1 w
set_option maxHeartbeats 4000000 in
set_option maxRecDepth 100000 in
theorem rX9_heatsOf {l : Launch} {g : Gw} {w : Wd} {post : Int32 → Wd → Prop}   {x1 : Int32} (hp : pX9_heatsOf post x1 w) : MtI tabX l yX9_heatsOf cX9_heatsOf 2 (some .int) 3 g w [.ref (g.2.2 60), .int x1] post := by
  refine q_entI tabX_nd (by decide) rfl (Nat.le_of_ble_eq_true rfl) ?_
  intro p e s m args below meth c A Q ls hC hR hS hl
  have hx := hC.1
  have hb := hC.2.1
  have hl : lv_has ls 2 [(0, .ref (g.2.2 60)), (1, .int x1)] := hl
  unfold pX9_heatsOf at hp
  refine lv_aload_n hx hb dX9_heatsOf_0 rfl (lv_at hl 0 rfl) ?_
  refine G_60_1 hC hS m189 dX9_heatsOf_1 ?_
  refine lv_iload_n hx hb dX9_heatsOf_4 rfl (lv_at hl 1 rfl) ?_
  refine q_cvI (As := [.int x1]) (rest := []) hC hS hl.1 (rX1_isHeatUsed hp) cwX9_74 yvX1_isHeatUsed (rcv_40 hC hS) rfl rfl (Nat.le_of_ble_eq_true rfl) (rmk (by decide) (by decide)) dX9_heatsOf_5 (fun r_1 w_2 H locs hp hS => ?_)
  refine lv_if_eq (tgt := 15) hx hb dX9_heatsOf_8 (by decide) (fun c_3 => ?_) (fun c_3 => ?_)
  · have hp := hp.1 c_3
    refine lv_iconst hx hb dX9_heatsOf_15 kI_1 ?_
    exact hR _ _ _ _ _ _ dX9_heatsOf_16 hp hS
  · have hp := hp.2 c_3
    refine lv_iconst hx hb dX9_heatsOf_11 kI_4 ?_
    refine lv_goto (tgt := 16) hx hb dX9_heatsOf_12 (by decide) ?_
    exact hR _ _ _ _ _ _ dX9_heatsOf_16 hp hS
def pX9_waxFrom_174 (k97 : Int32 → Int32 → Int32 → Int32 → Int32 → Int32 → Wd → Prop) (qX9_waxFrom : (Int32 → Wd → Prop) → Int32 → Int32 → Wd → Prop) (post : Int32 → Wd → Prop) (x1 : Int32) (x2 : Int32) (x3 : Int32) (x4 : Int32) (x5 : Int32) (x6 : Int32) (w : Wd) : Prop := ∀ x6_1, x6_1 = x6 + (1 : Int32) → k97 x1 x2 x3 x4 x5 x6_1 w
def pX9_waxFrom_112 (k97 : Int32 → Int32 → Int32 → Int32 → Int32 → Int32 → Wd → Prop) (qX9_waxFrom : (Int32 → Wd → Prop) → Int32 → Int32 → Wd → Prop) (post : Int32 → Wd → Prop) : Nat → Int32 → Int32 → Int32 → Int32 → Int32 → Int32 → Int32 → Wd → Prop
  | 0, _, _, _, _, _, _, _, _ => False
  | n + 1, x1, x2, x3, x4, x5, x6, x7, w => pX9_heatsOf (fun r_1 w_2 => (r_1 ≤ x7 → (pX9_waxFrom_174 k97 qX9_waxFrom post x1 x2 x3 x4 x5 x6 w_2)) ∧ (¬ r_1 ≤ x7 → ((x5 ≤ ((1 : Int32) + x7) → (pX9_waxFrom_174 k97 qX9_waxFrom post x1 x2 x3 x4 x5 x6 w_2)) ∧ (¬ x5 ≤ ((1 : Int32) + x7) → (pX1_rowAfter (fun r_5 w_6 => qX9_waxFrom (fun r_7 w_8 => ∀ x5_9, x5_9 = (if (((1 : Int32) + x7) + r_7) < x5 then (((1 : Int32) + x7) + r_7) else x5) → ∀ x7_10, x7_10 = x7 + (1 : Int32) → pX9_waxFrom_112 k97 qX9_waxFrom post n x1 x2 x3 x4 x5_9 x6 x7_10 w_8) r_5 (x2 - (1 : Int32)) w_6) x1 x6 x7 (0 : Int32) w_2))))) x6 w
def pX9_waxFrom_97 (qX9_waxFrom : (Int32 → Wd → Prop) → Int32 → Int32 → Wd → Prop) (post : Int32 → Wd → Prop) : Nat → Int32 → Int32 → Int32 → Int32 → Int32 → Int32 → Wd → Prop
  | 0, _, _, _, _, _, _, _ => False
  | n + 1, x1, x2, x3, x4, x5, x6, w => pX1_handCount (fun r_1 w_2 => (r_1 ≤ x6 → ((x4 = 0 → (post x5 w_2)) ∧ (¬ x4 = 0 → (vp_in x3 12288 ∧ ∀ w_5, w_5 = sA w_2 63 x3.toNatClampNeg x5 → post x5 w_5)))) ∧ (¬ r_1 ≤ x6 → (∃ n9, pX9_waxFrom_112 (pX9_waxFrom_97 qX9_waxFrom post n) qX9_waxFrom post n9 x1 x2 x3 x4 x5 x6 (0 : Int32) w_2))) w
def pX9_waxFrom_89 (qX9_waxFrom : (Int32 → Wd → Prop) → Int32 → Int32 → Wd → Prop) (post : Int32 → Wd → Prop) (x1 : Int32) (x2 : Int32) (x3 : Int32) (x4 : Int32) (w : Wd) : Prop := ∃ n9, pX9_waxFrom_97 qX9_waxFrom post n9 x1 x2 x3 x4 (1000 : Int32) (0 : Int32) w
def pX9_waxFrom_65 (qX9_waxFrom : (Int32 → Wd → Prop) → Int32 → Int32 → Wd → Prop) (post : Int32 → Wd → Prop) (x1 : Int32) (x2 : Int32) (x3 : Int32) (t0 : Int32) (w : Wd) : Prop := (t0 = 0 → (pX9_waxFrom_89 qX9_waxFrom post x1 x2 x3 t0 w)) ∧ (¬ t0 = 0 → (vp_in x3 12288 ∧ ((w.2.1 63 x3.toNatClampNeg) = (-1 : Int32) → (pX9_waxFrom_89 qX9_waxFrom post x1 x2 x3 t0 w)) ∧ (¬ (w.2.1 63 x3.toNatClampNeg) = (-1 : Int32) → (vp_in x3 12288 ∧ post (w.2.1 63 x3.toNatClampNeg) w))))
def pX9_waxFrom_64 (qX9_waxFrom : (Int32 → Wd → Prop) → Int32 → Int32 → Wd → Prop) (post : Int32 → Wd → Prop) (x1 : Int32) (x2 : Int32) (x3 : Int32) (w : Wd) : Prop := pX9_waxFrom_65 qX9_waxFrom post x1 x2 x3 (0 : Int32) w
def pX9_waxFrom (qX9_waxFrom : (Int32 → Wd → Prop) → Int32 → Int32 → Wd → Prop) (post : Int32 → Wd → Prop) (x1 : Int32) (x2 : Int32) (w : Wd) : Prop := (¬ x1 = (w.1 60 3) → ((x2 ≤ 0 → (post (1000 : Int32) w)) ∧ (¬ x2 ≤ 0 → (((4 : Int32) < x2 → (post (1000 : Int32) w)) ∧ (¬ (4 : Int32) < x2 → ((x1 < 0 → (post (1000 : Int32) w)) ∧ (¬ x1 < 0 → ((x1 < (w.1 60 4) → (∀ x3_6, x3_6 = (((x2 - (1 : Int32)) * (w.1 60 4)) + x1) → ((4 : Int32) ≤ x2 → (pX9_waxFrom_64 qX9_waxFrom post x1 x2 x3_6 w)) ∧ (¬ (4 : Int32) ≤ x2 → (((12288 : Int32) ≤ x3_6 → (pX9_waxFrom_64 qX9_waxFrom post x1 x2 x3_6 w)) ∧ (¬ (12288 : Int32) ≤ x3_6 → (pX9_waxFrom_65 qX9_waxFrom post x1 x2 x3_6 (1 : Int32) w)))))) ∧ (¬ x1 < (w.1 60 4) → (post (1000 : Int32) w)))))))))) ∧ (x1 = (w.1 60 3) → (post (0 : Int32) w))
set_option maxHeartbeats 4000000 in
set_option maxRecDepth 100000 in
theorem bX9_waxFrom_174 {p : Program} {l : Launch} {e : Env} {s : State} {m : MethodId} {args : Array Value} {below : List Frame} {meth : Method} {c : Code} {Q : State → Prop} {A : Nat → Prop} {g : Gw} {d : Nat} {qX9_waxFrom : (Int32 → Wd → Prop) → Int32 → Int32 → Wd → Prop} {post : Int32 → Wd → Prop}  (hC : Cx p s m args c cX9_waxFrom RX9 9 g) (hR : RtI tabX p l e (rk (9 + d + 1)) s m args below meth c Q cX9_waxFrom A g post) (hqX9_waxFrom : ∀ {post : Int32 → Wd → Prop} {x1 : Int32} {x2 : Int32} {w : Wd}, qX9_waxFrom post x1 x2 w → MtI tabX l yX9_waxFrom cX9_waxFrom 9 (some .int) (9 + d) g w [.ref (g.2.2 60), .int x1, .int x2] post) {k97 : Int32 → Int32 → Int32 → Int32 → Int32 → Int32 → Wd → Prop} (hk97 : ∀ (x1 : Int32) (x2 : Int32) (x3 : Int32) (x4 : Int32) (x5 : Int32) (x6 : Int32) (w : Wd) (H : Heap) (locs : List Loc) (ls : Array Slot), k97 x1 x2 x3 x4 x5 x6 w → St tabX A s.heap g w H locs → lv_has ls 9 [(0, .ref (g.2.2 60)), (1, .int x1), (2, .int x2), (3, .int x3), (4, .int x4), (5, .int x5), (6, .int x6)] → W p l e (rk (9 + d + 1)) s m args below meth c H locs 0 0 Q (F0 m 97 ls [])) : ∀ (x1 : Int32) (x2 : Int32) (x3 : Int32) (x4 : Int32) (x5 : Int32) (x6 : Int32) (w : Wd) (H : Heap) (locs : List Loc) (ls : Array Slot), pX9_waxFrom_174 k97 qX9_waxFrom post x1 x2 x3 x4 x5 x6 w → St tabX A s.heap g w H locs → lv_has ls 9 [(0, .ref (g.2.2 60)), (1, .int x1), (2, .int x2), (3, .int x3), (4, .int x4), (5, .int x5), (6, .int x6)] → W p l e (rk (9 + d + 1)) s m args below meth c H locs 0 0 Q (F0 m 174 ls []) := by
  have hx := hC.1
  have hb := hC.2.1
  intro x1 x2 x3 x4 x5 x6 w H locs ls hp hS hl
  unfold pX9_waxFrom_174 at hp
  obtain ⟨x6_1, ex6_1⟩ : ∃ y : Int32, y = x6 + (1 : Int32) := ⟨_, rfl⟩
  have hp := hp x6_1 ex6_1
  refine lv_iinc (v := x6_1) (lv' := [(6, .int x6_1), (0, .ref (g.2.2 60)), (1, .int x1), (2, .int x2), (3, .int x3), (4, .int x4), (5, .int x5)]) hx hb dX9_waxFrom_174 hl (k := 6) rfl (by rw [ex6_1]; rfl) (by decide) rfl (fun ls hl => ?_)
  refine lv_goto (tgt := 97) hx hb dX9_waxFrom_177 (by decide) ?_
  exact hk97 x1 x2 x3 x4 x5 x6_1 w _ _ _ hp hS (lv_sub hl [1, 2, 3, 4, 5, 6, 0] rfl)
set_option maxHeartbeats 4000000 in
set_option maxRecDepth 100000 in
theorem bX9_waxFrom_112 {p : Program} {l : Launch} {e : Env} {s : State} {m : MethodId} {args : Array Value} {below : List Frame} {meth : Method} {c : Code} {Q : State → Prop} {A : Nat → Prop} {g : Gw} {d : Nat} {qX9_waxFrom : (Int32 → Wd → Prop) → Int32 → Int32 → Wd → Prop} {post : Int32 → Wd → Prop}  (hC : Cx p s m args c cX9_waxFrom RX9 9 g) (hR : RtI tabX p l e (rk (9 + d + 1)) s m args below meth c Q cX9_waxFrom A g post) (hqX9_waxFrom : ∀ {post : Int32 → Wd → Prop} {x1 : Int32} {x2 : Int32} {w : Wd}, qX9_waxFrom post x1 x2 w → MtI tabX l yX9_waxFrom cX9_waxFrom 9 (some .int) (9 + d) g w [.ref (g.2.2 60), .int x1, .int x2] post) {k97 : Int32 → Int32 → Int32 → Int32 → Int32 → Int32 → Wd → Prop} (hk97 : ∀ (x1 : Int32) (x2 : Int32) (x3 : Int32) (x4 : Int32) (x5 : Int32) (x6 : Int32) (w : Wd) (H : Heap) (locs : List Loc) (ls : Array Slot), k97 x1 x2 x3 x4 x5 x6 w → St tabX A s.heap g w H locs → lv_has ls 9 [(0, .ref (g.2.2 60)), (1, .int x1), (2, .int x2), (3, .int x3), (4, .int x4), (5, .int x5), (6, .int x6)] → W p l e (rk (9 + d + 1)) s m args below meth c H locs 0 0 Q (F0 m 97 ls [])) : ∀ (n : Nat) (x1 : Int32) (x2 : Int32) (x3 : Int32) (x4 : Int32) (x5 : Int32) (x6 : Int32) (x7 : Int32) (w : Wd) (H : Heap) (locs : List Loc) (ls : Array Slot), pX9_waxFrom_112 k97 qX9_waxFrom post n x1 x2 x3 x4 x5 x6 x7 w → St tabX A s.heap g w H locs → lv_has ls 9 [(0, .ref (g.2.2 60)), (1, .int x1), (2, .int x2), (3, .int x3), (4, .int x4), (5, .int x5), (6, .int x6), (7, .int x7)] → W p l e (rk (9 + d + 1)) s m args below meth c H locs 0 0 Q (F0 m 112 ls []) := by
  have hx := hC.1
  have hb := hC.2.1
  intro n
  induction n with
  | zero =>
    intro x1 x2 x3 x4 x5 x6 x7 w H locs ls hp hS hl
    exact False.elim hp
  | succ n ih =>
    intro x1 x2 x3 x4 x5 x6 x7 w H locs ls hp hS hl
    unfold pX9_waxFrom_112 at hp
    refine lv_iload hx hb dX9_waxFrom_112 (lv_at hl 7 rfl) ?_
    refine lv_aload_n hx hb dX9_waxFrom_114 rfl (lv_at hl 0 rfl) ?_
    refine lv_iload hx hb dX9_waxFrom_115 (lv_at hl 6 rfl) ?_
    refine q_cvI (As := [.int x6]) (rest := [.int x7]) hC hS hl.1 (rX9_heatsOf hp) cwX9_70 yvX9_heatsOf (rcv_60 hC hS) rfl rfl (Nat.le_of_ble_eq_true rfl) (rmk (by omega) (by decide)) dX9_waxFrom_117 (fun r_1 w_2 H locs hp hS => ?_)
    refine lv_icmp_ge (tgt := 174) hx hb dX9_waxFrom_120 (by decide) (fun c_3 => ?_) (fun c_3 => ?_)
    · have hp := hp.1 c_3
      exact bX9_waxFrom_174 hC hR hqX9_waxFrom hk97 x1 x2 x3 x4 x5 x6 w_2 _ _ _ hp hS (lv_sub hl [0, 1, 2, 3, 4, 5, 6] rfl)
    · have hp := hp.2 c_3
      refine lv_iconst hx hb dX9_waxFrom_123 kI_1 ?_
      refine lv_iload hx hb dX9_waxFrom_124 (lv_at hl 7 rfl) ?_
      refine lv_iadd hx hb dX9_waxFrom_126 ?_
      refine lv_iload hx hb dX9_waxFrom_127 (lv_at hl 5 rfl) ?_
      refine lv_icmp_ge (tgt := 174) hx hb dX9_waxFrom_129 (by decide) (fun c_4 => ?_) (fun c_4 => ?_)
      · have hp := hp.1 c_4
        exact bX9_waxFrom_174 hC hR hqX9_waxFrom hk97 x1 x2 x3 x4 x5 x6 w_2 _ _ _ hp hS (lv_sub hl [0, 1, 2, 3, 4, 5, 6] rfl)
      · have hp := hp.2 c_4
        refine lv_aload_n hx hb dX9_waxFrom_132 rfl (lv_at hl 0 rfl) ?_
        refine G_60_1 hC hS m189 dX9_waxFrom_133 ?_
        refine lv_iload_n hx hb dX9_waxFrom_136 rfl (lv_at hl 1 rfl) ?_
        refine lv_iload hx hb dX9_waxFrom_137 (lv_at hl 6 rfl) ?_
        refine lv_iload hx hb dX9_waxFrom_139 (lv_at hl 7 rfl) ?_
        refine lv_iconst hx hb dX9_waxFrom_141 kI_0 ?_
        refine q_cvI (As := [.int x1, .int x6, .int x7, .int (0 : Int32)]) (rest := []) hC hS hl.1 (rX1_rowAfter hp) cwX9_60 yvX1_rowAfter (rcv_40 hC hS) rfl rfl (Nat.le_of_ble_eq_true rfl) (rmk (by omega) (by decide)) dX9_waxFrom_142 (fun r_5 w_6 H locs hp hS => ?_)
        refine lv_istore (lv' := [(8, .int r_5), (0, .ref (g.2.2 60)), (1, .int x1), (2, .int x2), (3, .int x3), (4, .int x4), (5, .int x5), (6, .int x6), (7, .int x7)]) hx hb dX9_waxFrom_145 hl (by decide) rfl (fun ls hl => ?_)
        refine lv_iload hx hb dX9_waxFrom_147 (lv_at hl 6 rfl) ?_
        refine lv_iconst hx hb dX9_waxFrom_149 kI_1 ?_
        refine lv_iload hx hb dX9_waxFrom_150 (lv_at hl 8 rfl) ?_
        refine lv_iadd hx hb dX9_waxFrom_152 ?_
        refine lv_aload_n hx hb dX9_waxFrom_153 rfl (lv_at hl 1 rfl) ?_
        refine lv_iload hx hb dX9_waxFrom_154 (lv_at hl 0 rfl) ?_
        refine lv_iload_n hx hb dX9_waxFrom_156 rfl (lv_at hl 3 rfl) ?_
        refine lv_iconst hx hb dX9_waxFrom_157 kI_1 ?_
        refine lv_isub hx hb dX9_waxFrom_158 ?_
        refine q_cvI (As := [.int r_5, .int (x2 - (1 : Int32))]) (rest := [.int ((1 : Int32) + x7), .int x5]) hC hS hl.1 (hqX9_waxFrom hp) cwX9_47 yvX9_waxFrom (rcv_60 hC hS) rfl rfl (Nat.le_of_ble_eq_true rfl) (rmk (by omega) (by decide)) dX9_waxFrom_159 (fun r_7 w_8 H locs hp hS => ?_)
        refine lv_iadd hx hb dX9_waxFrom_162 ?_
        refine q_min hC hl.1 m1115 m347 m348 m349 (rmm (by omega) (Nat.le_of_ble_eq_true rfl)) dX9_waxFrom_163 ?_
        refine lv_topi (fun x5_9 ex5_9 => ?_)
        have hp := hp x5_9 ex5_9
        refine lv_istore (lv' := [(5, .int x5_9), (8, .int r_5), (0, .ref (g.2.2 60)), (1, .int x1), (2, .int x2), (3, .int x3), (4, .int x4), (6, .int x6), (7, .int x7)]) hx hb dX9_waxFrom_166 hl (by decide) rfl (fun ls hl => ?_)
        obtain ⟨x7_10, ex7_10⟩ : ∃ y : Int32, y = x7 + (1 : Int32) := ⟨_, rfl⟩
        have hp := hp x7_10 ex7_10
        refine lv_iinc (v := x7_10) (lv' := [(7, .int x7_10), (5, .int x5_9), (8, .int r_5), (0, .ref (g.2.2 60)), (1, .int x1), (2, .int x2), (3, .int x3), (4, .int x4), (6, .int x6)]) hx hb dX9_waxFrom_168 hl (k := 8) rfl (by rw [ex7_10]; rfl) (by decide) rfl (fun ls hl => ?_)
        refine lv_goto (tgt := 112) hx hb dX9_waxFrom_171 (by decide) ?_
        exact ih x1 x2 x3 x4 x5_9 x6 x7_10 w_8 _ _ _ hp hS (lv_sub hl [3, 4, 5, 6, 7, 1, 8, 0] rfl)
set_option maxHeartbeats 4000000 in
set_option maxRecDepth 100000 in
theorem bX9_waxFrom_97 {p : Program} {l : Launch} {e : Env} {s : State} {m : MethodId} {args : Array Value} {below : List Frame} {meth : Method} {c : Code} {Q : State → Prop} {A : Nat → Prop} {g : Gw} {d : Nat} {qX9_waxFrom : (Int32 → Wd → Prop) → Int32 → Int32 → Wd → Prop} {post : Int32 → Wd → Prop}  (hC : Cx p s m args c cX9_waxFrom RX9 9 g) (hR : RtI tabX p l e (rk (9 + d + 1)) s m args below meth c Q cX9_waxFrom A g post) (hqX9_waxFrom : ∀ {post : Int32 → Wd → Prop} {x1 : Int32} {x2 : Int32} {w : Wd}, qX9_waxFrom post x1 x2 w → MtI tabX l yX9_waxFrom cX9_waxFrom 9 (some .int) (9 + d) g w [.ref (g.2.2 60), .int x1, .int x2] post) : ∀ (n : Nat) (x1 : Int32) (x2 : Int32) (x3 : Int32) (x4 : Int32) (x5 : Int32) (x6 : Int32) (w : Wd) (H : Heap) (locs : List Loc) (ls : Array Slot), pX9_waxFrom_97 qX9_waxFrom post n x1 x2 x3 x4 x5 x6 w → St tabX A s.heap g w H locs → lv_has ls 9 [(0, .ref (g.2.2 60)), (1, .int x1), (2, .int x2), (3, .int x3), (4, .int x4), (5, .int x5), (6, .int x6)] → W p l e (rk (9 + d + 1)) s m args below meth c H locs 0 0 Q (F0 m 97 ls []) := by
  have hx := hC.1
  have hb := hC.2.1
  intro n
  induction n with
  | zero =>
    intro x1 x2 x3 x4 x5 x6 w H locs ls hp hS hl
    exact False.elim hp
  | succ n ih =>
    intro x1 x2 x3 x4 x5 x6 w H locs ls hp hS hl
    unfold pX9_waxFrom_97 at hp
    refine lv_iload hx hb dX9_waxFrom_97 (lv_at hl 6 rfl) ?_
    refine lv_aload_n hx hb dX9_waxFrom_99 rfl (lv_at hl 0 rfl) ?_
    refine G_60_1 hC hS m189 dX9_waxFrom_100 ?_
    refine q_cvI (As := []) (rest := [.int x6]) hC hS hl.1 (rX1_handCount hp) cwX9_66 yvX1_handCount (rcv_40 hC hS) rfl rfl (Nat.le_of_ble_eq_true rfl) (rmk (by omega) (by decide)) dX9_waxFrom_103 (fun r_1 w_2 H locs hp hS => ?_)
    refine lv_icmp_ge (tgt := 180) hx hb dX9_waxFrom_106 (by decide) (fun c_3 => ?_) (fun c_3 => ?_)
    · have hp := hp.1 c_3
      refine lv_iload hx hb dX9_waxFrom_180 (lv_at hl 4 rfl) ?_
      refine lv_if_eq (tgt := 193) hx hb dX9_waxFrom_182 (by decide) (fun c_4 => ?_) (fun c_4 => ?_)
      · have hp := hp.1 c_4
        refine lv_iload hx hb dX9_waxFrom_193 (lv_at hl 5 rfl) ?_
        exact hR _ _ _ _ _ _ dX9_waxFrom_195 hp hS
      · have hp := hp.2 c_4
        refine lv_aload_n hx hb dX9_waxFrom_185 rfl (lv_at hl 0 rfl) ?_
        refine G_60_2 hC hS m190 dX9_waxFrom_186 ?_
        refine lv_iload_n hx hb dX9_waxFrom_189 rfl (lv_at hl 3 rfl) ?_
        refine lv_iload hx hb dX9_waxFrom_190 (lv_at hl 5 rfl) ?_
        refine Sa_63 hC hS hp.1 dX9_waxFrom_192 (fun w_5 H locs ew_5 hS => ?_)
        have hp := hp.2
        have hp := hp w_5 ew_5
        refine lv_iload hx hb dX9_waxFrom_193 (lv_at hl 5 rfl) ?_
        exact hR _ _ _ _ _ _ dX9_waxFrom_195 hp hS
    · have hp := hp.2 c_3
      refine lv_iconst hx hb dX9_waxFrom_109 kI_0 ?_
      refine lv_istore (lv' := [(7, .int (0 : Int32)), (0, .ref (g.2.2 60)), (1, .int x1), (2, .int x2), (3, .int x3), (4, .int x4), (5, .int x5), (6, .int x6)]) hx hb dX9_waxFrom_110 hl (by decide) rfl (fun ls hl => ?_)
      obtain ⟨n9, hp⟩ := hp
      exact bX9_waxFrom_112 hC hR hqX9_waxFrom ih n9 x1 x2 x3 x4 x5 x6 (0 : Int32) w_2 _ _ _ hp hS (lv_sub hl [1, 2, 3, 4, 5, 6, 7, 0] rfl)
set_option maxHeartbeats 4000000 in
set_option maxRecDepth 100000 in
theorem bX9_waxFrom_89 {p : Program} {l : Launch} {e : Env} {s : State} {m : MethodId} {args : Array Value} {below : List Frame} {meth : Method} {c : Code} {Q : State → Prop} {A : Nat → Prop} {g : Gw} {d : Nat} {qX9_waxFrom : (Int32 → Wd → Prop) → Int32 → Int32 → Wd → Prop} {post : Int32 → Wd → Prop}  (hC : Cx p s m args c cX9_waxFrom RX9 9 g) (hR : RtI tabX p l e (rk (9 + d + 1)) s m args below meth c Q cX9_waxFrom A g post) (hqX9_waxFrom : ∀ {post : Int32 → Wd → Prop} {x1 : Int32} {x2 : Int32} {w : Wd}, qX9_waxFrom post x1 x2 w → MtI tabX l yX9_waxFrom cX9_waxFrom 9 (some .int) (9 + d) g w [.ref (g.2.2 60), .int x1, .int x2] post) : ∀ (x1 : Int32) (x2 : Int32) (x3 : Int32) (x4 : Int32) (w : Wd) (H : Heap) (locs : List Loc) (ls : Array Slot), pX9_waxFrom_89 qX9_waxFrom post x1 x2 x3 x4 w → St tabX A s.heap g w H locs → lv_has ls 9 [(0, .ref (g.2.2 60)), (1, .int x1), (2, .int x2), (3, .int x3), (4, .int x4)] → W p l e (rk (9 + d + 1)) s m args below meth c H locs 0 0 Q (F0 m 89 ls []) := by
  have hx := hC.1
  have hb := hC.2.1
  intro x1 x2 x3 x4 w H locs ls hp hS hl
  unfold pX9_waxFrom_89 at hp
  refine lv_sipush hx hb dX9_waxFrom_89 kS_1000 ?_
  refine lv_istore (lv' := [(5, .int (1000 : Int32)), (0, .ref (g.2.2 60)), (1, .int x1), (2, .int x2), (3, .int x3), (4, .int x4)]) hx hb dX9_waxFrom_92 hl (by decide) rfl (fun ls hl => ?_)
  refine lv_iconst hx hb dX9_waxFrom_94 kI_0 ?_
  refine lv_istore (lv' := [(6, .int (0 : Int32)), (5, .int (1000 : Int32)), (0, .ref (g.2.2 60)), (1, .int x1), (2, .int x2), (3, .int x3), (4, .int x4)]) hx hb dX9_waxFrom_95 hl (by decide) rfl (fun ls hl => ?_)
  obtain ⟨n9, hp⟩ := hp
  exact bX9_waxFrom_97 hC hR hqX9_waxFrom n9 x1 x2 x3 x4 (1000 : Int32) (0 : Int32) w _ _ _ hp hS (lv_sub hl [2, 3, 4, 5, 6, 1, 0] rfl)
set_option maxHeartbeats 4000000 in
set_option maxRecDepth 100000 in
theorem bX9_waxFrom_65 {p : Program} {l : Launch} {e : Env} {s : State} {m : MethodId} {args : Array Value} {below : List Frame} {meth : Method} {c : Code} {Q : State → Prop} {A : Nat → Prop} {g : Gw} {d : Nat} {qX9_waxFrom : (Int32 → Wd → Prop) → Int32 → Int32 → Wd → Prop} {post : Int32 → Wd → Prop}  (hC : Cx p s m args c cX9_waxFrom RX9 9 g) (hR : RtI tabX p l e (rk (9 + d + 1)) s m args below meth c Q cX9_waxFrom A g post) (hqX9_waxFrom : ∀ {post : Int32 → Wd → Prop} {x1 : Int32} {x2 : Int32} {w : Wd}, qX9_waxFrom post x1 x2 w → MtI tabX l yX9_waxFrom cX9_waxFrom 9 (some .int) (9 + d) g w [.ref (g.2.2 60), .int x1, .int x2] post) : ∀ (x1 : Int32) (x2 : Int32) (x3 : Int32) (t0 : Int32) (w : Wd) (H : Heap) (locs : List Loc) (ls : Array Slot), pX9_waxFrom_65 qX9_waxFrom post x1 x2 x3 t0 w → St tabX A s.heap g w H locs → lv_has ls 9 [(0, .ref (g.2.2 60)), (1, .int x1), (2, .int x2), (3, .int x3)] → W p l e (rk (9 + d + 1)) s m args below meth c H locs 0 0 Q (F0 m 65 ls [.int t0]) := by
  have hx := hC.1
  have hb := hC.2.1
  intro x1 x2 x3 t0 w H locs ls hp hS hl
  unfold pX9_waxFrom_65 at hp
  refine lv_istore (lv' := [(4, .int t0), (0, .ref (g.2.2 60)), (1, .int x1), (2, .int x2), (3, .int x3)]) hx hb dX9_waxFrom_65 hl (by decide) rfl (fun ls hl => ?_)
  refine lv_iload hx hb dX9_waxFrom_67 (lv_at hl 0 rfl) ?_
  refine lv_if_eq (tgt := 89) hx hb dX9_waxFrom_69 (by decide) (fun c_1 => ?_) (fun c_1 => ?_)
  · have hp := hp.1 c_1
    exact bX9_waxFrom_89 hC hR hqX9_waxFrom x1 x2 x3 t0 w _ _ _ hp hS (lv_sub hl [1, 2, 3, 4, 0] rfl)
  · have hp := hp.2 c_1
    refine lv_aload_n hx hb dX9_waxFrom_72 rfl (lv_at hl 1 rfl) ?_
    refine G_60_2 hC hS m190 dX9_waxFrom_73 ?_
    refine lv_iload_n hx hb dX9_waxFrom_76 rfl (lv_at hl 4 rfl) ?_
    refine La_63 hC hS hp.1 dX9_waxFrom_77 ?_
    have hp := hp.2
    refine lv_iconst hx hb dX9_waxFrom_78 kI_m1 ?_
    refine lv_icmp_eq (tgt := 89) hx hb dX9_waxFrom_79 (by decide) (fun c_2 => ?_) (fun c_2 => ?_)
    · have hp := hp.1 c_2
      exact bX9_waxFrom_89 hC hR hqX9_waxFrom x1 x2 x3 t0 w _ _ _ hp hS (lv_sub hl [1, 2, 3, 4, 0] rfl)
    · have hp := hp.2 c_2
      refine lv_aload_n hx hb dX9_waxFrom_82 rfl (lv_at hl 1 rfl) ?_
      refine G_60_2 hC hS m190 dX9_waxFrom_83 ?_
      refine lv_iload_n hx hb dX9_waxFrom_86 rfl (lv_at hl 4 rfl) ?_
      refine La_63 hC hS hp.1 dX9_waxFrom_87 ?_
      have hp := hp.2
      exact hR _ _ _ _ _ _ dX9_waxFrom_88 hp hS
set_option maxHeartbeats 4000000 in
set_option maxRecDepth 100000 in
theorem bX9_waxFrom_64 {p : Program} {l : Launch} {e : Env} {s : State} {m : MethodId} {args : Array Value} {below : List Frame} {meth : Method} {c : Code} {Q : State → Prop} {A : Nat → Prop} {g : Gw} {d : Nat} {qX9_waxFrom : (Int32 → Wd → Prop) → Int32 → Int32 → Wd → Prop} {post : Int32 → Wd → Prop}  (hC : Cx p s m args c cX9_waxFrom RX9 9 g) (hR : RtI tabX p l e (rk (9 + d + 1)) s m args below meth c Q cX9_waxFrom A g post) (hqX9_waxFrom : ∀ {post : Int32 → Wd → Prop} {x1 : Int32} {x2 : Int32} {w : Wd}, qX9_waxFrom post x1 x2 w → MtI tabX l yX9_waxFrom cX9_waxFrom 9 (some .int) (9 + d) g w [.ref (g.2.2 60), .int x1, .int x2] post) : ∀ (x1 : Int32) (x2 : Int32) (x3 : Int32) (w : Wd) (H : Heap) (locs : List Loc) (ls : Array Slot), pX9_waxFrom_64 qX9_waxFrom post x1 x2 x3 w → St tabX A s.heap g w H locs → lv_has ls 9 [(0, .ref (g.2.2 60)), (1, .int x1), (2, .int x2), (3, .int x3)] → W p l e (rk (9 + d + 1)) s m args below meth c H locs 0 0 Q (F0 m 64 ls []) := by
  have hx := hC.1
  have hb := hC.2.1
  intro x1 x2 x3 w H locs ls hp hS hl
  unfold pX9_waxFrom_64 at hp
  refine lv_iconst hx hb dX9_waxFrom_64 kI_0 ?_
  exact bX9_waxFrom_65 hC hR hqX9_waxFrom x1 x2 x3 (0 : Int32) w _ _ _ hp hS (lv_sub hl [0, 1, 2, 3] rfl)
set_option maxHeartbeats 4000000 in
set_option maxRecDepth 100000 in
theorem rX9_waxFrom {l : Launch} {g : Gw} {w : Wd} {d : Nat} {qX9_waxFrom : (Int32 → Wd → Prop) → Int32 → Int32 → Wd → Prop} {post : Int32 → Wd → Prop}  (hqX9_waxFrom : ∀ {post : Int32 → Wd → Prop} {x1 : Int32} {x2 : Int32} {w : Wd}, qX9_waxFrom post x1 x2 w → MtI tabX l yX9_waxFrom cX9_waxFrom 9 (some .int) (9 + d) g w [.ref (g.2.2 60), .int x1, .int x2] post) {x1 : Int32} {x2 : Int32} (hp : pX9_waxFrom qX9_waxFrom post x1 x2 w) : MtI tabX l yX9_waxFrom cX9_waxFrom 9 (some .int) (9 + d + 1) g w [.ref (g.2.2 60), .int x1, .int x2] post := by
  refine q_entI tabX_nd (by decide) rfl (Nat.le_of_ble_eq_true rfl) ?_
  intro p e s m args below meth c A Q ls hC hR hS hl
  have hx := hC.1
  have hb := hC.2.1
  have hl : lv_has ls 9 [(0, .ref (g.2.2 60)), (1, .int x1), (2, .int x2)] := hl
  unfold pX9_waxFrom at hp
  refine lv_iload_n hx hb dX9_waxFrom_0 rfl (lv_at hl 1 rfl) ?_
  refine lv_aload_n hx hb dX9_waxFrom_1 rfl (lv_at hl 0 rfl) ?_
  refine G_60_3 hC hS m1114 dX9_waxFrom_2 ?_
  refine lv_icmp_ne (tgt := 10) hx hb dX9_waxFrom_5 (by decide) (fun c_1 => ?_) (fun c_1 => ?_)
  · have hp := hp.1 c_1
    refine lv_iload_n hx hb dX9_waxFrom_10 rfl (lv_at hl 2 rfl) ?_
    refine lv_if_le (tgt := 31) hx hb dX9_waxFrom_11 (by decide) (fun c_2 => ?_) (fun c_2 => ?_)
    · have hp := hp.1 c_2
      refine lv_sipush hx hb dX9_waxFrom_31 kS_1000 ?_
      exact hR _ _ _ _ _ _ dX9_waxFrom_34 hp hS
    · have hp := hp.2 c_2
      refine lv_iload_n hx hb dX9_waxFrom_14 rfl (lv_at hl 2 rfl) ?_
      refine lv_iconst hx hb dX9_waxFrom_15 kI_4 ?_
      refine lv_icmp_gt (tgt := 31) hx hb dX9_waxFrom_16 (by decide) (fun c_3 => ?_) (fun c_3 => ?_)
      · have hp := hp.1 c_3
        refine lv_sipush hx hb dX9_waxFrom_31 kS_1000 ?_
        exact hR _ _ _ _ _ _ dX9_waxFrom_34 hp hS
      · have hp := hp.2 c_3
        refine lv_iload_n hx hb dX9_waxFrom_19 rfl (lv_at hl 1 rfl) ?_
        refine lv_if_lt (tgt := 31) hx hb dX9_waxFrom_20 (by decide) (fun c_4 => ?_) (fun c_4 => ?_)
        · have hp := hp.1 c_4
          refine lv_sipush hx hb dX9_waxFrom_31 kS_1000 ?_
          exact hR _ _ _ _ _ _ dX9_waxFrom_34 hp hS
        · have hp := hp.2 c_4
          refine lv_iload_n hx hb dX9_waxFrom_23 rfl (lv_at hl 1 rfl) ?_
          refine lv_aload_n hx hb dX9_waxFrom_24 rfl (lv_at hl 0 rfl) ?_
          refine G_60_4 hC hS m1116 dX9_waxFrom_25 ?_
          refine lv_icmp_lt (tgt := 35) hx hb dX9_waxFrom_28 (by decide) (fun c_5 => ?_) (fun c_5 => ?_)
          · have hp := hp.1 c_5
            refine lv_iload_n hx hb dX9_waxFrom_35 rfl (lv_at hl 2 rfl) ?_
            refine lv_iconst hx hb dX9_waxFrom_36 kI_1 ?_
            refine lv_isub hx hb dX9_waxFrom_37 ?_
            refine lv_aload_n hx hb dX9_waxFrom_38 rfl (lv_at hl 0 rfl) ?_
            refine G_60_4 hC hS m1116 dX9_waxFrom_39 ?_
            refine lv_imul hx hb dX9_waxFrom_42 ?_
            refine lv_iload_n hx hb dX9_waxFrom_43 rfl (lv_at hl 1 rfl) ?_
            refine lv_iadd hx hb dX9_waxFrom_44 ?_
            refine lv_topi (fun x3_6 ex3_6 => ?_)
            have hp := hp x3_6 ex3_6
            refine lv_istore_n (lv' := [(3, .int x3_6), (0, .ref (g.2.2 60)), (1, .int x1), (2, .int x2)]) hx hb dX9_waxFrom_45 rfl hl (by decide) rfl (fun ls hl => ?_)
            refine lv_iload_n hx hb dX9_waxFrom_46 rfl (lv_at hl 3 rfl) ?_
            refine lv_iconst hx hb dX9_waxFrom_47 kI_4 ?_
            refine lv_icmp_ge (tgt := 64) hx hb dX9_waxFrom_48 (by decide) (fun c_7 => ?_) (fun c_7 => ?_)
            · have hp := hp.1 c_7
              exact bX9_waxFrom_64 hC hR hqX9_waxFrom x1 x2 x3_6 w _ _ _ hp hS (lv_sub hl [1, 2, 3, 0] rfl)
            · have hp := hp.2 c_7
              refine lv_iload_n hx hb dX9_waxFrom_51 rfl (lv_at hl 0 rfl) ?_
              refine lv_aload_n hx hb dX9_waxFrom_52 rfl (lv_at hl 1 rfl) ?_
              refine G_60_2 hC hS m190 dX9_waxFrom_53 ?_
              refine Na_63 hC hS dX9_waxFrom_56 ?_
              refine lv_icmp_ge (tgt := 64) hx hb dX9_waxFrom_57 (by decide) (fun c_8 => ?_) (fun c_8 => ?_)
              · have hp := hp.1 c_8
                exact bX9_waxFrom_64 hC hR hqX9_waxFrom x1 x2 x3_6 w _ _ _ hp hS (lv_sub hl [1, 2, 3, 0] rfl)
              · have hp := hp.2 c_8
                refine lv_iconst hx hb dX9_waxFrom_60 kI_1 ?_
                refine lv_goto (tgt := 65) hx hb dX9_waxFrom_61 (by decide) ?_
                exact bX9_waxFrom_65 hC hR hqX9_waxFrom x1 x2 x3_6 (1 : Int32) w _ _ _ hp hS (lv_sub hl [1, 2, 3, 0] rfl)
          · have hp := hp.2 c_5
            refine lv_sipush hx hb dX9_waxFrom_31 kS_1000 ?_
            exact hR _ _ _ _ _ _ dX9_waxFrom_34 hp hS
  · have hp := hp.2 c_1
    refine lv_iconst hx hb dX9_waxFrom_8 kI_0 ?_
    exact hR _ _ _ _ _ _ dX9_waxFrom_9 hp hS
def d9X9_waxFrom : Nat → ((Int32 → Wd → Prop) → Int32 → Int32 → Wd → Prop)
  | 0 => (fun _ _ _ _ => False)
  | d + 1 => (fun post x1 x2 w => pX9_waxFrom (d9X9_waxFrom d) post x1 x2 w)
def dX9_waxFrom (d : Nat) : (Int32 → Wd → Prop) → Int32 → Int32 → Wd → Prop := d9X9_waxFrom d
theorem R9X9_waxFrom {l : Launch} {g : Gw} : ∀ d : Nat, (∀ {post : Int32 → Wd → Prop} {x1 : Int32} {x2 : Int32} {w : Wd}, dX9_waxFrom d post x1 x2 w → MtI tabX l yX9_waxFrom cX9_waxFrom 9 (some .int) (9 + d) g w [.ref (g.2.2 60), .int x1, .int x2] post) := by
  intro d
  induction d with
  | zero => exact fun h => False.elim h
  | succ d ih =>
    refine fun h => ?_
    exact rX9_waxFrom (d := d) ih h
theorem RX9_waxFrom {l : Launch} {g : Gw} {post : Int32 → Wd → Prop} {x1 : Int32} {x2 : Int32} {w : Wd} (h : dX9_waxFrom 6 post x1 x2 w) : MtI tabX l yX9_waxFrom cX9_waxFrom 9 (some .int) 15 g w [.ref (g.2.2 60), .int x1, .int x2] post := R9X9_waxFrom 6 h
def pX9_firstStep_18 (k3 : Int32 → Int32 → Int32 → Int32 → Wd → Prop) (post : Int32 → Wd → Prop) : Nat → Int32 → Int32 → Int32 → Int32 → Int32 → Wd → Prop
  | 0, _, _, _, _, _, _ => False
  | n + 1, x1, x2, x3, x4, x5, w => pX9_heatsOf (fun r_1 w_2 => (r_1 ≤ x5 → (∀ x4_4, x4_4 = x4 + (1 : Int32) → k3 x1 x2 x3 x4_4 w_2)) ∧ (¬ r_1 ≤ x5 → (pX1_rowAfter (fun r_5 w_6 => dX9_waxFrom 6 (fun r_7 w_8 => (¬ (((1 : Int32) + x5) + r_7) = x3 → (∀ x5_10, x5_10 = x5 + (1 : Int32) → pX9_firstStep_18 k3 post n x1 x2 x3 x4 x5_10 w_8)) ∧ ((((1 : Int32) + x5) + r_7) = x3 → (post ((x4 * (10 : Int32)) + x5) w_8))) r_5 (x2 - (1 : Int32)) w_6) x1 x4 x5 (0 : Int32) w_2))) x4 w
def pX9_firstStep_3 (post : Int32 → Wd → Prop) : Nat → Int32 → Int32 → Int32 → Int32 → Wd → Prop
  | 0, _, _, _, _, _ => False
  | n + 1, x1, x2, x3, x4, w => pX1_handCount (fun r_1 w_2 => (r_1 ≤ x4 → (post (-1 : Int32) w_2)) ∧ (¬ r_1 ≤ x4 → (∃ n9, pX9_firstStep_18 (pX9_firstStep_3 post n) post n9 x1 x2 x3 x4 (0 : Int32) w_2))) w
def pX9_firstStep (post : Int32 → Wd → Prop) (x1 : Int32) (x2 : Int32) (x3 : Int32) (w : Wd) : Prop := ∃ n9, pX9_firstStep_3 post n9 x1 x2 x3 (0 : Int32) w
set_option maxHeartbeats 4000000 in
set_option maxRecDepth 100000 in
theorem bX9_firstStep_18 {p : Program} {l : Launch} {e : Env} {s : State} {m : MethodId} {args : Array Value} {below : List Frame} {meth : Method} {c : Code} {Q : State → Prop} {A : Nat → Prop} {g : Gw} {post : Int32 → Wd → Prop}  (hC : Cx p s m args c cX9_firstStep RX9 7 g) (hR : RtI tabX p l e (rk 16) s m args below meth c Q cX9_firstStep A g post)  {k3 : Int32 → Int32 → Int32 → Int32 → Wd → Prop} (hk3 : ∀ (x1 : Int32) (x2 : Int32) (x3 : Int32) (x4 : Int32) (w : Wd) (H : Heap) (locs : List Loc) (ls : Array Slot), k3 x1 x2 x3 x4 w → St tabX A s.heap g w H locs → lv_has ls 7 [(0, .ref (g.2.2 60)), (1, .int x1), (2, .int x2), (3, .int x3), (4, .int x4)] → W p l e (rk 16) s m args below meth c H locs 0 0 Q (F0 m 3 ls [])) : ∀ (n : Nat) (x1 : Int32) (x2 : Int32) (x3 : Int32) (x4 : Int32) (x5 : Int32) (w : Wd) (H : Heap) (locs : List Loc) (ls : Array Slot), pX9_firstStep_18 k3 post n x1 x2 x3 x4 x5 w → St tabX A s.heap g w H locs → lv_has ls 7 [(0, .ref (g.2.2 60)), (1, .int x1), (2, .int x2), (3, .int x3), (4, .int x4), (5, .int x5)] → W p l e (rk 16) s m args below meth c H locs 0 0 Q (F0 m 18 ls []) := by
  have hx := hC.1
  have hb := hC.2.1
  intro n
  induction n with
  | zero =>
    intro x1 x2 x3 x4 x5 w H locs ls hp hS hl
    exact False.elim hp
  | succ n ih =>
    intro x1 x2 x3 x4 x5 w H locs ls hp hS hl
    unfold pX9_firstStep_18 at hp
    refine lv_iload hx hb dX9_firstStep_18 (lv_at hl 5 rfl) ?_
    refine lv_aload_n hx hb dX9_firstStep_20 rfl (lv_at hl 0 rfl) ?_
    refine lv_iload hx hb dX9_firstStep_21 (lv_at hl 4 rfl) ?_
    refine q_cvI (As := [.int x4]) (rest := [.int x5]) hC hS hl.1 (rX9_heatsOf hp) cwX9_70 yvX9_heatsOf (rcv_60 hC hS) rfl rfl (Nat.le_of_ble_eq_true rfl) (rmk (by decide) (by decide)) dX9_firstStep_23 (fun r_1 w_2 H locs hp hS => ?_)
    refine lv_icmp_ge (tgt := 77) hx hb dX9_firstStep_26 (by decide) (fun c_3 => ?_) (fun c_3 => ?_)
    · have hp := hp.1 c_3
      obtain ⟨x4_4, ex4_4⟩ : ∃ y : Int32, y = x4 + (1 : Int32) := ⟨_, rfl⟩
      have hp := hp x4_4 ex4_4
      refine lv_iinc (v := x4_4) (lv' := [(4, .int x4_4), (0, .ref (g.2.2 60)), (1, .int x1), (2, .int x2), (3, .int x3), (5, .int x5)]) hx hb dX9_firstStep_77 hl (k := 4) rfl (by rw [ex4_4]; rfl) (by decide) rfl (fun ls hl => ?_)
      refine lv_goto (tgt := 3) hx hb dX9_firstStep_80 (by decide) ?_
      exact hk3 x1 x2 x3 x4_4 w_2 _ _ _ hp hS (lv_sub hl [1, 2, 3, 4, 0] rfl)
    · have hp := hp.2 c_3
      refine lv_aload_n hx hb dX9_firstStep_29 rfl (lv_at hl 0 rfl) ?_
      refine G_60_1 hC hS m189 dX9_firstStep_30 ?_
      refine lv_iload_n hx hb dX9_firstStep_33 rfl (lv_at hl 1 rfl) ?_
      refine lv_iload hx hb dX9_firstStep_34 (lv_at hl 4 rfl) ?_
      refine lv_iload hx hb dX9_firstStep_36 (lv_at hl 5 rfl) ?_
      refine lv_iconst hx hb dX9_firstStep_38 kI_0 ?_
      refine q_cvI (As := [.int x1, .int x4, .int x5, .int (0 : Int32)]) (rest := []) hC hS hl.1 (rX1_rowAfter hp) cwX9_60 yvX1_rowAfter (rcv_40 hC hS) rfl rfl (Nat.le_of_ble_eq_true rfl) (rmk (by decide) (by decide)) dX9_firstStep_39 (fun r_5 w_6 H locs hp hS => ?_)
      refine lv_istore (lv' := [(6, .int r_5), (0, .ref (g.2.2 60)), (1, .int x1), (2, .int x2), (3, .int x3), (4, .int x4), (5, .int x5)]) hx hb dX9_firstStep_42 hl (by decide) rfl (fun ls hl => ?_)
      refine lv_iconst hx hb dX9_firstStep_44 kI_1 ?_
      refine lv_iload hx hb dX9_firstStep_45 (lv_at hl 6 rfl) ?_
      refine lv_iadd hx hb dX9_firstStep_47 ?_
      refine lv_aload_n hx hb dX9_firstStep_48 rfl (lv_at hl 1 rfl) ?_
      refine lv_iload hx hb dX9_firstStep_49 (lv_at hl 0 rfl) ?_
      refine lv_iload_n hx hb dX9_firstStep_51 rfl (lv_at hl 3 rfl) ?_
      refine lv_iconst hx hb dX9_firstStep_52 kI_1 ?_
      refine lv_isub hx hb dX9_firstStep_53 ?_
      refine q_cvI (As := [.int r_5, .int (x2 - (1 : Int32))]) (rest := [.int ((1 : Int32) + x5)]) hC hS hl.1 (RX9_waxFrom hp) cwX9_47 yvX9_waxFrom (rcv_60 hC hS) rfl rfl (Nat.le_of_ble_eq_true rfl) (rmk (by decide) (by decide)) dX9_firstStep_54 (fun r_7 w_8 H locs hp hS => ?_)
      refine lv_iadd hx hb dX9_firstStep_57 ?_
      refine lv_iload_n hx hb dX9_firstStep_58 rfl (lv_at hl 4 rfl) ?_
      refine lv_icmp_ne (tgt := 71) hx hb dX9_firstStep_59 (by decide) (fun c_9 => ?_) (fun c_9 => ?_)
      · have hp := hp.1 c_9
        obtain ⟨x5_10, ex5_10⟩ : ∃ y : Int32, y = x5 + (1 : Int32) := ⟨_, rfl⟩
        have hp := hp x5_10 ex5_10
        refine lv_iinc (v := x5_10) (lv' := [(5, .int x5_10), (6, .int r_5), (0, .ref (g.2.2 60)), (1, .int x1), (2, .int x2), (3, .int x3), (4, .int x4)]) hx hb dX9_firstStep_71 hl (k := 6) rfl (by rw [ex5_10]; rfl) (by decide) rfl (fun ls hl => ?_)
        refine lv_goto (tgt := 18) hx hb dX9_firstStep_74 (by decide) ?_
        exact ih x1 x2 x3 x4 x5_10 w_8 _ _ _ hp hS (lv_sub hl [2, 3, 4, 5, 6, 0] rfl)
      · have hp := hp.2 c_9
        refine lv_iload hx hb dX9_firstStep_62 (lv_at hl 5 rfl) ?_
        refine lv_bipush hx hb dX9_firstStep_64 kB_10 ?_
        refine lv_imul hx hb dX9_firstStep_66 ?_
        refine lv_iload hx hb dX9_firstStep_67 (lv_at hl 6 rfl) ?_
        refine lv_iadd hx hb dX9_firstStep_69 ?_
        exact hR _ _ _ _ _ _ dX9_firstStep_70 hp hS
set_option maxHeartbeats 4000000 in
set_option maxRecDepth 100000 in
theorem bX9_firstStep_3 {p : Program} {l : Launch} {e : Env} {s : State} {m : MethodId} {args : Array Value} {below : List Frame} {meth : Method} {c : Code} {Q : State → Prop} {A : Nat → Prop} {g : Gw} {post : Int32 → Wd → Prop}  (hC : Cx p s m args c cX9_firstStep RX9 7 g) (hR : RtI tabX p l e (rk 16) s m args below meth c Q cX9_firstStep A g post)  : ∀ (n : Nat) (x1 : Int32) (x2 : Int32) (x3 : Int32) (x4 : Int32) (w : Wd) (H : Heap) (locs : List Loc) (ls : Array Slot), pX9_firstStep_3 post n x1 x2 x3 x4 w → St tabX A s.heap g w H locs → lv_has ls 7 [(0, .ref (g.2.2 60)), (1, .int x1), (2, .int x2), (3, .int x3), (4, .int x4)] → W p l e (rk 16) s m args below meth c H locs 0 0 Q (F0 m 3 ls []) := by
  have hx := hC.1
  have hb := hC.2.1
  intro n
  induction n with
  | zero =>
    intro x1 x2 x3 x4 w H locs ls hp hS hl
    exact False.elim hp
  | succ n ih =>
    intro x1 x2 x3 x4 w H locs ls hp hS hl
    unfold pX9_firstStep_3 at hp
    refine lv_iload hx hb dX9_firstStep_3 (lv_at hl 4 rfl) ?_
    refine lv_aload_n hx hb dX9_firstStep_5 rfl (lv_at hl 0 rfl) ?_
    refine G_60_1 hC hS m189 dX9_firstStep_6 ?_
    refine q_cvI (As := []) (rest := [.int x4]) hC hS hl.1 (rX1_handCount hp) cwX9_66 yvX1_handCount (rcv_40 hC hS) rfl rfl (Nat.le_of_ble_eq_true rfl) (rmk (by decide) (by decide)) dX9_firstStep_9 (fun r_1 w_2 H locs hp hS => ?_)
    refine lv_icmp_ge (tgt := 83) hx hb dX9_firstStep_12 (by decide) (fun c_3 => ?_) (fun c_3 => ?_)
    · have hp := hp.1 c_3
      refine lv_iconst hx hb dX9_firstStep_83 kI_m1 ?_
      exact hR _ _ _ _ _ _ dX9_firstStep_84 hp hS
    · have hp := hp.2 c_3
      refine lv_iconst hx hb dX9_firstStep_15 kI_0 ?_
      refine lv_istore (lv' := [(5, .int (0 : Int32)), (0, .ref (g.2.2 60)), (1, .int x1), (2, .int x2), (3, .int x3), (4, .int x4)]) hx hb dX9_firstStep_16 hl (by decide) rfl (fun ls hl => ?_)
      obtain ⟨n9, hp⟩ := hp
      exact bX9_firstStep_18 hC hR ih n9 x1 x2 x3 x4 (0 : Int32) w_2 _ _ _ hp hS (lv_sub hl [1, 2, 3, 4, 5, 0] rfl)
set_option maxHeartbeats 4000000 in
set_option maxRecDepth 100000 in
theorem rX9_firstStep {l : Launch} {g : Gw} {w : Wd} {post : Int32 → Wd → Prop}   {x1 : Int32} {x2 : Int32} {x3 : Int32} (hp : pX9_firstStep post x1 x2 x3 w) : MtI tabX l yX9_firstStep cX9_firstStep 7 (some .int) 16 g w [.ref (g.2.2 60), .int x1, .int x2, .int x3] post := by
  refine q_entI tabX_nd (by decide) rfl (Nat.le_of_ble_eq_true rfl) ?_
  intro p e s m args below meth c A Q ls hC hR hS hl
  have hx := hC.1
  have hb := hC.2.1
  have hl : lv_has ls 7 [(0, .ref (g.2.2 60)), (1, .int x1), (2, .int x2), (3, .int x3)] := hl
  unfold pX9_firstStep at hp
  refine lv_iconst hx hb dX9_firstStep_0 kI_0 ?_
  refine lv_istore (lv' := [(4, .int (0 : Int32)), (0, .ref (g.2.2 60)), (1, .int x1), (2, .int x2), (3, .int x3)]) hx hb dX9_firstStep_1 hl (by decide) rfl (fun ls hl => ?_)
  obtain ⟨n9, hp⟩ := hp
  exact bX9_firstStep_3 hC hR n9 x1 x2 x3 (0 : Int32) w _ _ _ hp hS (lv_sub hl [1, 2, 3, 4, 0] rfl)
def pX9_layWay_11 (post : Wd → Prop) : Nat → Int32 → Int32 → Int32 → Wd → Prop
  | 0, _, _, _, _ => False
  | n + 1, x3, x4, x5, w => (x5 ≤ 0 → (post w)) ∧ (¬ x5 ≤ 0 → ((x3 = (w.1 60 3) → (post w)) ∧ (¬ x3 = (w.1 60 3) → (pX9_firstStep (fun r_3 w_4 => (¬ r_3 = (-1 : Int32) → (pX4_lay (fun w_6 => pX1_rowAfter (fun r_7 w_8 => ∀ x4_9, x4_9 = (x4 - ((1 : Int32) + (r_3 - r_3 / (10 : Int32) * (10 : Int32)))) → ∀ x5_10, x5_10 = x5 + (-1 : Int32) → pX9_layWay_11 post n r_7 x4_9 x5_10 w_8) x3 (r_3 / (10 : Int32)) (r_3 - r_3 / (10 : Int32) * (10 : Int32)) (0 : Int32) w_6) r_3 w_4)) ∧ (r_3 = (-1 : Int32) → (post w_4))) x3 x5 x4 w))))
def pX9_layWay (post : Wd → Prop) (x1 : Int32) (w : Wd) : Prop := ∀ x4_1, x4_1 = (w.1 60 5) → ∃ n9, pX9_layWay_11 post n9 x1 x4_1 (4 : Int32) w
set_option maxHeartbeats 4000000 in
set_option maxRecDepth 100000 in
theorem bX9_layWay_11 {p : Program} {l : Launch} {e : Env} {s : State} {m : MethodId} {args : Array Value} {below : List Frame} {meth : Method} {c : Code} {Q : State → Prop} {A : Nat → Prop} {g : Gw} {post : Wd → Prop}  (hC : Cx p s m args c cX9_layWay RX9 7 g) (hR : RtV tabX p l e (rk 17) s m args below meth c Q cX9_layWay A g post)  : ∀ (n : Nat) (x3 : Int32) (x4 : Int32) (x5 : Int32) (w : Wd) (H : Heap) (locs : List Loc) (ls : Array Slot), pX9_layWay_11 post n x3 x4 x5 w → St tabX A s.heap g w H locs → lv_has ls 7 [(0, .ref (g.2.2 60)), (2, .ref (g.2.2 110)), (3, .int x3), (4, .int x4), (5, .int x5)] → W p l e (rk 17) s m args below meth c H locs 0 0 Q (F0 m 11 ls []) := by
  have hx := hC.1
  have hb := hC.2.1
  intro n
  induction n with
  | zero =>
    intro x3 x4 x5 w H locs ls hp hS hl
    exact False.elim hp
  | succ n ih =>
    intro x3 x4 x5 w H locs ls hp hS hl
    unfold pX9_layWay_11 at hp
    refine lv_iload hx hb dX9_layWay_11 (lv_at hl 4 rfl) ?_
    refine lv_if_le (tgt := 86) hx hb dX9_layWay_13 (by decide) (fun c_1 => ?_) (fun c_1 => ?_)
    · have hp := hp.1 c_1
      exact hR _ _ _ _ _ dX9_layWay_86 hp hS
    · have hp := hp.2 c_1
      refine lv_iload_n hx hb dX9_layWay_16 rfl (lv_at hl 2 rfl) ?_
      refine lv_aload_n hx hb dX9_layWay_17 rfl (lv_at hl 0 rfl) ?_
      refine G_60_3 hC hS m1114 dX9_layWay_18 ?_
      refine lv_icmp_eq (tgt := 86) hx hb dX9_layWay_21 (by decide) (fun c_2 => ?_) (fun c_2 => ?_)
      · have hp := hp.1 c_2
        exact hR _ _ _ _ _ dX9_layWay_86 hp hS
      · have hp := hp.2 c_2
        refine lv_aload_n hx hb dX9_layWay_24 rfl (lv_at hl 0 rfl) ?_
        refine lv_iload_n hx hb dX9_layWay_25 rfl (lv_at hl 2 rfl) ?_
        refine lv_iload hx hb dX9_layWay_26 (lv_at hl 4 rfl) ?_
        refine lv_iload hx hb dX9_layWay_28 (lv_at hl 3 rfl) ?_
        refine q_cvI (As := [.int x3, .int x5, .int x4]) (rest := []) hC hS hl.1 (rX9_firstStep hp) cwX9_50 yvX9_firstStep (rcv_60 hC hS) rfl rfl (Nat.le_of_ble_eq_true rfl) (rmk (by decide) (by decide)) dX9_layWay_30 (fun r_3 w_4 H locs hp hS => ?_)
        refine lv_istore (lv' := [(6, .int r_3), (0, .ref (g.2.2 60)), (2, .ref (g.2.2 110)), (3, .int x3), (4, .int x4), (5, .int x5)]) hx hb dX9_layWay_33 hl (by decide) rfl (fun ls hl => ?_)
        refine lv_iload hx hb dX9_layWay_35 (lv_at hl 0 rfl) ?_
        refine lv_iconst hx hb dX9_layWay_37 kI_m1 ?_
        refine lv_icmp_ne (tgt := 42) hx hb dX9_layWay_38 (by decide) (fun c_5 => ?_) (fun c_5 => ?_)
        · have hp := hp.1 c_5
          refine lv_aload_n hx hb dX9_layWay_42 rfl (lv_at hl 2 rfl) ?_
          refine lv_iload hx hb dX9_layWay_43 (lv_at hl 0 rfl) ?_
          refine q_cvV (As := [.int r_3]) (rest := []) hC hS hl.1 (rX4_lay hp) cwX9_54 yvX4_lay (rcv_110 hC hS) rfl rfl (Nat.le_of_ble_eq_true rfl) (rmk (by decide) (by decide)) dX9_layWay_45 (fun w_6 H locs hp hS => ?_)
          refine lv_aload_n hx hb dX9_layWay_48 rfl (lv_at hl 1 rfl) ?_
          refine G_60_1 hC hS m189 dX9_layWay_49 ?_
          refine lv_iload_n hx hb dX9_layWay_52 rfl (lv_at hl 3 rfl) ?_
          refine lv_iload hx hb dX9_layWay_53 (lv_at hl 0 rfl) ?_
          refine lv_bipush hx hb dX9_layWay_55 kB_10 ?_
          refine lv_idiv hx hb dX9_layWay_57 (by decide) ?_
          refine lv_iload hx hb dX9_layWay_58 (lv_at hl 0 rfl) ?_
          refine lv_bipush hx hb dX9_layWay_60 kB_10 ?_
          refine lv_irem hx hb dX9_layWay_62 (by decide) ?_
          refine lv_iconst hx hb dX9_layWay_63 kI_0 ?_
          refine q_cvI (As := [.int x3, .int (r_3 / (10 : Int32)), .int (r_3 - r_3 / (10 : Int32) * (10 : Int32)), .int (0 : Int32)]) (rest := []) hC hS hl.1 (rX1_rowAfter hp) cwX9_60 yvX1_rowAfter (rcv_40 hC hS) rfl rfl (Nat.le_of_ble_eq_true rfl) (rmk (by decide) (by decide)) dX9_layWay_64 (fun r_7 w_8 H locs hp hS => ?_)
          refine lv_istore_n (lv' := [(3, .int r_7), (6, .int r_3), (0, .ref (g.2.2 60)), (2, .ref (g.2.2 110)), (4, .int x4), (5, .int x5)]) hx hb dX9_layWay_67 rfl hl (by decide) rfl (fun ls hl => ?_)
          refine lv_iload hx hb dX9_layWay_68 (lv_at hl 4 rfl) ?_
          refine lv_iconst hx hb dX9_layWay_70 kI_1 ?_
          refine lv_iload hx hb dX9_layWay_71 (lv_at hl 1 rfl) ?_
          refine lv_bipush hx hb dX9_layWay_73 kB_10 ?_
          refine lv_irem hx hb dX9_layWay_75 (by decide) ?_
          refine lv_iadd hx hb dX9_layWay_76 ?_
          refine lv_isub hx hb dX9_layWay_77 ?_
          refine lv_topi (fun x4_9 ex4_9 => ?_)
          have hp := hp x4_9 ex4_9
          refine lv_istore (lv' := [(4, .int x4_9), (3, .int r_7), (6, .int r_3), (0, .ref (g.2.2 60)), (2, .ref (g.2.2 110)), (5, .int x5)]) hx hb dX9_layWay_78 hl (by decide) rfl (fun ls hl => ?_)
          obtain ⟨x5_10, ex5_10⟩ : ∃ y : Int32, y = x5 + (-1 : Int32) := ⟨_, rfl⟩
          have hp := hp x5_10 ex5_10
          refine lv_iinc (v := x5_10) (lv' := [(5, .int x5_10), (4, .int x4_9), (3, .int r_7), (6, .int r_3), (0, .ref (g.2.2 60)), (2, .ref (g.2.2 110))]) hx hb dX9_layWay_80 hl (k := 5) rfl (by rw [ex5_10]; rfl) (by decide) rfl (fun ls hl => ?_)
          refine lv_goto (tgt := 11) hx hb dX9_layWay_83 (by decide) ?_
          exact ih r_7 x4_9 x5_10 w_8 _ _ _ hp hS (lv_sub hl [4, 5, 2, 1, 0] rfl)
        · have hp := hp.2 c_5
          exact hR _ _ _ _ _ dX9_layWay_41 hp hS
set_option maxHeartbeats 4000000 in
set_option maxRecDepth 100000 in
theorem rX9_layWay {l : Launch} {g : Gw} {w : Wd} {post : Wd → Prop}   {x1 : Int32} (hp : pX9_layWay post x1 w) : MtV tabX l yX9_layWay cX9_layWay 7 none 17 g w [.ref (g.2.2 60), .int x1, .ref (g.2.2 110)] post := by
  refine q_entV tabX_nd (by decide) rfl (Nat.le_of_ble_eq_true rfl) ?_
  intro p e s m args below meth c A Q ls hC hR hS hl
  have hx := hC.1
  have hb := hC.2.1
  have hl : lv_has ls 7 [(0, .ref (g.2.2 60)), (1, .int x1), (2, .ref (g.2.2 110))] := hl
  unfold pX9_layWay at hp
  refine lv_iload_n hx hb dX9_layWay_0 rfl (lv_at hl 1 rfl) ?_
  refine lv_istore_n (lv' := [(3, .int x1), (0, .ref (g.2.2 60)), (1, .int x1), (2, .ref (g.2.2 110))]) hx hb dX9_layWay_1 rfl hl (by decide) rfl (fun ls hl => ?_)
  refine lv_aload_n hx hb dX9_layWay_2 rfl (lv_at hl 1 rfl) ?_
  refine G_60_5 hC hS m1117 dX9_layWay_3 ?_
  refine lv_topi (fun x4_1 ex4_1 => ?_)
  have hp := hp x4_1 ex4_1
  refine lv_istore (lv' := [(4, .int x4_1), (3, .int x1), (0, .ref (g.2.2 60)), (1, .int x1), (2, .ref (g.2.2 110))]) hx hb dX9_layWay_6 hl (by decide) rfl (fun ls hl => ?_)
  refine lv_iconst hx hb dX9_layWay_8 kI_4 ?_
  refine lv_istore (lv' := [(5, .int (4 : Int32)), (4, .int x4_1), (3, .int x1), (0, .ref (g.2.2 60)), (1, .int x1), (2, .ref (g.2.2 110))]) hx hb dX9_layWay_9 hl (by decide) rfl (fun ls hl => ?_)
  obtain ⟨n9, hp⟩ := hp
  exact bX9_layWay_11 hC hR n9 x1 x4_1 (4 : Int32) w _ _ _ hp hS (lv_sub hl [3, 5, 2, 1, 0] rfl)
def pX9_seek_100 (k53 : Int32 → Int32 → Wd → Prop) (post : Int32 → Wd → Prop) (x3 : Int32) (x4 : Int32) (w : Wd) : Prop := ∀ x4_1, x4_1 = x4 + (1 : Int32) → k53 x3 x4_1 w
def pX9_seek_53 (post : Int32 → Wd → Prop) : Nat → Int32 → Int32 → Wd → Prop
  | 0, _, _, _ => False
  | n + 1, x3, x4, w => ((w.1 160 0) ≤ x4 → (post x3 w)) ∧ (¬ (w.1 160 0) ≤ x4 → (vp_in x4 24 ∧ dX9_waxFrom 6 (fun r_2 w_3 => ((w_3.1 60 5) ≤ r_2 → (pX9_seek_100 (pX9_seek_53 post n) post x3 x4 w_3)) ∧ (¬ (w_3.1 60 5) ≤ r_2 → (∀ w_5, w_5 = sI w_3 60 5 r_2 → pX9_seek_100 (pX9_seek_53 post n) post x4 x4 w_5))) (w.2.1 162 x4.toNatClampNeg) (4 : Int32) w))
def pX9_seek_18 (post : Int32 → Wd → Prop) : Nat → Int32 → Wd → Prop
  | 0, _, _ => False
  | n + 1, x3, w => (((3 : Int32) * (w.1 60 4)) ≤ x3 → (∀ w_2, w_2 = sI w 60 5 (1000 : Int32) → ∃ n9, pX9_seek_53 post n9 (-1 : Int32) (0 : Int32) w_2)) ∧ (¬ ((3 : Int32) * (w.1 60 4)) ≤ x3 → (vp_in x3 12288 ∧ ∀ w_3, w_3 = sA w 63 x3.toNatClampNeg (-1 : Int32) → ∀ x3_4, x3_4 = x3 + (1 : Int32) → pX9_seek_18 post n x3_4 w_3))
def pX9_seek (post : Int32 → Wd → Prop) (x1 : Int32) (x2 : Int32) (w : Wd) : Prop := ∀ w_1, w_1 = sI w 60 3 x1 → ∀ w_2, w_2 = sI w_1 60 4 (if (4096 : Int32) < x2 then (4096 : Int32) else x2) → ∃ n9, pX9_seek_18 post n9 (0 : Int32) w_2
set_option maxHeartbeats 4000000 in
set_option maxRecDepth 100000 in
theorem bX9_seek_100 {p : Program} {l : Launch} {e : Env} {s : State} {m : MethodId} {args : Array Value} {below : List Frame} {meth : Method} {c : Code} {Q : State → Prop} {A : Nat → Prop} {g : Gw} {post : Int32 → Wd → Prop}  (hC : Cx p s m args c cX9_seek RX9 6 g) (hR : RtI tabX p l e (rk 16) s m args below meth c Q cX9_seek A g post)  {k53 : Int32 → Int32 → Wd → Prop} (hk53 : ∀ (x3 : Int32) (x4 : Int32) (w : Wd) (H : Heap) (locs : List Loc) (ls : Array Slot), k53 x3 x4 w → St tabX A s.heap g w H locs → lv_has ls 6 [(0, .ref (g.2.2 60)), (3, .int x3), (4, .int x4)] → W p l e (rk 16) s m args below meth c H locs 0 0 Q (F0 m 53 ls [])) : ∀ (x3 : Int32) (x4 : Int32) (w : Wd) (H : Heap) (locs : List Loc) (ls : Array Slot), pX9_seek_100 k53 post x3 x4 w → St tabX A s.heap g w H locs → lv_has ls 6 [(0, .ref (g.2.2 60)), (3, .int x3), (4, .int x4)] → W p l e (rk 16) s m args below meth c H locs 0 0 Q (F0 m 100 ls []) := by
  have hx := hC.1
  have hb := hC.2.1
  intro x3 x4 w H locs ls hp hS hl
  unfold pX9_seek_100 at hp
  obtain ⟨x4_1, ex4_1⟩ : ∃ y : Int32, y = x4 + (1 : Int32) := ⟨_, rfl⟩
  have hp := hp x4_1 ex4_1
  refine lv_iinc (v := x4_1) (lv' := [(4, .int x4_1), (0, .ref (g.2.2 60)), (3, .int x3)]) hx hb dX9_seek_100 hl (k := 2) rfl (by rw [ex4_1]; rfl) (by decide) rfl (fun ls hl => ?_)
  refine lv_goto (tgt := 53) hx hb dX9_seek_103 (by decide) ?_
  exact hk53 x3 x4_1 w _ _ _ hp hS (lv_sub hl [1, 2, 0] rfl)
set_option maxHeartbeats 4000000 in
set_option maxRecDepth 100000 in
theorem bX9_seek_53 {p : Program} {l : Launch} {e : Env} {s : State} {m : MethodId} {args : Array Value} {below : List Frame} {meth : Method} {c : Code} {Q : State → Prop} {A : Nat → Prop} {g : Gw} {post : Int32 → Wd → Prop}  (hC : Cx p s m args c cX9_seek RX9 6 g) (hR : RtI tabX p l e (rk 16) s m args below meth c Q cX9_seek A g post)  : ∀ (n : Nat) (x3 : Int32) (x4 : Int32) (w : Wd) (H : Heap) (locs : List Loc) (ls : Array Slot), pX9_seek_53 post n x3 x4 w → St tabX A s.heap g w H locs → lv_has ls 6 [(0, .ref (g.2.2 60)), (3, .int x3), (4, .int x4)] → W p l e (rk 16) s m args below meth c H locs 0 0 Q (F0 m 53 ls []) := by
  have hx := hC.1
  have hb := hC.2.1
  intro n
  induction n with
  | zero =>
    intro x3 x4 w H locs ls hp hS hl
    exact False.elim hp
  | succ n ih =>
    intro x3 x4 w H locs ls hp hS hl
    unfold pX9_seek_53 at hp
    refine lv_iload hx hb dX9_seek_53 (lv_at hl 2 rfl) ?_
    refine lv_aload_n hx hb dX9_seek_55 rfl (lv_at hl 0 rfl) ?_
    refine G_60_0 hC hS m188 dX9_seek_56 ?_
    refine G_160_0 hC hS m1118 dX9_seek_59 ?_
    refine lv_icmp_ge (tgt := 106) hx hb dX9_seek_62 (by decide) (fun c_1 => ?_) (fun c_1 => ?_)
    · have hp := hp.1 c_1
      refine lv_iload_n hx hb dX9_seek_106 rfl (lv_at hl 1 rfl) ?_
      exact hR _ _ _ _ _ _ dX9_seek_107 hp hS
    · have hp := hp.2 c_1
      refine lv_aload_n hx hb dX9_seek_65 rfl (lv_at hl 0 rfl) ?_
      refine lv_aload_n hx hb dX9_seek_66 rfl (lv_at hl 0 rfl) ?_
      refine G_60_0 hC hS m188 dX9_seek_67 ?_
      refine G_160_1 hC hS m1119 dX9_seek_70 ?_
      refine lv_iload hx hb dX9_seek_73 (lv_at hl 2 rfl) ?_
      refine La_162 hC hS hp.1 dX9_seek_75 ?_
      have hp := hp.2
      refine lv_iconst hx hb dX9_seek_76 kI_4 ?_
      refine q_cvI (As := [.int (w.2.1 162 x4.toNatClampNeg), .int (4 : Int32)]) (rest := []) hC hS hl.1 (RX9_waxFrom hp) cwX9_47 yvX9_waxFrom (rcv_60 hC hS) rfl rfl (Nat.le_of_ble_eq_true rfl) (rmk (by decide) (by decide)) dX9_seek_77 (fun r_2 w_3 H locs hp hS => ?_)
      refine lv_istore (lv' := [(5, .int r_2), (0, .ref (g.2.2 60)), (3, .int x3), (4, .int x4)]) hx hb dX9_seek_80 hl (by decide) rfl (fun ls hl => ?_)
      refine lv_iload hx hb dX9_seek_82 (lv_at hl 0 rfl) ?_
      refine lv_aload_n hx hb dX9_seek_84 rfl (lv_at hl 1 rfl) ?_
      refine G_60_5 hC hS m1117 dX9_seek_85 ?_
      refine lv_icmp_ge (tgt := 100) hx hb dX9_seek_88 (by decide) (fun c_4 => ?_) (fun c_4 => ?_)
      · have hp := hp.1 c_4
        exact bX9_seek_100 hC hR ih x3 x4 w_3 _ _ _ hp hS (lv_sub hl [1, 2, 3] rfl)
      · have hp := hp.2 c_4
        refine lv_aload_n hx hb dX9_seek_91 rfl (lv_at hl 1 rfl) ?_
        refine lv_iload hx hb dX9_seek_92 (lv_at hl 0 rfl) ?_
        refine P_60_5 hC hS m1117 dX9_seek_94 (fun w_5 H locs ew_5 hS => ?_)
        have hp := hp w_5 ew_5
        refine lv_iload hx hb dX9_seek_97 (lv_at hl 3 rfl) ?_
        refine lv_istore_n (lv' := [(3, .int x4), (5, .int r_2), (0, .ref (g.2.2 60)), (4, .int x4)]) hx hb dX9_seek_99 rfl hl (by decide) rfl (fun ls hl => ?_)
        exact bX9_seek_100 hC hR ih x4 x4 w_5 _ _ _ hp hS (lv_sub hl [2, 0, 3] rfl)
set_option maxHeartbeats 4000000 in
set_option maxRecDepth 100000 in
theorem bX9_seek_18 {p : Program} {l : Launch} {e : Env} {s : State} {m : MethodId} {args : Array Value} {below : List Frame} {meth : Method} {c : Code} {Q : State → Prop} {A : Nat → Prop} {g : Gw} {post : Int32 → Wd → Prop}  (hC : Cx p s m args c cX9_seek RX9 6 g) (hR : RtI tabX p l e (rk 16) s m args below meth c Q cX9_seek A g post)  : ∀ (n : Nat) (x3 : Int32) (w : Wd) (H : Heap) (locs : List Loc) (ls : Array Slot), pX9_seek_18 post n x3 w → St tabX A s.heap g w H locs → lv_has ls 6 [(0, .ref (g.2.2 60)), (3, .int x3)] → W p l e (rk 16) s m args below meth c H locs 0 0 Q (F0 m 18 ls []) := by
  have hx := hC.1
  have hb := hC.2.1
  intro n
  induction n with
  | zero =>
    intro x3 w H locs ls hp hS hl
    exact False.elim hp
  | succ n ih =>
    intro x3 w H locs ls hp hS hl
    unfold pX9_seek_18 at hp
    refine lv_iload_n hx hb dX9_seek_18 rfl (lv_at hl 1 rfl) ?_
    refine lv_iconst hx hb dX9_seek_19 kI_3 ?_
    refine lv_aload_n hx hb dX9_seek_20 rfl (lv_at hl 0 rfl) ?_
    refine G_60_4 hC hS m1116 dX9_seek_21 ?_
    refine lv_imul hx hb dX9_seek_24 ?_
    refine lv_icmp_ge (tgt := 41) hx hb dX9_seek_25 (by decide) (fun c_1 => ?_) (fun c_1 => ?_)
    · have hp := hp.1 c_1
      refine lv_aload_n hx hb dX9_seek_41 rfl (lv_at hl 0 rfl) ?_
      refine lv_sipush hx hb dX9_seek_42 kS_1000 ?_
      refine P_60_5 hC hS m1117 dX9_seek_45 (fun w_2 H locs ew_2 hS => ?_)
      have hp := hp w_2 ew_2
      refine lv_iconst hx hb dX9_seek_48 kI_m1 ?_
      refine lv_istore_n (lv' := [(3, .int (-1 : Int32)), (0, .ref (g.2.2 60))]) hx hb dX9_seek_49 rfl hl (by decide) rfl (fun ls hl => ?_)
      refine lv_iconst hx hb dX9_seek_50 kI_0 ?_
      refine lv_istore (lv' := [(4, .int (0 : Int32)), (3, .int (-1 : Int32)), (0, .ref (g.2.2 60))]) hx hb dX9_seek_51 hl (by decide) rfl (fun ls hl => ?_)
      obtain ⟨n9, hp⟩ := hp
      exact bX9_seek_53 hC hR n9 (-1 : Int32) (0 : Int32) w_2 _ _ _ hp hS (lv_sub hl [2, 1, 0] rfl)
    · have hp := hp.2 c_1
      refine lv_aload_n hx hb dX9_seek_28 rfl (lv_at hl 0 rfl) ?_
      refine G_60_2 hC hS m190 dX9_seek_29 ?_
      refine lv_iload_n hx hb dX9_seek_32 rfl (lv_at hl 1 rfl) ?_
      refine lv_iconst hx hb dX9_seek_33 kI_m1 ?_
      refine Sa_63 hC hS hp.1 dX9_seek_34 (fun w_3 H locs ew_3 hS => ?_)
      have hp := hp.2
      have hp := hp w_3 ew_3
      obtain ⟨x3_4, ex3_4⟩ : ∃ y : Int32, y = x3 + (1 : Int32) := ⟨_, rfl⟩
      have hp := hp x3_4 ex3_4
      refine lv_iinc (v := x3_4) (lv' := [(3, .int x3_4), (0, .ref (g.2.2 60))]) hx hb dX9_seek_35 hl (k := 1) rfl (by rw [ex3_4]; rfl) (by decide) rfl (fun ls hl => ?_)
      refine lv_goto (tgt := 18) hx hb dX9_seek_38 (by decide) ?_
      exact ih x3_4 w_3 _ _ _ hp hS (lv_sub hl [1, 0] rfl)
set_option maxHeartbeats 4000000 in
set_option maxRecDepth 100000 in
theorem rX9_seek {l : Launch} {g : Gw} {w : Wd} {post : Int32 → Wd → Prop}   {x1 : Int32} {x2 : Int32} (hp : pX9_seek post x1 x2 w) : MtI tabX l yX9_seek cX9_seek 6 (some .int) 16 g w [.ref (g.2.2 60), .int x1, .int x2] post := by
  refine q_entI tabX_nd (by decide) rfl (Nat.le_of_ble_eq_true rfl) ?_
  intro p e s m args below meth c A Q ls hC hR hS hl
  have hx := hC.1
  have hb := hC.2.1
  have hl : lv_has ls 6 [(0, .ref (g.2.2 60)), (1, .int x1), (2, .int x2)] := hl
  unfold pX9_seek at hp
  refine lv_aload_n hx hb dX9_seek_0 rfl (lv_at hl 0 rfl) ?_
  refine lv_iload_n hx hb dX9_seek_1 rfl (lv_at hl 1 rfl) ?_
  refine P_60_3 hC hS m1114 dX9_seek_2 (fun w_1 H locs ew_1 hS => ?_)
  have hp := hp w_1 ew_1
  refine lv_aload_n hx hb dX9_seek_5 rfl (lv_at hl 0 rfl) ?_
  refine lv_iload_n hx hb dX9_seek_6 rfl (lv_at hl 2 rfl) ?_
  refine lv_sipush hx hb dX9_seek_7 kS_4096 ?_
  refine q_min hC hl.1 m1115 m347 m348 m349 (rmm (by decide) (Nat.le_of_ble_eq_true rfl)) dX9_seek_10 ?_
  refine P_60_4 hC hS m1116 dX9_seek_13 (fun w_2 H locs ew_2 hS => ?_)
  have hp := hp w_2 ew_2
  refine lv_iconst hx hb dX9_seek_16 kI_0 ?_
  refine lv_istore_n (lv' := [(3, .int (0 : Int32)), (0, .ref (g.2.2 60)), (1, .int x1), (2, .int x2)]) hx hb dX9_seek_17 rfl hl (by decide) rfl (fun ls hl => ?_)
  obtain ⟨n9, hp⟩ := hp
  exact bX9_seek_18 hC hR n9 (0 : Int32) w_2 _ _ _ hp hS (lv_sub hl [1, 0] rfl)
def pX10_wax (post : Int32 → Wd → Prop) (x1 : Int32) (w : Wd) : Prop := ∀ w_1, w_1 = sI w 110 1 (0 : Int32) → pX10_isRow (fun r_2 w_3 => (¬ r_2 = 0 → (pX7_rows (fun r_5 w_6 => pX9_seek (fun r_7 w_8 => pX10_isSeal (fun r_9 w_10 => (¬ r_9 = 0 → (pX4_lay (fun w_12 => vp_in r_7 24 ∧ pX9_layWay (fun w_13 => post (w_13.1 60 5) w_13) (w_12.2.1 162 r_7.toNatClampNeg) w_12) r_7 w_10)) ∧ (r_9 = 0 → (post (-1 : Int32) w_10))) r_7 w_8) x1 r_5 w_6) (w_3.2.2.2.2 0) w_3)) ∧ (r_2 = 0 → (post (-1 : Int32) w_3))) x1 w_1
set_option maxHeartbeats 4000000 in
set_option maxRecDepth 100000 in
theorem rX10_wax {l : Launch} {g : Gw} {w : Wd} {post : Int32 → Wd → Prop}   {x1 : Int32} (hp : pX10_wax post x1 w) : MtI tabX l yX10_wax cX10_wax 3 (some .int) 18 g w [.ref (g.2.2 0), .int x1] post := by
  refine q_entI tabX_nd (by decide) rfl (Nat.le_of_ble_eq_true rfl) ?_
  intro p e s m args below meth c A Q ls hC hR hS hl
  have hx := hC.1
  have hb := hC.2.1
  have hl : lv_has ls 3 [(0, .ref (g.2.2 0)), (1, .int x1)] := hl
  unfold pX10_wax at hp
  refine lv_aload_n hx hb dX10_wax_0 rfl (lv_at hl 0 rfl) ?_
  refine G_0_9 hC hS m54 dX10_wax_1 ?_
  refine lv_iconst hx hb dX10_wax_4 kI_0 ?_
  refine P_110_1 hC hS m224 dX10_wax_5 (fun w_1 H locs ew_1 hS => ?_)
  have hp := hp w_1 ew_1
  refine lv_aload_n hx hb dX10_wax_8 rfl (lv_at hl 0 rfl) ?_
  refine lv_iload_n hx hb dX10_wax_9 rfl (lv_at hl 1 rfl) ?_
  refine q_cvI (As := [.int x1]) (rest := []) hC hS hl.1 (rX10_isRow hp) cwX10_180 yvX10_isRow (rcv_0 hC hS) rfl rfl (Nat.le_of_ble_eq_true rfl) (rmk (by decide) (by decide)) dX10_wax_10 (fun r_2 w_3 H locs hp hS => ?_)
  refine lv_if_ne (tgt := 18) hx hb dX10_wax_13 (by decide) (fun c_4 => ?_) (fun c_4 => ?_)
  · have hp := hp.1 c_4
    refine lv_aload_n hx hb dX10_wax_18 rfl (lv_at hl 0 rfl) ?_
    refine G_0_6 hC hS m42 dX10_wax_19 ?_
    refine lv_iload_n hx hb dX10_wax_22 rfl (lv_at hl 1 rfl) ?_
    refine lv_aload_n hx hb dX10_wax_23 rfl (lv_at hl 0 rfl) ?_
    refine G_0_16 hC hS m21 dX10_wax_24 ?_
    refine q_cvI (As := []) (rest := [.int x1, .ref (g.2.2 60)]) hC hS hl.1 (rX7_rows hp) cwX10_240 yvX7_rows (rcvR hC hS) rfl rfl (Nat.le_of_ble_eq_true rfl) (rmk (by decide) (by decide)) dX10_wax_27 (fun r_5 w_6 H locs hp hS => ?_)
    refine q_cvI (As := [.int x1, .int r_5]) (rest := []) hC hS hl.1 (rX9_seek hp) cwX10_271 yvX9_seek (rcv_60 hC hS) rfl rfl (Nat.le_of_ble_eq_true rfl) (rmk (by decide) (by decide)) dX10_wax_30 (fun r_7 w_8 H locs hp hS => ?_)
    refine lv_istore_n (lv' := [(2, .int r_7), (0, .ref (g.2.2 0)), (1, .int x1)]) hx hb dX10_wax_33 rfl hl (by decide) rfl (fun ls hl => ?_)
    refine lv_aload_n hx hb dX10_wax_34 rfl (lv_at hl 1 rfl) ?_
    refine lv_iload_n hx hb dX10_wax_35 rfl (lv_at hl 0 rfl) ?_
    refine q_cvI (As := [.int r_7]) (rest := []) hC hS hl.1 (rX10_isSeal hp) cwX10_149 yvX10_isSeal (rcv_0 hC hS) rfl rfl (Nat.le_of_ble_eq_true rfl) (rmk (by decide) (by decide)) dX10_wax_36 (fun r_9 w_10 H locs hp hS => ?_)
    refine lv_if_ne (tgt := 44) hx hb dX10_wax_39 (by decide) (fun c_11 => ?_) (fun c_11 => ?_)
    · have hp := hp.1 c_11
      refine lv_aload_n hx hb dX10_wax_44 rfl (lv_at hl 1 rfl) ?_
      refine G_0_9 hC hS m54 dX10_wax_45 ?_
      refine lv_iload_n hx hb dX10_wax_48 rfl (lv_at hl 0 rfl) ?_
      refine q_cvV (As := [.int r_7]) (rest := []) hC hS hl.1 (rX4_lay hp) cwX10_263 yvX4_lay (rcv_110 hC hS) rfl rfl (Nat.le_of_ble_eq_true rfl) (rmk (by decide) (by decide)) dX10_wax_49 (fun w_12 H locs hp hS => ?_)
      refine lv_aload_n hx hb dX10_wax_52 rfl (lv_at hl 1 rfl) ?_
      refine G_0_6 hC hS m42 dX10_wax_53 ?_
      refine lv_aload_n hx hb dX10_wax_56 rfl (lv_at hl 1 rfl) ?_
      refine G_0_3 hC hS m30 dX10_wax_57 ?_
      refine G_160_1 hC hS m613 dX10_wax_60 ?_
      refine lv_iload_n hx hb dX10_wax_63 rfl (lv_at hl 0 rfl) ?_
      refine La_162 hC hS hp.1 dX10_wax_64 ?_
      have hp := hp.2
      refine lv_aload_n hx hb dX10_wax_65 rfl (lv_at hl 1 rfl) ?_
      refine G_0_9 hC hS m54 dX10_wax_66 ?_
      refine q_cvV (As := [.int (w_12.2.1 162 r_7.toNatClampNeg), .ref (g.2.2 110)]) (rest := []) hC hS hl.1 (rX9_layWay hp) cwX10_274 yvX9_layWay (rcv_60 hC hS) rfl rfl (Nat.le_of_ble_eq_true rfl) (rmk (by decide) (by decide)) dX10_wax_69 (fun w_13 H locs hp hS => ?_)
      refine lv_aload_n hx hb dX10_wax_72 rfl (lv_at hl 1 rfl) ?_
      refine G_0_6 hC hS m42 dX10_wax_73 ?_
      refine G_60_5 hC hS m1109 dX10_wax_76 ?_
      exact hR _ _ _ _ _ _ dX10_wax_79 hp hS
    · have hp := hp.2 c_11
      refine lv_iconst hx hb dX10_wax_42 kI_m1 ?_
      exact hR _ _ _ _ _ _ dX10_wax_43 hp hS
  · have hp := hp.2 c_4
    refine lv_iconst hx hb dX10_wax_16 kI_m1 ?_
    exact hR _ _ _ _ _ _ dX10_wax_17 hp hS
def pX3_add (post : Int32 → Wd → Prop) (x1 : Int32) (x2 : Int32) (x3 : Int32) (x4 : Int32) (w : Wd) : Prop := ((w.1 70 0) < 0 → (post (-1 : Int32) w)) ∧ (¬ (w.1 70 0) < 0 → (((w.1 70 0) < (40 : Int32) → (vp_in (w.1 70 0) 40 ∧ ∀ w_3, w_3 = sA w 73 (w.1 70 0).toNatClampNeg x1 → vp_in (w_3.1 70 0) 40 ∧ ∀ w_4, w_4 = sA w_3 74 (w_3.1 70 0).toNatClampNeg x2 → vp_in (w_4.1 70 0) 40 ∧ ∀ w_5, w_5 = sA w_4 75 (w_4.1 70 0).toNatClampNeg x3 → vp_in (w_5.1 70 0) 40 ∧ ∀ w_6, w_6 = sA w_5 76 (w_5.1 70 0).toNatClampNeg x4 → vp_in (w_6.1 70 0) 40 ∧ ∀ w_7, w_7 = sA w_6 77 (w_6.1 70 0).toNatClampNeg (w_6.1 70 1) → vp_in (w_7.1 70 0) 40 ∧ ∀ w_8, w_8 = sA w_7 78 (w_7.1 70 0).toNatClampNeg (-1 : Int32) → ∀ w_9, w_9 = sI w_8 70 0 ((w_8.1 70 0) + (1 : Int32)) → post ((w_9.1 70 0) - (1 : Int32)) w_9)) ∧ (¬ (w.1 70 0) < (40 : Int32) → (post (-1 : Int32) w))))
set_option maxHeartbeats 4000000 in
set_option maxRecDepth 100000 in
theorem rX3_add {l : Launch} {g : Gw} {w : Wd} {post : Int32 → Wd → Prop}   {x1 : Int32} {x2 : Int32} {x3 : Int32} {x4 : Int32} (hp : pX3_add post x1 x2 x3 x4 w) : MtI tabX l yX3_add cX3_add 5 (some .int) 1 g w [.ref (g.2.2 70), .int x1, .int x2, .int x3, .int x4] post := by
  refine q_entI tabX_nd (by decide) rfl (Nat.le_of_ble_eq_true rfl) ?_
  intro p e s m args below meth c A Q ls hC hR hS hl
  have hx := hC.1
  have hb := hC.2.1
  have hl : lv_has ls 5 [(0, .ref (g.2.2 70)), (1, .int x1), (2, .int x2), (3, .int x3), (4, .int x4)] := hl
  unfold pX3_add at hp
  refine lv_aload_n hx hb dX3_add_0 rfl (lv_at hl 0 rfl) ?_
  refine G_70_0 hC hS m1167 dX3_add_1 ?_
  refine lv_if_lt (tgt := 16) hx hb dX3_add_4 (by decide) (fun c_1 => ?_) (fun c_1 => ?_)
  · have hp := hp.1 c_1
    refine lv_iconst hx hb dX3_add_16 kI_m1 ?_
    exact hR _ _ _ _ _ _ dX3_add_17 hp hS
  · have hp := hp.2 c_1
    refine lv_aload_n hx hb dX3_add_7 rfl (lv_at hl 0 rfl) ?_
    refine G_70_0 hC hS m1167 dX3_add_8 ?_
    refine lv_bipush hx hb dX3_add_11 kB_40 ?_
    refine lv_icmp_lt (tgt := 18) hx hb dX3_add_13 (by decide) (fun c_2 => ?_) (fun c_2 => ?_)
    · have hp := hp.1 c_2
      refine lv_aload_n hx hb dX3_add_18 rfl (lv_at hl 0 rfl) ?_
      refine G_70_2 hC hS m195 dX3_add_19 ?_
      refine lv_aload_n hx hb dX3_add_22 rfl (lv_at hl 0 rfl) ?_
      refine G_70_0 hC hS m1167 dX3_add_23 ?_
      refine lv_iload_n hx hb dX3_add_26 rfl (lv_at hl 1 rfl) ?_
      refine Sa_73 hC hS hp.1 dX3_add_27 (fun w_3 H locs ew_3 hS => ?_)
      have hp := hp.2
      have hp := hp w_3 ew_3
      refine lv_aload_n hx hb dX3_add_28 rfl (lv_at hl 0 rfl) ?_
      refine G_70_3 hC hS m196 dX3_add_29 ?_
      refine lv_aload_n hx hb dX3_add_32 rfl (lv_at hl 0 rfl) ?_
      refine G_70_0 hC hS m1167 dX3_add_33 ?_
      refine lv_iload_n hx hb dX3_add_36 rfl (lv_at hl 2 rfl) ?_
      refine Sa_74 hC hS hp.1 dX3_add_37 (fun w_4 H locs ew_4 hS => ?_)
      have hp := hp.2
      have hp := hp w_4 ew_4
      refine lv_aload_n hx hb dX3_add_38 rfl (lv_at hl 0 rfl) ?_
      refine G_70_4 hC hS m197 dX3_add_39 ?_
      refine lv_aload_n hx hb dX3_add_42 rfl (lv_at hl 0 rfl) ?_
      refine G_70_0 hC hS m1167 dX3_add_43 ?_
      refine lv_iload_n hx hb dX3_add_46 rfl (lv_at hl 3 rfl) ?_
      refine Sa_75 hC hS hp.1 dX3_add_47 (fun w_5 H locs ew_5 hS => ?_)
      have hp := hp.2
      have hp := hp w_5 ew_5
      refine lv_aload_n hx hb dX3_add_48 rfl (lv_at hl 0 rfl) ?_
      refine G_70_5 hC hS m198 dX3_add_49 ?_
      refine lv_aload_n hx hb dX3_add_52 rfl (lv_at hl 0 rfl) ?_
      refine G_70_0 hC hS m1167 dX3_add_53 ?_
      refine lv_iload hx hb dX3_add_56 (lv_at hl 4 rfl) ?_
      refine Sa_76 hC hS hp.1 dX3_add_58 (fun w_6 H locs ew_6 hS => ?_)
      have hp := hp.2
      have hp := hp w_6 ew_6
      refine lv_aload_n hx hb dX3_add_59 rfl (lv_at hl 0 rfl) ?_
      refine G_70_6 hC hS m199 dX3_add_60 ?_
      refine lv_aload_n hx hb dX3_add_63 rfl (lv_at hl 0 rfl) ?_
      refine G_70_0 hC hS m1167 dX3_add_64 ?_
      refine lv_aload_n hx hb dX3_add_67 rfl (lv_at hl 0 rfl) ?_
      refine G_70_1 hC hS m1168 dX3_add_68 ?_
      refine Sa_77 hC hS hp.1 dX3_add_71 (fun w_7 H locs ew_7 hS => ?_)
      have hp := hp.2
      have hp := hp w_7 ew_7
      refine lv_aload_n hx hb dX3_add_72 rfl (lv_at hl 0 rfl) ?_
      refine G_70_7 hC hS m200 dX3_add_73 ?_
      refine lv_aload_n hx hb dX3_add_76 rfl (lv_at hl 0 rfl) ?_
      refine G_70_0 hC hS m1167 dX3_add_77 ?_
      refine lv_iconst hx hb dX3_add_80 kI_m1 ?_
      refine Sa_78 hC hS hp.1 dX3_add_81 (fun w_8 H locs ew_8 hS => ?_)
      have hp := hp.2
      have hp := hp w_8 ew_8
      refine lv_aload_n hx hb dX3_add_82 rfl (lv_at hl 0 rfl) ?_
      refine lv_dup hx hb dX3_add_83 rfl ?_
      refine G_70_0 hC hS m1167 dX3_add_84 ?_
      refine lv_iconst hx hb dX3_add_87 kI_1 ?_
      refine lv_iadd hx hb dX3_add_88 ?_
      refine P_70_0 hC hS m1167 dX3_add_89 (fun w_9 H locs ew_9 hS => ?_)
      have hp := hp w_9 ew_9
      refine lv_aload_n hx hb dX3_add_92 rfl (lv_at hl 0 rfl) ?_
      refine G_70_0 hC hS m1167 dX3_add_93 ?_
      refine lv_iconst hx hb dX3_add_96 kI_1 ?_
      refine lv_isub hx hb dX3_add_97 ?_
      exact hR _ _ _ _ _ _ dX3_add_98 hp hS
    · have hp := hp.2 c_2
      refine lv_iconst hx hb dX3_add_16 kI_m1 ?_
      exact hR _ _ _ _ _ _ dX3_add_17 hp hS
def pX10_sample (post : Int32 → Wd → Prop) (x1 : Int32) (x2 : Int32) (w : Wd) : Prop := pX10_isRow (fun r_1 w_2 => (r_1 = 0 → (post (-1 : Int32) w_2)) ∧ (¬ r_1 = 0 → ((x2 = 0 → (pX3_add (fun r_5 w_6 => post r_5 w_6) (0 : Int32) x1 (0 : Int32) (0 : Int32) w_2)) ∧ (¬ x2 = 0 → (pX3_add (fun r_7 w_8 => post r_7 w_8) (0 : Int32) x1 (0 : Int32) (1 : Int32) w_2))))) x1 w
set_option maxHeartbeats 4000000 in
set_option maxRecDepth 100000 in
theorem rX10_sample {l : Launch} {g : Gw} {w : Wd} {post : Int32 → Wd → Prop}   {x1 : Int32} {x2 : Int32} (hp : pX10_sample post x1 x2 w) : MtI tabX l yX10_sample cX10_sample 3 (some .int) 3 g w [.ref (g.2.2 0), .int x1, .int x2] post := by
  refine q_entI tabX_nd (by decide) rfl (Nat.le_of_ble_eq_true rfl) ?_
  intro p e s m args below meth c A Q ls hC hR hS hl
  have hx := hC.1
  have hb := hC.2.1
  have hl : lv_has ls 3 [(0, .ref (g.2.2 0)), (1, .int x1), (2, .int x2)] := hl
  unfold pX10_sample at hp
  refine lv_aload_n hx hb dX10_sample_0 rfl (lv_at hl 0 rfl) ?_
  refine lv_iload_n hx hb dX10_sample_1 rfl (lv_at hl 1 rfl) ?_
  refine q_cvI (As := [.int x1]) (rest := []) hC hS hl.1 (rX10_isRow hp) cwX10_180 yvX10_isRow (rcv_0 hC hS) rfl rfl (Nat.le_of_ble_eq_true rfl) (rmk (by decide) (by decide)) dX10_sample_2 (fun r_1 w_2 H locs hp hS => ?_)
  refine lv_if_eq (tgt := 30) hx hb dX10_sample_5 (by decide) (fun c_3 => ?_) (fun c_3 => ?_)
  · have hp := hp.1 c_3
    refine lv_iconst hx hb dX10_sample_30 kI_m1 ?_
    exact hR _ _ _ _ _ _ dX10_sample_31 hp hS
  · have hp := hp.2 c_3
    refine lv_aload_n hx hb dX10_sample_8 rfl (lv_at hl 0 rfl) ?_
    refine G_0_7 hC hS m46 dX10_sample_9 ?_
    refine lv_iconst hx hb dX10_sample_12 kI_0 ?_
    refine lv_iload_n hx hb dX10_sample_13 rfl (lv_at hl 1 rfl) ?_
    refine lv_iconst hx hb dX10_sample_14 kI_0 ?_
    refine lv_iload_n hx hb dX10_sample_15 rfl (lv_at hl 2 rfl) ?_
    refine lv_if_eq (tgt := 23) hx hb dX10_sample_16 (by decide) (fun c_4 => ?_) (fun c_4 => ?_)
    · have hp := hp.1 c_4
      refine lv_iconst hx hb dX10_sample_23 kI_0 ?_
      refine q_cvI (As := [.int (0 : Int32), .int x1, .int (0 : Int32), .int (0 : Int32)]) (rest := []) hC hS hl.1 (rX3_add hp) cwX10_281 yvX3_add (rcv_70 hC hS) rfl rfl (Nat.le_of_ble_eq_true rfl) (rmk (by decide) (by decide)) dX10_sample_24 (fun r_5 w_6 H locs hp hS => ?_)
      refine lv_goto (tgt := 31) hx hb dX10_sample_27 (by decide) ?_
      exact hR _ _ _ _ _ _ dX10_sample_31 hp hS
    · have hp := hp.2 c_4
      refine lv_iconst hx hb dX10_sample_19 kI_1 ?_
      refine lv_goto (tgt := 24) hx hb dX10_sample_20 (by decide) ?_
      refine q_cvI (As := [.int (0 : Int32), .int x1, .int (0 : Int32), .int (1 : Int32)]) (rest := []) hC hS hl.1 (rX3_add hp) cwX10_281 yvX3_add (rcv_70 hC hS) rfl rfl (Nat.le_of_ble_eq_true rfl) (rmk (by decide) (by decide)) dX10_sample_24 (fun r_7 w_8 H locs hp hS => ?_)
      refine lv_goto (tgt := 31) hx hb dX10_sample_27 (by decide) ?_
      exact hR _ _ _ _ _ _ dX10_sample_31 hp hS
def pX10_isYear (post : Int32 → Wd → Prop) (x0 : Int32) (w : Wd) : Prop := (x0 < 0 → (post (0 : Int32) w)) ∧ (¬ x0 < 0 → (((999 : Int32) < x0 → (post (0 : Int32) w)) ∧ (¬ (999 : Int32) < x0 → (post (1 : Int32) w))))
set_option maxHeartbeats 4000000 in
set_option maxRecDepth 100000 in
theorem rX10_isYear {l : Launch} {g : Gw} {w : Wd} {post : Int32 → Wd → Prop}   {x0 : Int32} (hp : pX10_isYear post x0 w) : MtI tabX l yX10_isYear cX10_isYear 1 (some .boolean) 1 g w [.int x0] post := by
  refine q_entZ tabX_nd (by decide) rfl (Nat.le_of_ble_eq_true rfl) ?_
  intro p e s m args below meth c A Q ls hC hR hS hl
  have hx := hC.1
  have hb := hC.2.1
  have hl : lv_has ls 1 [(0, .int x0)] := hl
  unfold pX10_isYear at hp
  refine lv_iload_n hx hb dX10_isYear_0 rfl (lv_at hl 0 rfl) ?_
  refine lv_if_lt (tgt := 15) hx hb dX10_isYear_1 (by decide) (fun c_1 => ?_) (fun c_1 => ?_)
  · have hp := hp.1 c_1
    refine lv_iconst hx hb dX10_isYear_15 kI_0 ?_
    exact hR _ _ _ _ _ _ dX10_isYear_16 (by decide) hp hS
  · have hp := hp.2 c_1
    refine lv_iload_n hx hb dX10_isYear_4 rfl (lv_at hl 0 rfl) ?_
    refine lv_sipush hx hb dX10_isYear_5 kS_999 ?_
    refine lv_icmp_gt (tgt := 15) hx hb dX10_isYear_8 (by decide) (fun c_2 => ?_) (fun c_2 => ?_)
    · have hp := hp.1 c_2
      refine lv_iconst hx hb dX10_isYear_15 kI_0 ?_
      exact hR _ _ _ _ _ _ dX10_isYear_16 (by decide) hp hS
    · have hp := hp.2 c_2
      refine lv_iconst hx hb dX10_isYear_11 kI_1 ?_
      refine lv_goto (tgt := 16) hx hb dX10_isYear_12 (by decide) ?_
      exact hR _ _ _ _ _ _ dX10_isYear_16 (by decide) hp hS
def pX10_claim (post : Int32 → Wd → Prop) (x1 : Int32) (x2 : Int32) (x3 : Int32) (w : Wd) : Prop := pX10_isRow (fun r_1 w_2 => (r_1 = 0 → (post (-1 : Int32) w_2)) ∧ (¬ r_1 = 0 → (pX10_isSeal (fun r_4 w_5 => (r_4 = 0 → (post (-1 : Int32) w_5)) ∧ (¬ r_4 = 0 → (pX10_isYear (fun r_7 w_8 => (¬ r_7 = 0 → (pX3_add (fun r_10 w_11 => post r_10 w_11) (1 : Int32) x1 x2 x3 w_8)) ∧ (r_7 = 0 → (post (-1 : Int32) w_8))) x3 w_5))) x2 w_2))) x1 w
set_option maxHeartbeats 4000000 in
set_option maxRecDepth 100000 in
theorem rX10_claim {l : Launch} {g : Gw} {w : Wd} {post : Int32 → Wd → Prop}   {x1 : Int32} {x2 : Int32} {x3 : Int32} (hp : pX10_claim post x1 x2 x3 w) : MtI tabX l yX10_claim cX10_claim 4 (some .int) 3 g w [.ref (g.2.2 0), .int x1, .int x2, .int x3] post := by
  refine q_entI tabX_nd (by decide) rfl (Nat.le_of_ble_eq_true rfl) ?_
  intro p e s m args below meth c A Q ls hC hR hS hl
  have hx := hC.1
  have hb := hC.2.1
  have hl : lv_has ls 4 [(0, .ref (g.2.2 0)), (1, .int x1), (2, .int x2), (3, .int x3)] := hl
  unfold pX10_claim at hp
  refine lv_aload_n hx hb dX10_claim_0 rfl (lv_at hl 0 rfl) ?_
  refine lv_iload_n hx hb dX10_claim_1 rfl (lv_at hl 1 rfl) ?_
  refine q_cvI (As := [.int x1]) (rest := []) hC hS hl.1 (rX10_isRow hp) cwX10_180 yvX10_isRow (rcv_0 hC hS) rfl rfl (Nat.le_of_ble_eq_true rfl) (rmk (by decide) (by decide)) dX10_claim_2 (fun r_1 w_2 H locs hp hS => ?_)
  refine lv_if_eq (tgt := 23) hx hb dX10_claim_5 (by decide) (fun c_3 => ?_) (fun c_3 => ?_)
  · have hp := hp.1 c_3
    refine lv_iconst hx hb dX10_claim_23 kI_m1 ?_
    exact hR _ _ _ _ _ _ dX10_claim_24 hp hS
  · have hp := hp.2 c_3
    refine lv_aload_n hx hb dX10_claim_8 rfl (lv_at hl 0 rfl) ?_
    refine lv_iload_n hx hb dX10_claim_9 rfl (lv_at hl 2 rfl) ?_
    refine q_cvI (As := [.int x2]) (rest := []) hC hS hl.1 (rX10_isSeal hp) cwX10_149 yvX10_isSeal (rcv_0 hC hS) rfl rfl (Nat.le_of_ble_eq_true rfl) (rmk (by decide) (by decide)) dX10_claim_10 (fun r_4 w_5 H locs hp hS => ?_)
    refine lv_if_eq (tgt := 23) hx hb dX10_claim_13 (by decide) (fun c_6 => ?_) (fun c_6 => ?_)
    · have hp := hp.1 c_6
      refine lv_iconst hx hb dX10_claim_23 kI_m1 ?_
      exact hR _ _ _ _ _ _ dX10_claim_24 hp hS
    · have hp := hp.2 c_6
      refine lv_iload_n hx hb dX10_claim_16 rfl (lv_at hl 3 rfl) ?_
      refine q_csI (As := [.int x3]) (rest := []) hC hS hl.1 (rX10_isYear hp) cwX10_283 ysX10_isYear rfl rfl (Nat.le_of_ble_eq_true rfl) (rmk (by decide) (by decide)) dX10_claim_17 (fun r_7 w_8 H locs hp hS => ?_)
      refine lv_if_ne (tgt := 25) hx hb dX10_claim_20 (by decide) (fun c_9 => ?_) (fun c_9 => ?_)
      · have hp := hp.1 c_9
        refine lv_aload_n hx hb dX10_claim_25 rfl (lv_at hl 0 rfl) ?_
        refine G_0_7 hC hS m46 dX10_claim_26 ?_
        refine lv_iconst hx hb dX10_claim_29 kI_1 ?_
        refine lv_iload_n hx hb dX10_claim_30 rfl (lv_at hl 1 rfl) ?_
        refine lv_iload_n hx hb dX10_claim_31 rfl (lv_at hl 2 rfl) ?_
        refine lv_iload_n hx hb dX10_claim_32 rfl (lv_at hl 3 rfl) ?_
        refine q_cvI (As := [.int (1 : Int32), .int x1, .int x2, .int x3]) (rest := []) hC hS hl.1 (rX3_add hp) cwX10_281 yvX3_add (rcv_70 hC hS) rfl rfl (Nat.le_of_ble_eq_true rfl) (rmk (by decide) (by decide)) dX10_claim_33 (fun r_10 w_11 H locs hp hS => ?_)
        exact hR _ _ _ _ _ _ dX10_claim_36 hp hS
      · have hp := hp.2 c_9
        refine lv_iconst hx hb dX10_claim_23 kI_m1 ?_
        exact hR _ _ _ _ _ _ dX10_claim_24 hp hS
def pX10_saw (post : Int32 → Wd → Prop) (x1 : Int32) (x2 : Int32) (x3 : Int32) (w : Wd) : Prop := pX10_isMark (fun r_1 w_2 => (r_1 = 0 → (post (-1 : Int32) w_2)) ∧ (¬ r_1 = 0 → (pX10_isYear (fun r_4 w_5 => (r_4 = 0 → (post (-1 : Int32) w_5)) ∧ (¬ r_4 = 0 → ((x3 = 0 → (pX3_add (fun r_8 w_9 => post r_8 w_9) (2 : Int32) x1 x2 (0 : Int32) w_5)) ∧ (¬ x3 = 0 → (pX3_add (fun r_10 w_11 => post r_10 w_11) (2 : Int32) x1 x2 (1 : Int32) w_5))))) x2 w_2))) x1 w
set_option maxHeartbeats 4000000 in
set_option maxRecDepth 100000 in
theorem rX10_saw {l : Launch} {g : Gw} {w : Wd} {post : Int32 → Wd → Prop}   {x1 : Int32} {x2 : Int32} {x3 : Int32} (hp : pX10_saw post x1 x2 x3 w) : MtI tabX l yX10_saw cX10_saw 4 (some .int) 2 g w [.ref (g.2.2 0), .int x1, .int x2, .int x3] post := by
  refine q_entI tabX_nd (by decide) rfl (Nat.le_of_ble_eq_true rfl) ?_
  intro p e s m args below meth c A Q ls hC hR hS hl
  have hx := hC.1
  have hb := hC.2.1
  have hl : lv_has ls 4 [(0, .ref (g.2.2 0)), (1, .int x1), (2, .int x2), (3, .int x3)] := hl
  unfold pX10_saw at hp
  refine lv_aload_n hx hb dX10_saw_0 rfl (lv_at hl 0 rfl) ?_
  refine lv_iload_n hx hb dX10_saw_1 rfl (lv_at hl 1 rfl) ?_
  refine q_cvI (As := [.int x1]) (rest := []) hC hS hl.1 (rX10_isMark hp) cwX10_286 yvX10_isMark (rcv_0 hC hS) rfl rfl (Nat.le_of_ble_eq_true rfl) (rmk (by decide) (by decide)) dX10_saw_2 (fun r_1 w_2 H locs hp hS => ?_)
  refine lv_if_eq (tgt := 37) hx hb dX10_saw_5 (by decide) (fun c_3 => ?_) (fun c_3 => ?_)
  · have hp := hp.1 c_3
    refine lv_iconst hx hb dX10_saw_37 kI_m1 ?_
    exact hR _ _ _ _ _ _ dX10_saw_38 hp hS
  · have hp := hp.2 c_3
    refine lv_iload_n hx hb dX10_saw_8 rfl (lv_at hl 2 rfl) ?_
    refine q_csI (As := [.int x2]) (rest := []) hC hS hl.1 (rX10_isYear hp) cwX10_283 ysX10_isYear rfl rfl (Nat.le_of_ble_eq_true rfl) (rmk (by decide) (by decide)) dX10_saw_9 (fun r_4 w_5 H locs hp hS => ?_)
    refine lv_if_eq (tgt := 37) hx hb dX10_saw_12 (by decide) (fun c_6 => ?_) (fun c_6 => ?_)
    · have hp := hp.1 c_6
      refine lv_iconst hx hb dX10_saw_37 kI_m1 ?_
      exact hR _ _ _ _ _ _ dX10_saw_38 hp hS
    · have hp := hp.2 c_6
      refine lv_aload_n hx hb dX10_saw_15 rfl (lv_at hl 0 rfl) ?_
      refine G_0_7 hC hS m46 dX10_saw_16 ?_
      refine lv_iconst hx hb dX10_saw_19 kI_2 ?_
      refine lv_iload_n hx hb dX10_saw_20 rfl (lv_at hl 1 rfl) ?_
      refine lv_iload_n hx hb dX10_saw_21 rfl (lv_at hl 2 rfl) ?_
      refine lv_iload_n hx hb dX10_saw_22 rfl (lv_at hl 3 rfl) ?_
      refine lv_if_eq (tgt := 30) hx hb dX10_saw_23 (by decide) (fun c_7 => ?_) (fun c_7 => ?_)
      · have hp := hp.1 c_7
        refine lv_iconst hx hb dX10_saw_30 kI_0 ?_
        refine q_cvI (As := [.int (2 : Int32), .int x1, .int x2, .int (0 : Int32)]) (rest := []) hC hS hl.1 (rX3_add hp) cwX10_281 yvX3_add (rcv_70 hC hS) rfl rfl (Nat.le_of_ble_eq_true rfl) (rmk (by decide) (by decide)) dX10_saw_31 (fun r_8 w_9 H locs hp hS => ?_)
        refine lv_goto (tgt := 38) hx hb dX10_saw_34 (by decide) ?_
        exact hR _ _ _ _ _ _ dX10_saw_38 hp hS
      · have hp := hp.2 c_7
        refine lv_iconst hx hb dX10_saw_26 kI_1 ?_
        refine lv_goto (tgt := 31) hx hb dX10_saw_27 (by decide) ?_
        refine q_cvI (As := [.int (2 : Int32), .int x1, .int x2, .int (1 : Int32)]) (rest := []) hC hS hl.1 (rX3_add hp) cwX10_281 yvX3_add (rcv_70 hC hS) rfl rfl (Nat.le_of_ble_eq_true rfl) (rmk (by decide) (by decide)) dX10_saw_31 (fun r_10 w_11 H locs hp hS => ?_)
        refine lv_goto (tgt := 38) hx hb dX10_saw_34 (by decide) ?_
        exact hR _ _ _ _ _ _ dX10_saw_38 hp hS
def pX10_isPaper (post : Int32 → Wd → Prop) (x0 : Int32) (w : Wd) : Prop := (x0 < 0 → (post (0 : Int32) w)) ∧ (¬ x0 < 0 → (((8 : Int32) ≤ x0 → (post (0 : Int32) w)) ∧ (¬ (8 : Int32) ≤ x0 → (post (1 : Int32) w))))
set_option maxHeartbeats 4000000 in
set_option maxRecDepth 100000 in
theorem rX10_isPaper {l : Launch} {g : Gw} {w : Wd} {post : Int32 → Wd → Prop}   {x0 : Int32} (hp : pX10_isPaper post x0 w) : MtI tabX l yX10_isPaper cX10_isPaper 1 (some .boolean) 1 g w [.int x0] post := by
  refine q_entZ tabX_nd (by decide) rfl (Nat.le_of_ble_eq_true rfl) ?_
  intro p e s m args below meth c A Q ls hC hR hS hl
  have hx := hC.1
  have hb := hC.2.1
  have hl : lv_has ls 1 [(0, .int x0)] := hl
  unfold pX10_isPaper at hp
  refine lv_iload_n hx hb dX10_isPaper_0 rfl (lv_at hl 0 rfl) ?_
  refine lv_if_lt (tgt := 14) hx hb dX10_isPaper_1 (by decide) (fun c_1 => ?_) (fun c_1 => ?_)
  · have hp := hp.1 c_1
    refine lv_iconst hx hb dX10_isPaper_14 kI_0 ?_
    exact hR _ _ _ _ _ _ dX10_isPaper_15 (by decide) hp hS
  · have hp := hp.2 c_1
    refine lv_iload_n hx hb dX10_isPaper_4 rfl (lv_at hl 0 rfl) ?_
    refine lv_bipush hx hb dX10_isPaper_5 kB_8 ?_
    refine lv_icmp_ge (tgt := 14) hx hb dX10_isPaper_7 (by decide) (fun c_2 => ?_) (fun c_2 => ?_)
    · have hp := hp.1 c_2
      refine lv_iconst hx hb dX10_isPaper_14 kI_0 ?_
      exact hR _ _ _ _ _ _ dX10_isPaper_15 (by decide) hp hS
    · have hp := hp.2 c_2
      refine lv_iconst hx hb dX10_isPaper_10 kI_1 ?_
      refine lv_goto (tgt := 15) hx hb dX10_isPaper_11 (by decide) ?_
      exact hR _ _ _ _ _ _ dX10_isPaper_15 (by decide) hp hS
