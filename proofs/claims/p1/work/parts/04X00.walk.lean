def pX10_putBytes_49 (k3 : Int32 → Int32 → Wd → Prop) (post : Wd → Prop) (x1 : Int32) (x2 : Int32) (w : Wd) : Prop := ∀ x2_1, x2_1 = x2 + (-8 : Int32) → k3 x1 x2_1 w
def pX10_putBytes_3 (post : Wd → Prop) : Nat → Int32 → Int32 → Wd → Prop
  | 0, _, _, _ => False
  | n + 1, x1, x2, w => (x2 < 0 → (post w)) ∧ (¬ x2 < 0 → (((w.1 0 13) < 0 → (pX10_putBytes_49 (pX10_putBytes_3 post n) post x1 x2 w)) ∧ (¬ (w.1 0 13) < 0 → (((1600 : Int32) ≤ (w.1 0 13) → (pX10_putBytes_49 (pX10_putBytes_3 post n) post x1 x2 w)) ∧ (¬ (1600 : Int32) ≤ (w.1 0 13) → (vp_in (w.1 0 13) 1600 ∧ ∀ w_4, w_4 = sA w 1 (w.1 0 13).toNatClampNeg (vp_nar .byte (((x1.toUInt32 >>> (x2.toUInt32 &&& Int32.toUInt32 31)).toInt32).toInt8.toInt32)) → ∀ w_5, w_5 = sI w_4 0 13 ((w_4.1 0 13) + (1 : Int32)) → pX10_putBytes_49 (pX10_putBytes_3 post n) post x1 x2 w_5))))))
def pX10_putBytes (post : Wd → Prop) (x1 : Int32) (w : Wd) : Prop := ∃ n9, pX10_putBytes_3 post n9 x1 (24 : Int32) w
set_option maxHeartbeats 4000000 in
set_option maxRecDepth 100000 in
theorem bX10_putBytes_49 {p : Program} {l : Launch} {e : Env} {s : State} {m : MethodId} {args : Array Value} {below : List Frame} {meth : Method} {c : Code} {Q : State → Prop} {A : Nat → Prop} {g : Gw} {post : Wd → Prop}  (hC : Cx p s m args c cX10_putBytes RX10 3 g) (hR : RtV tabX p l e (rk 1) s m args below meth c Q cX10_putBytes A g post)  {k3 : Int32 → Int32 → Wd → Prop} (hk3 : ∀ (x1 : Int32) (x2 : Int32) (w : Wd) (H : Heap) (locs : List Loc) (ls : Array Slot), k3 x1 x2 w → St tabX A s.heap g w H locs → lv_has ls 3 [(0, .ref (g.2.2 0)), (1, .int x1), (2, .int x2)] → W p l e (rk 1) s m args below meth c H locs 0 0 Q (F0 m 3 ls [])) : ∀ (x1 : Int32) (x2 : Int32) (w : Wd) (H : Heap) (locs : List Loc) (ls : Array Slot), pX10_putBytes_49 k3 post x1 x2 w → St tabX A s.heap g w H locs → lv_has ls 3 [(0, .ref (g.2.2 0)), (1, .int x1), (2, .int x2)] → W p l e (rk 1) s m args below meth c H locs 0 0 Q (F0 m 49 ls []) := by
  have hx := hC.1
  have hb := hC.2.1
  intro x1 x2 w H locs ls hp hS hl
  unfold pX10_putBytes_49 at hp
  obtain ⟨x2_1, ex2_1⟩ : ∃ y : Int32, y = x2 + (-8 : Int32) := ⟨_, rfl⟩
  have hp := hp x2_1 ex2_1
  refine lv_iinc (v := x2_1) (lv' := [(2, .int x2_1), (0, .ref (g.2.2 0)), (1, .int x1)]) hx hb dX10_putBytes_49 hl (k := 2) rfl (by rw [ex2_1]; rfl) (by decide) rfl (fun ls hl => ?_)
  refine lv_goto (tgt := 3) hx hb dX10_putBytes_52 (by decide) ?_
  exact hk3 x1 x2_1 w _ _ _ hp hS (lv_sub hl [1, 2, 0] rfl)
set_option maxHeartbeats 4000000 in
set_option maxRecDepth 100000 in
theorem bX10_putBytes_3 {p : Program} {l : Launch} {e : Env} {s : State} {m : MethodId} {args : Array Value} {below : List Frame} {meth : Method} {c : Code} {Q : State → Prop} {A : Nat → Prop} {g : Gw} {post : Wd → Prop}  (hC : Cx p s m args c cX10_putBytes RX10 3 g) (hR : RtV tabX p l e (rk 1) s m args below meth c Q cX10_putBytes A g post)  : ∀ (n : Nat) (x1 : Int32) (x2 : Int32) (w : Wd) (H : Heap) (locs : List Loc) (ls : Array Slot), pX10_putBytes_3 post n x1 x2 w → St tabX A s.heap g w H locs → lv_has ls 3 [(0, .ref (g.2.2 0)), (1, .int x1), (2, .int x2)] → W p l e (rk 1) s m args below meth c H locs 0 0 Q (F0 m 3 ls []) := by
  have hx := hC.1
  have hb := hC.2.1
  intro n
  induction n with
  | zero =>
    intro x1 x2 w H locs ls hp hS hl
    exact False.elim hp
  | succ n ih =>
    intro x1 x2 w H locs ls hp hS hl
    unfold pX10_putBytes_3 at hp
    refine lv_iload_n hx hb dX10_putBytes_3 rfl (lv_at hl 2 rfl) ?_
    refine lv_if_lt (tgt := 55) hx hb dX10_putBytes_4 (by decide) (fun c_1 => ?_) (fun c_1 => ?_)
    · have hp := hp.1 c_1
      exact hR _ _ _ _ _ dX10_putBytes_55 hp hS
    · have hp := hp.2 c_1
      refine lv_aload_n hx hb dX10_putBytes_7 rfl (lv_at hl 0 rfl) ?_
      refine G_0_13 hC hS m222 dX10_putBytes_8 ?_
      refine lv_if_lt (tgt := 49) hx hb dX10_putBytes_11 (by decide) (fun c_2 => ?_) (fun c_2 => ?_)
      · have hp := hp.1 c_2
        exact bX10_putBytes_49 hC hR ih x1 x2 w _ _ _ hp hS (lv_sub hl [0, 1, 2] rfl)
      · have hp := hp.2 c_2
        refine lv_aload_n hx hb dX10_putBytes_14 rfl (lv_at hl 0 rfl) ?_
        refine G_0_13 hC hS m222 dX10_putBytes_15 ?_
        refine lv_aload_n hx hb dX10_putBytes_18 rfl (lv_at hl 0 rfl) ?_
        refine G_0_0 hC hS m13 dX10_putBytes_19 ?_
        refine Na_1 hC hS dX10_putBytes_22 ?_
        refine lv_icmp_ge (tgt := 49) hx hb dX10_putBytes_23 (by decide) (fun c_3 => ?_) (fun c_3 => ?_)
        · have hp := hp.1 c_3
          exact bX10_putBytes_49 hC hR ih x1 x2 w _ _ _ hp hS (lv_sub hl [0, 1, 2] rfl)
        · have hp := hp.2 c_3
          refine lv_aload_n hx hb dX10_putBytes_26 rfl (lv_at hl 0 rfl) ?_
          refine G_0_0 hC hS m13 dX10_putBytes_27 ?_
          refine lv_aload_n hx hb dX10_putBytes_30 rfl (lv_at hl 0 rfl) ?_
          refine G_0_13 hC hS m222 dX10_putBytes_31 ?_
          refine lv_iload_n hx hb dX10_putBytes_34 rfl (lv_at hl 1 rfl) ?_
          refine lv_iload_n hx hb dX10_putBytes_35 rfl (lv_at hl 2 rfl) ?_
          refine lv_iushr hx hb dX10_putBytes_36 rfl ?_
          refine lv_i2b hx hb dX10_putBytes_37 rfl ?_
          refine Sa_1 hC hS hp.1 dX10_putBytes_38 (fun w_4 H locs ew_4 hS => ?_)
          have hp := hp.2
          have hp := hp w_4 ew_4
          refine lv_aload_n hx hb dX10_putBytes_39 rfl (lv_at hl 0 rfl) ?_
          refine lv_dup hx hb dX10_putBytes_40 rfl ?_
          refine G_0_13 hC hS m222 dX10_putBytes_41 ?_
          refine lv_iconst hx hb dX10_putBytes_44 kI_1 ?_
          refine lv_iadd hx hb dX10_putBytes_45 ?_
          refine P_0_13 hC hS m222 dX10_putBytes_46 (fun w_5 H locs ew_5 hS => ?_)
          have hp := hp w_5 ew_5
          exact bX10_putBytes_49 hC hR ih x1 x2 w_5 _ _ _ hp hS (lv_sub hl [0, 1, 2] rfl)
set_option maxHeartbeats 4000000 in
set_option maxRecDepth 100000 in
theorem rX10_putBytes {l : Launch} {g : Gw} {w : Wd} {post : Wd → Prop}   {x1 : Int32} (hp : pX10_putBytes post x1 w) : MtV tabX l yX10_putBytes cX10_putBytes 3 none 1 g w [.ref (g.2.2 0), .int x1] post := by
  refine q_entV tabX_nd (by decide) rfl (Nat.le_of_ble_eq_true rfl) ?_
  intro p e s m args below meth c A Q ls hC hR hS hl
  have hx := hC.1
  have hb := hC.2.1
  have hl : lv_has ls 3 [(0, .ref (g.2.2 0)), (1, .int x1)] := hl
  unfold pX10_putBytes at hp
  refine lv_bipush hx hb dX10_putBytes_0 kB_24 ?_
  refine lv_istore_n (lv' := [(2, .int (24 : Int32)), (0, .ref (g.2.2 0)), (1, .int x1)]) hx hb dX10_putBytes_2 rfl hl (by decide) rfl (fun ls hl => ?_)
  obtain ⟨n9, hp⟩ := hp
  exact bX10_putBytes_3 hC hR n9 x1 (24 : Int32) w _ _ _ hp hS (lv_sub hl [1, 2, 0] rfl)
def pX10_feed (post : Int32 → Wd → Prop) (x1 : Int32) (x2 : Int32) (x3 : Int32) (x4 : Int32) (x5 : Int32) (w : Wd) : Prop := ((w.1 0 13) ≤ (1580 : Int32) → (pX10_putBytes (fun w_2 => pX10_putBytes (fun w_3 => pX10_putBytes (fun w_4 => pX10_putBytes (fun w_5 => pX10_putBytes (fun w_6 => post (w_6.1 0 13) w_6) x5 w_5) x4 w_4) x3 w_3) x2 w_2) x1 w)) ∧ (¬ (w.1 0 13) ≤ (1580 : Int32) → (post (-1 : Int32) w))
set_option maxHeartbeats 4000000 in
set_option maxRecDepth 100000 in
theorem rX10_feed {l : Launch} {g : Gw} {w : Wd} {post : Int32 → Wd → Prop}   {x1 : Int32} {x2 : Int32} {x3 : Int32} {x4 : Int32} {x5 : Int32} (hp : pX10_feed post x1 x2 x3 x4 x5 w) : MtI tabX l yX10_feed cX10_feed 6 (some .int) 2 g w [.ref (g.2.2 0), .int x1, .int x2, .int x3, .int x4, .int x5] post := by
  refine q_entI tabX_nd (by decide) rfl (Nat.le_of_ble_eq_true rfl) ?_
  intro p e s m args below meth c A Q ls hC hR hS hl
  have hx := hC.1
  have hb := hC.2.1
  have hl : lv_has ls 6 [(0, .ref (g.2.2 0)), (1, .int x1), (2, .int x2), (3, .int x3), (4, .int x4), (5, .int x5)] := hl
  unfold pX10_feed at hp
  refine lv_aload_n hx hb dX10_feed_0 rfl (lv_at hl 0 rfl) ?_
  refine G_0_13 hC hS m222 dX10_feed_1 ?_
  refine lv_sipush hx hb dX10_feed_4 kS_1580 ?_
  refine lv_icmp_le (tgt := 12) hx hb dX10_feed_7 (by decide) (fun c_1 => ?_) (fun c_1 => ?_)
  · have hp := hp.1 c_1
    refine lv_aload_n hx hb dX10_feed_12 rfl (lv_at hl 0 rfl) ?_
    refine lv_iload_n hx hb dX10_feed_13 rfl (lv_at hl 1 rfl) ?_
    refine q_cvV (As := [.int x1]) (rest := []) hC hS hl.1 (rX10_putBytes hp) cwX10_114 yvX10_putBytes (rcv_0 hC hS) rfl rfl (Nat.le_of_ble_eq_true rfl) (rmk (by decide) (by decide)) dX10_feed_14 (fun w_2 H locs hp hS => ?_)
    refine lv_aload_n hx hb dX10_feed_17 rfl (lv_at hl 0 rfl) ?_
    refine lv_iload_n hx hb dX10_feed_18 rfl (lv_at hl 2 rfl) ?_
    refine q_cvV (As := [.int x2]) (rest := []) hC hS hl.1 (rX10_putBytes hp) cwX10_114 yvX10_putBytes (rcv_0 hC hS) rfl rfl (Nat.le_of_ble_eq_true rfl) (rmk (by decide) (by decide)) dX10_feed_19 (fun w_3 H locs hp hS => ?_)
    refine lv_aload_n hx hb dX10_feed_22 rfl (lv_at hl 0 rfl) ?_
    refine lv_iload_n hx hb dX10_feed_23 rfl (lv_at hl 3 rfl) ?_
    refine q_cvV (As := [.int x3]) (rest := []) hC hS hl.1 (rX10_putBytes hp) cwX10_114 yvX10_putBytes (rcv_0 hC hS) rfl rfl (Nat.le_of_ble_eq_true rfl) (rmk (by decide) (by decide)) dX10_feed_24 (fun w_4 H locs hp hS => ?_)
    refine lv_aload_n hx hb dX10_feed_27 rfl (lv_at hl 0 rfl) ?_
    refine lv_iload hx hb dX10_feed_28 (lv_at hl 4 rfl) ?_
    refine q_cvV (As := [.int x4]) (rest := []) hC hS hl.1 (rX10_putBytes hp) cwX10_114 yvX10_putBytes (rcv_0 hC hS) rfl rfl (Nat.le_of_ble_eq_true rfl) (rmk (by decide) (by decide)) dX10_feed_30 (fun w_5 H locs hp hS => ?_)
    refine lv_aload_n hx hb dX10_feed_33 rfl (lv_at hl 0 rfl) ?_
    refine lv_iload hx hb dX10_feed_34 (lv_at hl 5 rfl) ?_
    refine q_cvV (As := [.int x5]) (rest := []) hC hS hl.1 (rX10_putBytes hp) cwX10_114 yvX10_putBytes (rcv_0 hC hS) rfl rfl (Nat.le_of_ble_eq_true rfl) (rmk (by decide) (by decide)) dX10_feed_36 (fun w_6 H locs hp hS => ?_)
    refine lv_aload_n hx hb dX10_feed_39 rfl (lv_at hl 0 rfl) ?_
    refine G_0_13 hC hS m222 dX10_feed_40 ?_
    exact hR _ _ _ _ _ _ dX10_feed_43 hp hS
  · have hp := hp.2 c_1
    refine lv_iconst hx hb dX10_feed_10 kI_m1 ?_
    exact hR _ _ _ _ _ _ dX10_feed_11 hp hS
def pX10_end (post : Int32 → Wd → Prop) (x1 : Int32) (w : Wd) : Prop := (x1 < 0 → (post (-1 : Int32) w)) ∧ (¬ x1 < 0 → ((x1 ≤ (w.1 0 13) → (∀ w_3, w_3 = sI w 0 13 x1 → post x1 w_3)) ∧ (¬ x1 ≤ (w.1 0 13) → (post (-1 : Int32) w))))
set_option maxHeartbeats 4000000 in
set_option maxRecDepth 100000 in
theorem rX10_end {l : Launch} {g : Gw} {w : Wd} {post : Int32 → Wd → Prop}   {x1 : Int32} (hp : pX10_end post x1 w) : MtI tabX l yX10_end cX10_end 2 (some .int) 1 g w [.ref (g.2.2 0), .int x1] post := by
  refine q_entI tabX_nd (by decide) rfl (Nat.le_of_ble_eq_true rfl) ?_
  intro p e s m args below meth c A Q ls hC hR hS hl
  have hx := hC.1
  have hb := hC.2.1
  have hl : lv_has ls 2 [(0, .ref (g.2.2 0)), (1, .int x1)] := hl
  unfold pX10_end at hp
  refine lv_iload_n hx hb dX10_end_0 rfl (lv_at hl 1 rfl) ?_
  refine lv_if_lt (tgt := 12) hx hb dX10_end_1 (by decide) (fun c_1 => ?_) (fun c_1 => ?_)
  · have hp := hp.1 c_1
    refine lv_iconst hx hb dX10_end_12 kI_m1 ?_
    exact hR _ _ _ _ _ _ dX10_end_13 hp hS
  · have hp := hp.2 c_1
    refine lv_iload_n hx hb dX10_end_4 rfl (lv_at hl 1 rfl) ?_
    refine lv_aload_n hx hb dX10_end_5 rfl (lv_at hl 0 rfl) ?_
    refine G_0_13 hC hS m222 dX10_end_6 ?_
    refine lv_icmp_le (tgt := 14) hx hb dX10_end_9 (by decide) (fun c_2 => ?_) (fun c_2 => ?_)
    · have hp := hp.1 c_2
      refine lv_aload_n hx hb dX10_end_14 rfl (lv_at hl 0 rfl) ?_
      refine lv_iload_n hx hb dX10_end_15 rfl (lv_at hl 1 rfl) ?_
      refine P_0_13 hC hS m222 dX10_end_16 (fun w_3 H locs ew_3 hS => ?_)
      have hp := hp w_3 ew_3
      refine lv_iload_n hx hb dX10_end_19 rfl (lv_at hl 1 rfl) ?_
      exact hR _ _ _ _ _ _ dX10_end_20 hp hS
    · have hp := hp.2 c_2
      refine lv_iconst hx hb dX10_end_12 kI_m1 ?_
      exact hR _ _ _ _ _ _ dX10_end_13 hp hS
def pX0_forget (post : Wd → Prop)  (w : Wd) : Prop := ∀ w_1, w_1 = sI w 50 7 (0 : Int32) → ∀ w_2, w_2 = sI w_1 50 8 (0 : Int32) → post w_2
set_option maxHeartbeats 4000000 in
set_option maxRecDepth 100000 in
theorem rX0_forget {l : Launch} {g : Gw} {w : Wd} {post : Wd → Prop}    (hp : pX0_forget post  w) : MtV tabX l yX0_forget cX0_forget 1 none 1 g w [.ref (g.2.2 50)] post := by
  refine q_entV tabX_nd (by decide) rfl (Nat.le_of_ble_eq_true rfl) ?_
  intro p e s m args below meth c A Q ls hC hR hS hl
  have hx := hC.1
  have hb := hC.2.1
  have hl : lv_has ls 1 [(0, .ref (g.2.2 50))] := hl
  unfold pX0_forget at hp
  refine lv_aload_n hx hb dX0_forget_0 rfl (lv_at hl 0 rfl) ?_
  refine lv_iconst hx hb dX0_forget_1 kI_0 ?_
  refine P_50_7 hC hS m247 dX0_forget_2 (fun w_1 H locs ew_1 hS => ?_)
  have hp := hp w_1 ew_1
  refine lv_aload_n hx hb dX0_forget_5 rfl (lv_at hl 0 rfl) ?_
  refine lv_iconst hx hb dX0_forget_6 kI_0 ?_
  refine P_50_8 hC hS m248 dX0_forget_7 (fun w_2 H locs ew_2 hS => ?_)
  have hp := hp w_2 ew_2
  exact hR _ _ _ _ _ dX0_forget_10 hp hS
def pX1_takeRules_7 (post : Wd → Prop) (b1 : Bool) : Nat → Int32 → Wd → Prop
  | 0, _, _ => False
  | n + 1, x2, w => ((40 : Int32) ≤ x2 → (post w)) ∧ (¬ (40 : Int32) ≤ x2 → (vp_in x2 40 ∧ ∀ w_2, w_2 = sA w 45 x2.toNatClampNeg (-1 : Int32) → ∀ x2_3, x2_3 = x2 + (1 : Int32) → pX1_takeRules_7 post b1 n x2_3 w_2))
def pX1_takeRules (post : Wd → Prop) (b1 : Bool)  (w : Wd) : Prop := ∀ w_1, w_1 = sR w 3 b1 → ∃ n9, pX1_takeRules_7 post b1 n9 (0 : Int32) w_1
set_option maxHeartbeats 4000000 in
set_option maxRecDepth 100000 in
theorem bX1_takeRules_7 {p : Program} {l : Launch} {e : Env} {s : State} {m : MethodId} {args : Array Value} {below : List Frame} {meth : Method} {c : Code} {Q : State → Prop} {A : Nat → Prop} {g : Gw} {post : Wd → Prop} {b1 : Bool} (hC : Cx p s m args c cX1_takeRules RX1 3 g) (hR : RtV tabX p l e (rk 1) s m args below meth c Q cX1_takeRules A g post)  : ∀ (n : Nat) (x2 : Int32) (w : Wd) (H : Heap) (locs : List Loc) (ls : Array Slot), pX1_takeRules_7 post b1 n x2 w → St tabX A s.heap g w H locs → lv_has ls 3 [(0, .ref (g.2.2 40)), (1, .ref (g.2.2 (rl b1))), (2, .int x2)] → W p l e (rk 1) s m args below meth c H locs 0 0 Q (F0 m 7 ls []) := by
  have hx := hC.1
  have hb := hC.2.1
  intro n
  induction n with
  | zero =>
    intro x2 w H locs ls hp hS hl
    exact False.elim hp
  | succ n ih =>
    intro x2 w H locs ls hp hS hl
    unfold pX1_takeRules_7 at hp
    refine lv_iload_n hx hb dX1_takeRules_7 rfl (lv_at hl 2 rfl) ?_
    refine lv_aload_n hx hb dX1_takeRules_8 rfl (lv_at hl 0 rfl) ?_
    refine G_40_4 hC hS m171 dX1_takeRules_9 ?_
    refine Na_45 hC hS dX1_takeRules_12 ?_
    refine lv_icmp_ge (tgt := 29) hx hb dX1_takeRules_13 (by decide) (fun c_1 => ?_) (fun c_1 => ?_)
    · have hp := hp.1 c_1
      exact hR _ _ _ _ _ dX1_takeRules_29 hp hS
    · have hp := hp.2 c_1
      refine lv_aload_n hx hb dX1_takeRules_16 rfl (lv_at hl 0 rfl) ?_
      refine G_40_4 hC hS m171 dX1_takeRules_17 ?_
      refine lv_iload_n hx hb dX1_takeRules_20 rfl (lv_at hl 2 rfl) ?_
      refine lv_iconst hx hb dX1_takeRules_21 kI_m1 ?_
      refine Sa_45 hC hS hp.1 dX1_takeRules_22 (fun w_2 H locs ew_2 hS => ?_)
      have hp := hp.2
      have hp := hp w_2 ew_2
      obtain ⟨x2_3, ex2_3⟩ : ∃ y : Int32, y = x2 + (1 : Int32) := ⟨_, rfl⟩
      have hp := hp x2_3 ex2_3
      refine lv_iinc (v := x2_3) (lv' := [(2, .int x2_3), (0, .ref (g.2.2 40)), (1, .ref (g.2.2 (rl b1)))]) hx hb dX1_takeRules_23 hl (k := 2) rfl (by rw [ex2_3]; rfl) (by decide) rfl (fun ls hl => ?_)
      refine lv_goto (tgt := 7) hx hb dX1_takeRules_26 (by decide) ?_
      exact ih x2_3 w_2 _ _ _ hp hS (lv_sub hl [1, 2, 0] rfl)
set_option maxHeartbeats 4000000 in
set_option maxRecDepth 100000 in
theorem rX1_takeRules {l : Launch} {g : Gw} {w : Wd} {post : Wd → Prop} {b1 : Bool}   (hp : pX1_takeRules post b1  w) : MtV tabX l yX1_takeRules cX1_takeRules 3 none 1 g w [.ref (g.2.2 40), .ref (g.2.2 (rl b1))] post := by
  refine q_entV tabX_nd (by decide) rfl (Nat.le_of_ble_eq_true rfl) ?_
  intro p e s m args below meth c A Q ls hC hR hS hl
  have hx := hC.1
  have hb := hC.2.1
  have hl : lv_has ls 3 [(0, .ref (g.2.2 40)), (1, .ref (g.2.2 (rl b1)))] := hl
  unfold pX1_takeRules at hp
  refine lv_aload_n hx hb dX1_takeRules_0 rfl (lv_at hl 0 rfl) ?_
  refine lv_aload_n hx hb dX1_takeRules_1 rfl (lv_at hl 1 rfl) ?_
  refine P_40_1 hC hS m168 dX1_takeRules_2 (fun w_1 H locs ew_1 hS => ?_)
  have hp := hp w_1 ew_1
  refine lv_iconst hx hb dX1_takeRules_5 kI_0 ?_
  refine lv_istore_n (lv' := [(2, .int (0 : Int32)), (0, .ref (g.2.2 40)), (1, .ref (g.2.2 (rl b1)))]) hx hb dX1_takeRules_6 rfl hl (by decide) rfl (fun ls hl => ?_)
  obtain ⟨n9, hp⟩ := hp
  exact bX1_takeRules_7 hC hR n9 (0 : Int32) w_1 _ _ _ hp hS (lv_sub hl [1, 2, 0] rfl)
def pX2_begin (post : Wd → Prop) (b1 : Bool)  (w : Wd) : Prop := ∀ w_1, w_1 = sA w 162 (0 : Int32).toNatClampNeg (w.1 (rl b1) 1) → ∀ w_2, w_2 = sA w_1 163 (0 : Int32).toNatClampNeg (-1 : Int32) → ∀ w_3, w_3 = sA w_2 164 (0 : Int32).toNatClampNeg (-1 : Int32) → ∀ w_4, w_4 = sA w_3 165 (0 : Int32).toNatClampNeg (0 : Int32) → ∀ w_5, w_5 = sA w_4 166 (0 : Int32).toNatClampNeg (0 : Int32) → ∀ w_6, w_6 = sI w_5 160 0 (1 : Int32) → ∀ w_7, w_7 = sI w_6 160 6 (0 : Int32) → ∀ w_8, w_8 = sI w_7 160 10 (w_7.1 (rl b1) 0) → ∀ w_9, w_9 = sI w_8 160 11 (w_8.1 (rl b1) 3) → ∀ w_10, w_10 = sI w_9 160 12 (0 : Int32) → ∀ w_11, w_11 = sI w_10 160 13 (w_10.1 (rl b1) 4) → post w_11
set_option maxHeartbeats 4000000 in
set_option maxRecDepth 100000 in
theorem rX2_begin {l : Launch} {g : Gw} {w : Wd} {post : Wd → Prop} {b1 : Bool}   (hp : pX2_begin post b1  w) : MtV tabX l yX2_begin cX2_begin 2 none 1 g w [.ref (g.2.2 160), .ref (g.2.2 (rl b1))] post := by
  refine q_entV tabX_nd (by decide) rfl (Nat.le_of_ble_eq_true rfl) ?_
  intro p e s m args below meth c A Q ls hC hR hS hl
  have hx := hC.1
  have hb := hC.2.1
  have hl : lv_has ls 2 [(0, .ref (g.2.2 160)), (1, .ref (g.2.2 (rl b1)))] := hl
  unfold pX2_begin at hp
  refine lv_aload_n hx hb dX2_begin_0 rfl (lv_at hl 0 rfl) ?_
  refine G_160_1 hC hS m155 dX2_begin_1 ?_
  refine lv_iconst hx hb dX2_begin_4 kI_0 ?_
  refine lv_aload_n hx hb dX2_begin_5 rfl (lv_at hl 1 rfl) ?_
  refine GR_1 hC hS m233 dX2_begin_6 ?_
  refine Sa_162 hC hS (by unfold vp_in; decide) dX2_begin_9 (fun w_1 H locs ew_1 hS => ?_)
  have hp := hp w_1 ew_1
  refine lv_aload_n hx hb dX2_begin_10 rfl (lv_at hl 0 rfl) ?_
  refine G_160_2 hC hS m156 dX2_begin_11 ?_
  refine lv_iconst hx hb dX2_begin_14 kI_0 ?_
  refine lv_iconst hx hb dX2_begin_15 kI_m1 ?_
  refine Sa_163 hC hS (by unfold vp_in; decide) dX2_begin_16 (fun w_2 H locs ew_2 hS => ?_)
  have hp := hp w_2 ew_2
  refine lv_aload_n hx hb dX2_begin_17 rfl (lv_at hl 0 rfl) ?_
  refine G_160_3 hC hS m157 dX2_begin_18 ?_
  refine lv_iconst hx hb dX2_begin_21 kI_0 ?_
  refine lv_iconst hx hb dX2_begin_22 kI_m1 ?_
  refine Sa_164 hC hS (by unfold vp_in; decide) dX2_begin_23 (fun w_3 H locs ew_3 hS => ?_)
  have hp := hp w_3 ew_3
  refine lv_aload_n hx hb dX2_begin_24 rfl (lv_at hl 0 rfl) ?_
  refine G_160_4 hC hS m158 dX2_begin_25 ?_
  refine lv_iconst hx hb dX2_begin_28 kI_0 ?_
  refine lv_iconst hx hb dX2_begin_29 kI_0 ?_
  refine Sa_165 hC hS (by unfold vp_in; decide) dX2_begin_30 (fun w_4 H locs ew_4 hS => ?_)
  have hp := hp w_4 ew_4
  refine lv_aload_n hx hb dX2_begin_31 rfl (lv_at hl 0 rfl) ?_
  refine G_160_5 hC hS m159 dX2_begin_32 ?_
  refine lv_iconst hx hb dX2_begin_35 kI_0 ?_
  refine lv_iconst hx hb dX2_begin_36 kI_0 ?_
  refine Sa_166 hC hS (by unfold vp_in; decide) dX2_begin_37 (fun w_5 H locs ew_5 hS => ?_)
  have hp := hp w_5 ew_5
  refine lv_aload_n hx hb dX2_begin_38 rfl (lv_at hl 0 rfl) ?_
  refine lv_iconst hx hb dX2_begin_39 kI_1 ?_
  refine P_160_0 hC hS m234 dX2_begin_40 (fun w_6 H locs ew_6 hS => ?_)
  have hp := hp w_6 ew_6
  refine lv_aload_n hx hb dX2_begin_43 rfl (lv_at hl 0 rfl) ?_
  refine lv_iconst hx hb dX2_begin_44 kI_0 ?_
  refine P_160_6 hC hS m235 dX2_begin_45 (fun w_7 H locs ew_7 hS => ?_)
  have hp := hp w_7 ew_7
  refine lv_aload_n hx hb dX2_begin_48 rfl (lv_at hl 0 rfl) ?_
  refine lv_aload_n hx hb dX2_begin_49 rfl (lv_at hl 1 rfl) ?_
  refine GR_0 hC hS m236 dX2_begin_50 ?_
  refine P_160_10 hC hS m237 dX2_begin_53 (fun w_8 H locs ew_8 hS => ?_)
  have hp := hp w_8 ew_8
  refine lv_aload_n hx hb dX2_begin_56 rfl (lv_at hl 0 rfl) ?_
  refine lv_aload_n hx hb dX2_begin_57 rfl (lv_at hl 1 rfl) ?_
  refine GR_3 hC hS m238 dX2_begin_58 ?_
  refine P_160_11 hC hS m239 dX2_begin_61 (fun w_9 H locs ew_9 hS => ?_)
  have hp := hp w_9 ew_9
  refine lv_aload_n hx hb dX2_begin_64 rfl (lv_at hl 0 rfl) ?_
  refine lv_iconst hx hb dX2_begin_65 kI_0 ?_
  refine P_160_12 hC hS m240 dX2_begin_66 (fun w_10 H locs ew_10 hS => ?_)
  have hp := hp w_10 ew_10
  refine lv_aload_n hx hb dX2_begin_69 rfl (lv_at hl 0 rfl) ?_
  refine lv_aload_n hx hb dX2_begin_70 rfl (lv_at hl 1 rfl) ?_
  refine GR_4 hC hS m241 dX2_begin_71 ?_
  refine P_160_13 hC hS m242 dX2_begin_74 (fun w_11 H locs ew_11 hS => ?_)
  have hp := hp w_11 ew_11
  exact hR _ _ _ _ _ dX2_begin_77 hp hS
def pX10_beginAnew_52 (post : Wd → Prop) : Nat → Int32 → Wd → Prop
  | 0, _, _ => False
  | n + 1, x1, w => ((3 : Int32) ≤ x1 → (post w)) ∧ (¬ (3 : Int32) ≤ x1 → (vp_in x1 3 ∧ ∀ w_2, w_2 = sA w 12 x1.toNatClampNeg (vp_nar .boolean (0 : Int32)) → ∀ x1_3, x1_3 = x1 + (1 : Int32) → pX10_beginAnew_52 post n x1_3 w_2))
def pX10_beginAnew (post : Wd → Prop)  (w : Wd) : Prop := ∀ w_1, w_1 = sI w 0 13 (0 : Int32) → pX1_takeRules (fun w_2 => pX2_begin (fun w_3 => pX0_forget (fun w_4 => ∀ w_5, w_5 = sI w_4 70 0 (0 : Int32) → ∀ w_6, w_6 = sI w_5 110 1 (0 : Int32) → ∃ n9, pX10_beginAnew_52 post n9 (0 : Int32) w_6) w_3) (w_2.2.2.2.2 0) w_2) (w_1.2.2.2.2 0) w_1
set_option maxHeartbeats 4000000 in
set_option maxRecDepth 100000 in
theorem bX10_beginAnew_52 {p : Program} {l : Launch} {e : Env} {s : State} {m : MethodId} {args : Array Value} {below : List Frame} {meth : Method} {c : Code} {Q : State → Prop} {A : Nat → Prop} {g : Gw} {post : Wd → Prop}  (hC : Cx p s m args c cX10_beginAnew RX10 2 g) (hR : RtV tabX p l e (rk 2) s m args below meth c Q cX10_beginAnew A g post)  : ∀ (n : Nat) (x1 : Int32) (w : Wd) (H : Heap) (locs : List Loc) (ls : Array Slot), pX10_beginAnew_52 post n x1 w → St tabX A s.heap g w H locs → lv_has ls 2 [(0, .ref (g.2.2 0)), (1, .int x1)] → W p l e (rk 2) s m args below meth c H locs 0 0 Q (F0 m 52 ls []) := by
  have hx := hC.1
  have hb := hC.2.1
  intro n
  induction n with
  | zero =>
    intro x1 w H locs ls hp hS hl
    exact False.elim hp
  | succ n ih =>
    intro x1 w H locs ls hp hS hl
    unfold pX10_beginAnew_52 at hp
    refine lv_iload_n hx hb dX10_beginAnew_52 rfl (lv_at hl 1 rfl) ?_
    refine lv_aload_n hx hb dX10_beginAnew_53 rfl (lv_at hl 0 rfl) ?_
    refine G_0_11 hC hS m57 dX10_beginAnew_54 ?_
    refine Na_12 hC hS dX10_beginAnew_57 ?_
    refine lv_icmp_ge (tgt := 74) hx hb dX10_beginAnew_58 (by decide) (fun c_1 => ?_) (fun c_1 => ?_)
    · have hp := hp.1 c_1
      exact hR _ _ _ _ _ dX10_beginAnew_74 hp hS
    · have hp := hp.2 c_1
      refine lv_aload_n hx hb dX10_beginAnew_61 rfl (lv_at hl 0 rfl) ?_
      refine G_0_11 hC hS m57 dX10_beginAnew_62 ?_
      refine lv_iload_n hx hb dX10_beginAnew_65 rfl (lv_at hl 1 rfl) ?_
      refine lv_iconst hx hb dX10_beginAnew_66 kI_0 ?_
      refine Sa_12 hC hS hp.1 dX10_beginAnew_67 (fun w_2 H locs ew_2 hS => ?_)
      have hp := hp.2
      have hp := hp w_2 ew_2
      obtain ⟨x1_3, ex1_3⟩ : ∃ y : Int32, y = x1 + (1 : Int32) := ⟨_, rfl⟩
      have hp := hp x1_3 ex1_3
      refine lv_iinc (v := x1_3) (lv' := [(1, .int x1_3), (0, .ref (g.2.2 0))]) hx hb dX10_beginAnew_68 hl (k := 1) rfl (by rw [ex1_3]; rfl) (by decide) rfl (fun ls hl => ?_)
      refine lv_goto (tgt := 52) hx hb dX10_beginAnew_71 (by decide) ?_
      exact ih x1_3 w_2 _ _ _ hp hS (lv_sub hl [1, 0] rfl)
set_option maxHeartbeats 4000000 in
set_option maxRecDepth 100000 in
theorem rX10_beginAnew {l : Launch} {g : Gw} {w : Wd} {post : Wd → Prop}    (hp : pX10_beginAnew post  w) : MtV tabX l yX10_beginAnew cX10_beginAnew 2 none 2 g w [.ref (g.2.2 0)] post := by
  refine q_entV tabX_nd (by decide) rfl (Nat.le_of_ble_eq_true rfl) ?_
  intro p e s m args below meth c A Q ls hC hR hS hl
  have hx := hC.1
  have hb := hC.2.1
  have hl : lv_has ls 2 [(0, .ref (g.2.2 0))] := hl
  unfold pX10_beginAnew at hp
  refine lv_aload_n hx hb dX10_beginAnew_0 rfl (lv_at hl 0 rfl) ?_
  refine lv_iconst hx hb dX10_beginAnew_1 kI_0 ?_
  refine P_0_13 hC hS m222 dX10_beginAnew_2 (fun w_1 H locs ew_1 hS => ?_)
  have hp := hp w_1 ew_1
  refine lv_aload_n hx hb dX10_beginAnew_5 rfl (lv_at hl 0 rfl) ?_
  refine G_0_4 hC hS m34 dX10_beginAnew_6 ?_
  refine lv_aload_n hx hb dX10_beginAnew_9 rfl (lv_at hl 0 rfl) ?_
  refine G_0_16 hC hS m21 dX10_beginAnew_10 ?_
  refine q_cvV (As := [.ref (g.2.2 (rl (w_1.2.2.2.2 0)))]) (rest := []) hC hS hl.1 (rX1_takeRules hp) cwX10_135 yvX1_takeRules (rcv_40 hC hS) rfl rfl (Nat.le_of_ble_eq_true rfl) (rmk (by decide) (by decide)) dX10_beginAnew_13 (fun w_2 H locs hp hS => ?_)
  refine lv_aload_n hx hb dX10_beginAnew_16 rfl (lv_at hl 0 rfl) ?_
  refine G_0_3 hC hS m30 dX10_beginAnew_17 ?_
  refine lv_aload_n hx hb dX10_beginAnew_20 rfl (lv_at hl 0 rfl) ?_
  refine G_0_16 hC hS m21 dX10_beginAnew_21 ?_
  refine q_cvV (As := [.ref (g.2.2 (rl (w_2.2.2.2.2 0)))]) (rest := []) hC hS hl.1 (rX2_begin hp) cwX10_139 yvX2_begin (rcv_160 hC hS) rfl rfl (Nat.le_of_ble_eq_true rfl) (rmk (by decide) (by decide)) dX10_beginAnew_24 (fun w_3 H locs hp hS => ?_)
  refine lv_aload_n hx hb dX10_beginAnew_27 rfl (lv_at hl 0 rfl) ?_
  refine G_0_5 hC hS m38 dX10_beginAnew_28 ?_
  refine q_cvV (As := []) (rest := []) hC hS hl.1 (rX0_forget hp) cwX10_142 yvX0_forget (rcv_50 hC hS) rfl rfl (Nat.le_of_ble_eq_true rfl) (rmk (by decide) (by decide)) dX10_beginAnew_31 (fun w_4 H locs hp hS => ?_)
  refine lv_aload_n hx hb dX10_beginAnew_34 rfl (lv_at hl 0 rfl) ?_
  refine G_0_7 hC hS m46 dX10_beginAnew_35 ?_
  refine lv_iconst hx hb dX10_beginAnew_38 kI_0 ?_
  refine P_70_0 hC hS m223 dX10_beginAnew_39 (fun w_5 H locs ew_5 hS => ?_)
  have hp := hp w_5 ew_5
  refine lv_aload_n hx hb dX10_beginAnew_42 rfl (lv_at hl 0 rfl) ?_
  refine G_0_9 hC hS m54 dX10_beginAnew_43 ?_
  refine lv_iconst hx hb dX10_beginAnew_46 kI_0 ?_
  refine P_110_1 hC hS m224 dX10_beginAnew_47 (fun w_6 H locs ew_6 hS => ?_)
  have hp := hp w_6 ew_6
  refine lv_iconst hx hb dX10_beginAnew_50 kI_0 ?_
  refine lv_istore_n (lv' := [(1, .int (0 : Int32)), (0, .ref (g.2.2 0))]) hx hb dX10_beginAnew_51 rfl hl (by decide) rfl (fun ls hl => ?_)
  obtain ⟨n9, hp⟩ := hp
  exact bX10_beginAnew_52 hC hR n9 (0 : Int32) w_6 _ _ _ hp hS (lv_sub hl [1, 0] rfl)
def pX6_take_59 (post : Wd → Prop) (x1 : Int32) (t1 : Int32) (w : Wd) : Prop := ∀ w_1, w_1 = sI w 30 5 t1 → (x1 = 0 → (∀ w_3, w_3 = sJ w_1 30 6 (0 : Int64) → post w_3)) ∧ (¬ x1 = 0 → (vp_in (w_1.1 30 4) 1602 ∧ ∀ w_4, w_4 = sJ w_1 30 6 (w_1.2.2.2.1 23 (w_1.1 30 4).toNatClampNeg) → post w_4))
def pX6_take_36 (post : Wd → Prop) (t0 : Int32) (w : Wd) : Prop := (t0 = 0 → (pX6_take_59 post t0 (22 : Int32) w)) ∧ (¬ t0 = 0 → (vp_in (w.1 30 4) 1602 ∧ pX6_take_59 post t0 (w.2.1 21 (w.1 30 4).toNatClampNeg) w))
def pX6_take_35 (post : Wd → Prop)  (w : Wd) : Prop := pX6_take_36 post (0 : Int32) w
def pX6_take (post : Wd → Prop)  (w : Wd) : Prop := ∀ w_1, w_1 = sI w 30 4 ((w.1 30 4) + (1 : Int32)) → ((w_1.1 30 4) < 0 → (pX6_take_35 post  w_1)) ∧ (¬ (w_1.1 30 4) < 0 → (((w_1.1 20 3) ≤ (w_1.1 30 4) → (pX6_take_35 post  w_1)) ∧ (¬ (w_1.1 20 3) ≤ (w_1.1 30 4) → (pX6_take_36 post (1 : Int32) w_1))))
set_option maxHeartbeats 4000000 in
set_option maxRecDepth 100000 in
theorem bX6_take_59 {p : Program} {l : Launch} {e : Env} {s : State} {m : MethodId} {args : Array Value} {below : List Frame} {meth : Method} {c : Code} {Q : State → Prop} {A : Nat → Prop} {g : Gw} {post : Wd → Prop}  (hC : Cx p s m args c cX6_take RX6 2 g) (hR : RtV tabX p l e (rk 1) s m args below meth c Q cX6_take A g post)  : ∀ (x1 : Int32) (t1 : Int32) (w : Wd) (H : Heap) (locs : List Loc) (ls : Array Slot), pX6_take_59 post x1 t1 w → St tabX A s.heap g w H locs → lv_has ls 2 [(0, .ref (g.2.2 30)), (1, .int x1)] → W p l e (rk 1) s m args below meth c H locs 0 0 Q (F0 m 59 ls [.int t1, .ref (g.2.2 30)]) := by
  have hx := hC.1
  have hb := hC.2.1
  intro x1 t1 w H locs ls hp hS hl
  unfold pX6_take_59 at hp
  refine P_30_5 hC hS m387 dX6_take_59 (fun w_1 H locs ew_1 hS => ?_)
  have hp := hp w_1 ew_1
  refine lv_aload_n hx hb dX6_take_62 rfl (lv_at hl 0 rfl) ?_
  refine lv_iload_n hx hb dX6_take_63 rfl (lv_at hl 1 rfl) ?_
  refine lv_if_eq (tgt := 82) hx hb dX6_take_64 (by decide) (fun c_2 => ?_) (fun c_2 => ?_)
  · have hp := hp.1 c_2
    refine lv_lconst hx hb dX6_take_82 kL_0 ?_
    refine P_30_6 hC hS m396 dX6_take_83 (fun w_3 H locs ew_3 hS => ?_)
    have hp := hp w_3 ew_3
    exact hR _ _ _ _ _ dX6_take_86 hp hS
  · have hp := hp.2 c_2
    refine lv_aload_n hx hb dX6_take_67 rfl (lv_at hl 0 rfl) ?_
    refine G_30_0 hC hS m149 dX6_take_68 ?_
    refine G_20_2 hC hS m395 dX6_take_71 ?_
    refine lv_aload_n hx hb dX6_take_74 rfl (lv_at hl 0 rfl) ?_
    refine G_30_4 hC hS m386 dX6_take_75 ?_
    refine La_23 hC hS hp.1 dX6_take_78 ?_
    have hp := hp.2
    refine lv_goto (tgt := 83) hx hb dX6_take_79 (by decide) ?_
    refine P_30_6 hC hS m396 dX6_take_83 (fun w_4 H locs ew_4 hS => ?_)
    have hp := hp w_4 ew_4
    exact hR _ _ _ _ _ dX6_take_86 hp hS
set_option maxHeartbeats 4000000 in
set_option maxRecDepth 100000 in
theorem bX6_take_36 {p : Program} {l : Launch} {e : Env} {s : State} {m : MethodId} {args : Array Value} {below : List Frame} {meth : Method} {c : Code} {Q : State → Prop} {A : Nat → Prop} {g : Gw} {post : Wd → Prop}  (hC : Cx p s m args c cX6_take RX6 2 g) (hR : RtV tabX p l e (rk 1) s m args below meth c Q cX6_take A g post)  : ∀ (t0 : Int32) (w : Wd) (H : Heap) (locs : List Loc) (ls : Array Slot), pX6_take_36 post t0 w → St tabX A s.heap g w H locs → lv_has ls 2 [(0, .ref (g.2.2 30))] → W p l e (rk 1) s m args below meth c H locs 0 0 Q (F0 m 36 ls [.int t0]) := by
  have hx := hC.1
  have hb := hC.2.1
  intro t0 w H locs ls hp hS hl
  unfold pX6_take_36 at hp
  refine lv_istore_n (lv' := [(1, .int t0), (0, .ref (g.2.2 30))]) hx hb dX6_take_36 rfl hl (by decide) rfl (fun ls hl => ?_)
  refine lv_aload_n hx hb dX6_take_37 rfl (lv_at hl 1 rfl) ?_
  refine lv_iload_n hx hb dX6_take_38 rfl (lv_at hl 0 rfl) ?_
  refine lv_if_eq (tgt := 57) hx hb dX6_take_39 (by decide) (fun c_1 => ?_) (fun c_1 => ?_)
  · have hp := hp.1 c_1
    refine lv_bipush hx hb dX6_take_57 kB_22 ?_
    exact bX6_take_59 hC hR t0 (22 : Int32) w _ _ _ hp hS (lv_sub hl [1, 0] rfl)
  · have hp := hp.2 c_1
    refine lv_aload_n hx hb dX6_take_42 rfl (lv_at hl 1 rfl) ?_
    refine G_30_0 hC hS m149 dX6_take_43 ?_
    refine G_20_0 hC hS m394 dX6_take_46 ?_
    refine lv_aload_n hx hb dX6_take_49 rfl (lv_at hl 1 rfl) ?_
    refine G_30_4 hC hS m386 dX6_take_50 ?_
    refine La_21 hC hS hp.1 dX6_take_53 ?_
    have hp := hp.2
    refine lv_goto (tgt := 59) hx hb dX6_take_54 (by decide) ?_
    exact bX6_take_59 hC hR t0 (w.2.1 21 (w.1 30 4).toNatClampNeg) w _ _ _ hp hS (lv_sub hl [1, 0] rfl)
set_option maxHeartbeats 4000000 in
set_option maxRecDepth 100000 in
theorem bX6_take_35 {p : Program} {l : Launch} {e : Env} {s : State} {m : MethodId} {args : Array Value} {below : List Frame} {meth : Method} {c : Code} {Q : State → Prop} {A : Nat → Prop} {g : Gw} {post : Wd → Prop}  (hC : Cx p s m args c cX6_take RX6 2 g) (hR : RtV tabX p l e (rk 1) s m args below meth c Q cX6_take A g post)  : ∀  (w : Wd) (H : Heap) (locs : List Loc) (ls : Array Slot), pX6_take_35 post  w → St tabX A s.heap g w H locs → lv_has ls 2 [(0, .ref (g.2.2 30))] → W p l e (rk 1) s m args below meth c H locs 0 0 Q (F0 m 35 ls []) := by
  have hx := hC.1
  have hb := hC.2.1
  intro  w H locs ls hp hS hl
  unfold pX6_take_35 at hp
  refine lv_iconst hx hb dX6_take_35 kI_0 ?_
  exact bX6_take_36 hC hR (0 : Int32) w _ _ _ hp hS (lv_sub hl [0] rfl)
set_option maxHeartbeats 4000000 in
set_option maxRecDepth 100000 in
theorem rX6_take {l : Launch} {g : Gw} {w : Wd} {post : Wd → Prop}    (hp : pX6_take post  w) : MtV tabX l yX6_take cX6_take 2 none 1 g w [.ref (g.2.2 30)] post := by
  refine q_entV tabX_nd (by decide) rfl (Nat.le_of_ble_eq_true rfl) ?_
  intro p e s m args below meth c A Q ls hC hR hS hl
  have hx := hC.1
  have hb := hC.2.1
  have hl : lv_has ls 2 [(0, .ref (g.2.2 30))] := hl
  unfold pX6_take at hp
  refine lv_aload_n hx hb dX6_take_0 rfl (lv_at hl 0 rfl) ?_
  refine lv_dup hx hb dX6_take_1 rfl ?_
  refine G_30_4 hC hS m386 dX6_take_2 ?_
  refine lv_iconst hx hb dX6_take_5 kI_1 ?_
  refine lv_iadd hx hb dX6_take_6 ?_
  refine P_30_4 hC hS m386 dX6_take_7 (fun w_1 H locs ew_1 hS => ?_)
  have hp := hp w_1 ew_1
  refine lv_aload_n hx hb dX6_take_10 rfl (lv_at hl 0 rfl) ?_
  refine G_30_4 hC hS m386 dX6_take_11 ?_
  refine lv_if_lt (tgt := 35) hx hb dX6_take_14 (by decide) (fun c_2 => ?_) (fun c_2 => ?_)
  · have hp := hp.1 c_2
    exact bX6_take_35 hC hR  w_1 _ _ _ hp hS (lv_sub hl [0] rfl)
  · have hp := hp.2 c_2
    refine lv_aload_n hx hb dX6_take_17 rfl (lv_at hl 0 rfl) ?_
    refine G_30_4 hC hS m386 dX6_take_18 ?_
    refine lv_aload_n hx hb dX6_take_21 rfl (lv_at hl 0 rfl) ?_
    refine G_30_0 hC hS m149 dX6_take_22 ?_
    refine G_20_3 hC hS m393 dX6_take_25 ?_
    refine lv_icmp_ge (tgt := 35) hx hb dX6_take_28 (by decide) (fun c_3 => ?_) (fun c_3 => ?_)
    · have hp := hp.1 c_3
      exact bX6_take_35 hC hR  w_1 _ _ _ hp hS (lv_sub hl [0] rfl)
    · have hp := hp.2 c_3
      refine lv_iconst hx hb dX6_take_31 kI_1 ?_
      refine lv_goto (tgt := 36) hx hb dX6_take_32 (by decide) ?_
      exact bX6_take_36 hC hR (1 : Int32) w_1 _ _ _ hp hS (lv_sub hl [0] rfl)
def pX7_clear (post : Wd → Prop) (b : Bool)  (w : Wd) : Prop := ∀ w_1, w_1 = sI w (rl b) 0 (8 : Int32) → ∀ w_2, w_2 = sI w_1 (rl b) 1 (0 : Int32) → ∀ w_3, w_3 = sI w_2 (rl b) 2 (0 : Int32) → ∀ w_4, w_4 = sI w_3 (rl b) 3 (100 : Int32) → ∀ w_5, w_5 = sI w_4 (rl b) 4 (0 : Int32) → ∀ w_6, w_6 = sI w_5 (rl b) 5 (0 : Int32) → ∀ w_7, w_7 = sI w_6 (rl b) 9 (0 : Int32) → ∀ w_8, w_8 = sI w_7 (rl b) 11 (0 : Int32) → post w_8
set_option maxHeartbeats 4000000 in
set_option maxRecDepth 100000 in
theorem rX7_clear {l : Launch} {g : Gw} {w : Wd} {post : Wd → Prop} {b : Bool}   (hp : pX7_clear post b  w) : MtV tabX l yX7_clear cX7_clear 1 none 1 g w [.ref (g.2.2 (rl b))] post := by
  refine q_entV tabX_nd (by decide) rfl (Nat.le_of_ble_eq_true rfl) ?_
  intro p e s m args below meth c A Q ls hC hR hS hl
  have hx := hC.1
  have hb := hC.2.1
  have hl : lv_has ls 1 [(0, .ref (g.2.2 (rl b)))] := hl
  unfold pX7_clear at hp
  refine lv_aload_n hx hb dX7_clear_0 rfl (lv_at hl 0 rfl) ?_
  refine lv_bipush hx hb dX7_clear_1 kB_8 ?_
  refine PR_0 hC hS m137 dX7_clear_3 (fun w_1 H locs ew_1 hS => ?_)
  have hp := hp w_1 ew_1
  refine lv_aload_n hx hb dX7_clear_6 rfl (lv_at hl 0 rfl) ?_
  refine lv_iconst hx hb dX7_clear_7 kI_0 ?_
  refine PR_1 hC hS m138 dX7_clear_8 (fun w_2 H locs ew_2 hS => ?_)
  have hp := hp w_2 ew_2
  refine lv_aload_n hx hb dX7_clear_11 rfl (lv_at hl 0 rfl) ?_
  refine lv_iconst hx hb dX7_clear_12 kI_0 ?_
  refine PR_2 hC hS m139 dX7_clear_13 (fun w_3 H locs ew_3 hS => ?_)
  have hp := hp w_3 ew_3
  refine lv_aload_n hx hb dX7_clear_16 rfl (lv_at hl 0 rfl) ?_
  refine lv_bipush hx hb dX7_clear_17 kB_100 ?_
  refine PR_3 hC hS m140 dX7_clear_19 (fun w_4 H locs ew_4 hS => ?_)
  have hp := hp w_4 ew_4
  refine lv_aload_n hx hb dX7_clear_22 rfl (lv_at hl 0 rfl) ?_
  refine lv_iconst hx hb dX7_clear_23 kI_0 ?_
  refine PR_4 hC hS m141 dX7_clear_24 (fun w_5 H locs ew_5 hS => ?_)
  have hp := hp w_5 ew_5
  refine lv_aload_n hx hb dX7_clear_27 rfl (lv_at hl 0 rfl) ?_
  refine lv_iconst hx hb dX7_clear_28 kI_0 ?_
  refine PR_5 hC hS m142 dX7_clear_29 (fun w_6 H locs ew_6 hS => ?_)
  have hp := hp w_6 ew_6
  refine lv_aload_n hx hb dX7_clear_32 rfl (lv_at hl 0 rfl) ?_
  refine lv_iconst hx hb dX7_clear_33 kI_0 ?_
  refine PR_9 hC hS m143 dX7_clear_34 (fun w_7 H locs ew_7 hS => ?_)
  have hp := hp w_7 ew_7
  refine lv_aload_n hx hb dX7_clear_37 rfl (lv_at hl 0 rfl) ?_
  refine lv_iconst hx hb dX7_clear_38 kI_0 ?_
  refine PR_11 hC hS m144 dX7_clear_39 (fun w_8 H locs ew_8 hS => ?_)
  have hp := hp w_8 ew_8
  exact hR _ _ _ _ _ dX7_clear_42 hp hS
def pX6_read_38 (post : Int32 → Wd → Prop) (b1 : Bool) : Nat → Int32 → Wd → Prop
  | 0, _, _ => False
  | n + 1, x2, w => ((1600 : Int32) ≤ x2 → (post (w.1 30 2) w)) ∧ (¬ (1600 : Int32) ≤ x2 → ((¬ (w.1 30 2) = 0 → (post (w.1 30 2) w)) ∧ ((w.1 30 2) = 0 → (((w.1 30 5) = (22 : Int32) → (post (w.1 30 2) w)) ∧ (¬ (w.1 30 5) = (22 : Int32) → (False))))))
def pX6_read (post : Int32 → Wd → Prop) (b1 : Bool)  (w : Wd) : Prop := ∀ w_1, w_1 = sR w 2 b1 → pX7_clear (fun w_2 => ∀ w_3, w_3 = sI w_2 30 2 (0 : Int32) → ∀ w_4, w_4 = sI w_3 30 3 (-1 : Int32) → ∀ w_5, w_5 = sI w_4 30 7 (0 : Int32) → ∀ w_6, w_6 = sI w_5 30 4 (-1 : Int32) → pX6_take (fun w_7 => ∃ n9, pX6_read_38 post b1 n9 (0 : Int32) w_7) w_6) (w_1.2.2.2.2 2) w_1
set_option maxHeartbeats 4000000 in
set_option maxRecDepth 100000 in
theorem bX6_read_38 {p : Program} {l : Launch} {e : Env} {s : State} {m : MethodId} {args : Array Value} {below : List Frame} {meth : Method} {c : Code} {Q : State → Prop} {A : Nat → Prop} {g : Gw} {post : Int32 → Wd → Prop} {b1 : Bool} (hC : Cx p s m args c cX6_read RX6 3 g) (hR : RtI tabX p l e (rk 2) s m args below meth c Q cX6_read A g post)  : ∀ (n : Nat) (x2 : Int32) (w : Wd) (H : Heap) (locs : List Loc) (ls : Array Slot), pX6_read_38 post b1 n x2 w → St tabX A s.heap g w H locs → lv_has ls 3 [(0, .ref (g.2.2 30)), (1, .ref (g.2.2 (rl b1))), (2, .int x2)] → W p l e (rk 2) s m args below meth c H locs 0 0 Q (F0 m 38 ls []) := by
  have hx := hC.1
  have hb := hC.2.1
  intro n
  induction n with
  | zero =>
    intro x2 w H locs ls hp hS hl
    exact False.elim hp
  | succ n ih =>
    intro x2 w H locs ls hp hS hl
    unfold pX6_read_38 at hp
    refine lv_iload_n hx hb dX6_read_38 rfl (lv_at hl 2 rfl) ?_
    refine lv_sipush hx hb dX6_read_39 kS_1600 ?_
    refine lv_icmp_ge (tgt := 71) hx hb dX6_read_42 (by decide) (fun c_1 => ?_) (fun c_1 => ?_)
    · have hp := hp.1 c_1
      refine lv_aload_n hx hb dX6_read_71 rfl (lv_at hl 0 rfl) ?_
      refine G_30_2 hC hS m383 dX6_read_72 ?_
      exact hR _ _ _ _ _ _ dX6_read_75 hp hS
    · have hp := hp.2 c_1
      refine lv_aload_n hx hb dX6_read_45 rfl (lv_at hl 0 rfl) ?_
      refine G_30_2 hC hS m383 dX6_read_46 ?_
      refine lv_if_ne (tgt := 71) hx hb dX6_read_49 (by decide) (fun c_2 => ?_) (fun c_2 => ?_)
      · have hp := hp.1 c_2
        refine lv_aload_n hx hb dX6_read_71 rfl (lv_at hl 0 rfl) ?_
        refine G_30_2 hC hS m383 dX6_read_72 ?_
        exact hR _ _ _ _ _ _ dX6_read_75 hp hS
      · have hp := hp.2 c_2
        refine lv_aload_n hx hb dX6_read_52 rfl (lv_at hl 0 rfl) ?_
        refine G_30_5 hC hS m387 dX6_read_53 ?_
        refine lv_bipush hx hb dX6_read_56 kB_22 ?_
        refine lv_icmp_eq (tgt := 71) hx hb dX6_read_58 (by decide) (fun c_3 => ?_) (fun c_3 => ?_)
        · have hp := hp.1 c_3
          refine lv_aload_n hx hb dX6_read_71 rfl (lv_at hl 0 rfl) ?_
          refine G_30_2 hC hS m383 dX6_read_72 ?_
          exact hR _ _ _ _ _ _ dX6_read_75 hp hS
        · have hp := hp.2 c_3
          refine lv_aload_n hx hb dX6_read_61 rfl (lv_at hl 0 rfl) ?_
          exact False.elim hp
set_option maxHeartbeats 4000000 in
set_option maxRecDepth 100000 in
theorem rX6_read {l : Launch} {g : Gw} {w : Wd} {post : Int32 → Wd → Prop} {b1 : Bool}   (hp : pX6_read post b1  w) : MtI tabX l yX6_read cX6_read 3 (some .int) 2 g w [.ref (g.2.2 30), .ref (g.2.2 (rl b1))] post := by
  refine q_entI tabX_nd (by decide) rfl (Nat.le_of_ble_eq_true rfl) ?_
  intro p e s m args below meth c A Q ls hC hR hS hl
  have hx := hC.1
  have hb := hC.2.1
  have hl : lv_has ls 3 [(0, .ref (g.2.2 30)), (1, .ref (g.2.2 (rl b1)))] := hl
  unfold pX6_read at hp
  refine lv_aload_n hx hb dX6_read_0 rfl (lv_at hl 0 rfl) ?_
  refine lv_aload_n hx hb dX6_read_1 rfl (lv_at hl 1 rfl) ?_
  refine P_30_1 hC hS m150 dX6_read_2 (fun w_1 H locs ew_1 hS => ?_)
  have hp := hp w_1 ew_1
  refine lv_aload_n hx hb dX6_read_5 rfl (lv_at hl 0 rfl) ?_
  refine G_30_1 hC hS m150 dX6_read_6 ?_
  refine q_cvV (As := []) (rest := []) hC hS hl.1 (rX7_clear hp) cwX6_19 yvX7_clear (rcvR hC hS) rfl rfl (Nat.le_of_ble_eq_true rfl) (rmk (by decide) (by decide)) dX6_read_9 (fun w_2 H locs hp hS => ?_)
  refine lv_aload_n hx hb dX6_read_12 rfl (lv_at hl 0 rfl) ?_
  refine lv_iconst hx hb dX6_read_13 kI_0 ?_
  refine P_30_2 hC hS m383 dX6_read_14 (fun w_3 H locs ew_3 hS => ?_)
  have hp := hp w_3 ew_3
  refine lv_aload_n hx hb dX6_read_17 rfl (lv_at hl 0 rfl) ?_
  refine lv_iconst hx hb dX6_read_18 kI_m1 ?_
  refine P_30_3 hC hS m384 dX6_read_19 (fun w_4 H locs ew_4 hS => ?_)
  have hp := hp w_4 ew_4
  refine lv_aload_n hx hb dX6_read_22 rfl (lv_at hl 0 rfl) ?_
  refine lv_iconst hx hb dX6_read_23 kI_0 ?_
  refine P_30_7 hC hS m385 dX6_read_24 (fun w_5 H locs ew_5 hS => ?_)
  have hp := hp w_5 ew_5
  refine lv_aload_n hx hb dX6_read_27 rfl (lv_at hl 0 rfl) ?_
  refine lv_iconst hx hb dX6_read_28 kI_m1 ?_
  refine P_30_4 hC hS m386 dX6_read_29 (fun w_6 H locs ew_6 hS => ?_)
  have hp := hp w_6 ew_6
  refine lv_aload_n hx hb dX6_read_32 rfl (lv_at hl 0 rfl) ?_
  refine q_cvV (As := []) (rest := []) hC hS hl.1 (rX6_take hp) cwX6_37 yvX6_take (rcv_30 hC hS) rfl rfl (Nat.le_of_ble_eq_true rfl) (rmk (by decide) (by decide)) dX6_read_33 (fun w_7 H locs hp hS => ?_)
  refine lv_iconst hx hb dX6_read_36 kI_0 ?_
  refine lv_istore_n (lv' := [(2, .int (0 : Int32)), (0, .ref (g.2.2 30)), (1, .ref (g.2.2 (rl b1)))]) hx hb dX6_read_37 rfl hl (by decide) rfl (fun ls hl => ?_)
  obtain ⟨n9, hp⟩ := hp
  exact bX6_read_38 hC hR n9 (0 : Int32) w_7 _ _ _ hp hS (lv_sub hl [1, 2, 0] rfl)
def pX8_add (post : Wd → Prop) (x1 : Int32) (x2 : Int32) (x3 : Int64) (w : Wd) : Prop := ((w.1 20 3) < 0 → (post w)) ∧ (¬ (w.1 20 3) < 0 → (((1602 : Int32) ≤ (w.1 20 3) → (post w)) ∧ (¬ (1602 : Int32) ≤ (w.1 20 3) → (vp_in (w.1 20 3) 1602 ∧ ∀ w_3, w_3 = sA w 21 (w.1 20 3).toNatClampNeg x1 → vp_in (w_3.1 20 3) 1602 ∧ ∀ w_4, w_4 = sA w_3 22 (w_3.1 20 3).toNatClampNeg x2 → vp_in (w_4.1 20 3) 1602 ∧ ∀ w_5, w_5 = sB w_4 23 (w_4.1 20 3).toNatClampNeg x3 → ∀ w_6, w_6 = sI w_5 20 3 ((w_5.1 20 3) + (1 : Int32)) → post w_6))))
set_option maxHeartbeats 4000000 in
set_option maxRecDepth 100000 in
theorem rX8_add {l : Launch} {g : Gw} {w : Wd} {post : Wd → Prop}   {x1 : Int32} {x2 : Int32} {x3 : Int64} (hp : pX8_add post x1 x2 x3 w) : MtV tabX l yX8_add cX8_add 5 none 1 g w [.ref (g.2.2 20), .int x1, .int x2, .long x3] post := by
  refine q_entV tabX_nd (by decide) rfl (Nat.le_of_ble_eq_true rfl) ?_
  intro p e s m args below meth c A Q ls hC hR hS hl
  have hx := hC.1
  have hb := hC.2.1
  have hl : lv_has ls 5 [(0, .ref (g.2.2 20)), (1, .int x1), (2, .int x2), (3, .long x3)] := hl
  unfold pX8_add at hp
  refine lv_aload_n hx hb dX8_add_0 rfl (lv_at hl 0 rfl) ?_
  refine G_20_3 hC hS m345 dX8_add_1 ?_
  refine lv_if_lt (tgt := 59) hx hb dX8_add_4 (by decide) (fun c_1 => ?_) (fun c_1 => ?_)
  · have hp := hp.1 c_1
    exact hR _ _ _ _ _ dX8_add_59 hp hS
  · have hp := hp.2 c_1
    refine lv_aload_n hx hb dX8_add_7 rfl (lv_at hl 0 rfl) ?_
    refine G_20_3 hC hS m345 dX8_add_8 ?_
    refine lv_aload_n hx hb dX8_add_11 rfl (lv_at hl 0 rfl) ?_
    refine G_20_0 hC hS m65 dX8_add_12 ?_
    refine Na_21 hC hS dX8_add_15 ?_
    refine lv_icmp_ge (tgt := 59) hx hb dX8_add_16 (by decide) (fun c_2 => ?_) (fun c_2 => ?_)
    · have hp := hp.1 c_2
      exact hR _ _ _ _ _ dX8_add_59 hp hS
    · have hp := hp.2 c_2
      refine lv_aload_n hx hb dX8_add_19 rfl (lv_at hl 0 rfl) ?_
      refine G_20_0 hC hS m65 dX8_add_20 ?_
      refine lv_aload_n hx hb dX8_add_23 rfl (lv_at hl 0 rfl) ?_
      refine G_20_3 hC hS m345 dX8_add_24 ?_
      refine lv_iload_n hx hb dX8_add_27 rfl (lv_at hl 1 rfl) ?_
      refine Sa_21 hC hS hp.1 dX8_add_28 (fun w_3 H locs ew_3 hS => ?_)
      have hp := hp.2
      have hp := hp w_3 ew_3
      refine lv_aload_n hx hb dX8_add_29 rfl (lv_at hl 0 rfl) ?_
      refine G_20_1 hC hS m66 dX8_add_30 ?_
      refine lv_aload_n hx hb dX8_add_33 rfl (lv_at hl 0 rfl) ?_
      refine G_20_3 hC hS m345 dX8_add_34 ?_
      refine lv_iload_n hx hb dX8_add_37 rfl (lv_at hl 2 rfl) ?_
      refine Sa_22 hC hS hp.1 dX8_add_38 (fun w_4 H locs ew_4 hS => ?_)
      have hp := hp.2
      have hp := hp w_4 ew_4
      refine lv_aload_n hx hb dX8_add_39 rfl (lv_at hl 0 rfl) ?_
      refine G_20_2 hC hS m68 dX8_add_40 ?_
      refine lv_aload_n hx hb dX8_add_43 rfl (lv_at hl 0 rfl) ?_
      refine G_20_3 hC hS m345 dX8_add_44 ?_
      refine lv_lload_n hx hb dX8_add_47 rfl (lv_at hl 3 rfl) ?_
      refine Sa_23 hC hS hp.1 dX8_add_48 (fun w_5 H locs ew_5 hS => ?_)
      have hp := hp.2
      have hp := hp w_5 ew_5
      refine lv_aload_n hx hb dX8_add_49 rfl (lv_at hl 0 rfl) ?_
      refine lv_dup hx hb dX8_add_50 rfl ?_
      refine G_20_3 hC hS m345 dX8_add_51 ?_
      refine lv_iconst hx hb dX8_add_54 kI_1 ?_
      refine lv_iadd hx hb dX8_add_55 ?_
      refine P_20_3 hC hS m345 dX8_add_56 (fun w_6 H locs ew_6 hS => ?_)
      have hp := hp w_6 ew_6
      exact hR _ _ _ _ _ dX8_add_59 hp hS
def pX8_split_116 (k18 : Int32 → Int32 → Int32 → Int32 → Wd → Prop) (post : Wd → Prop) (x2 : Int32) (x3 : Int32) (x4 : Int32) (x5 : Int32) (w : Wd) : Prop := ∀ x5_1, x5_1 = x5 + (1 : Int32) → k18 x2 x3 x4 x5_1 w
def pX8_split_57 (k18 : Int32 → Int32 → Int32 → Int32 → Wd → Prop) (post : Wd → Prop) (x2 : Int32) (x3 : Int32) (x4 : Int32) (x5 : Int32) (w : Wd) : Prop := ∀ x4_1, x4_1 = x4 + (1 : Int32) → pX8_split_116 k18 post x2 x3 x4_1 x5 w
def pX8_split_18 (post : Wd → Prop) : Nat → Int32 → Int32 → Int32 → Int32 → Wd → Prop
  | 0, _, _, _, _, _ => False
  | n + 1, x2, x3, x4, x5, w => ((1600 : Int32) ≤ x5 → (pX8_add (fun w_2 => post w_2) (22 : Int32) x2 (0 : Int64) w)) ∧ (¬ (1600 : Int32) ≤ x5 → ((x4 < 0 → (pX8_add (fun w_4 => post w_4) (22 : Int32) x2 (0 : Int64) w)) ∧ (¬ x4 < 0 → ((x3 ≤ x4 → (pX8_add (fun w_6 => post w_6) (22 : Int32) x2 (0 : Int64) w)) ∧ (¬ x3 ≤ x4 → (vp_in x4 1600 ∧ ∀ x6_7, x6_7 = (w.2.1 1 x4.toNatClampNeg) → (x6_7 = (32 : Int32) → (pX8_split_57 (pX8_split_18 post n) post x2 x3 x4 x5 w)) ∧ (¬ x6_7 = (32 : Int32) → ((¬ x6_7 = (10 : Int32) → (False)) ∧ (x6_7 = (10 : Int32) → (pX8_split_57 (pX8_split_18 post n) post x2 x3 x4 x5 w))))))))))
def pX8_split (post : Wd → Prop) (x2 : Int32) (w : Wd) : Prop := ∀ w_1, w_1 = sI w 20 3 (0 : Int32) → ∀ x3_2, x3_2 = (if (1600 : Int32) < x2 then (1600 : Int32) else x2) → ∃ n9, pX8_split_18 post n9 x2 x3_2 (0 : Int32) (0 : Int32) w_1
set_option maxHeartbeats 4000000 in
set_option maxRecDepth 100000 in
theorem bX8_split_116 {p : Program} {l : Launch} {e : Env} {s : State} {m : MethodId} {args : Array Value} {below : List Frame} {meth : Method} {c : Code} {Q : State → Prop} {A : Nat → Prop} {g : Gw} {post : Wd → Prop}  (hC : Cx p s m args c cX8_split RX8 7 g) (hR : RtV tabX p l e (rk 2) s m args below meth c Q cX8_split A g post)  {k18 : Int32 → Int32 → Int32 → Int32 → Wd → Prop} (hk18 : ∀ (x2 : Int32) (x3 : Int32) (x4 : Int32) (x5 : Int32) (w : Wd) (H : Heap) (locs : List Loc) (ls : Array Slot), k18 x2 x3 x4 x5 w → St tabX A s.heap g w H locs → lv_has ls 7 [(0, .ref (g.2.2 20)), (1, .ref (g.2.2 1)), (2, .int x2), (3, .int x3), (4, .int x4), (5, .int x5)] → W p l e (rk 2) s m args below meth c H locs 0 0 Q (F0 m 18 ls [])) : ∀ (x2 : Int32) (x3 : Int32) (x4 : Int32) (x5 : Int32) (w : Wd) (H : Heap) (locs : List Loc) (ls : Array Slot), pX8_split_116 k18 post x2 x3 x4 x5 w → St tabX A s.heap g w H locs → lv_has ls 7 [(0, .ref (g.2.2 20)), (1, .ref (g.2.2 1)), (2, .int x2), (3, .int x3), (4, .int x4), (5, .int x5)] → W p l e (rk 2) s m args below meth c H locs 0 0 Q (F0 m 116 ls []) := by
  have hx := hC.1
  have hb := hC.2.1
  intro x2 x3 x4 x5 w H locs ls hp hS hl
  unfold pX8_split_116 at hp
  obtain ⟨x5_1, ex5_1⟩ : ∃ y : Int32, y = x5 + (1 : Int32) := ⟨_, rfl⟩
  have hp := hp x5_1 ex5_1
  refine lv_iinc (v := x5_1) (lv' := [(5, .int x5_1), (0, .ref (g.2.2 20)), (1, .ref (g.2.2 1)), (2, .int x2), (3, .int x3), (4, .int x4)]) hx hb dX8_split_116 hl (k := 5) rfl (by rw [ex5_1]; rfl) (by decide) rfl (fun ls hl => ?_)
  refine lv_goto (tgt := 18) hx hb dX8_split_119 (by decide) ?_
  exact hk18 x2 x3 x4 x5_1 w _ _ _ hp hS (lv_sub hl [1, 2, 3, 4, 5, 0] rfl)
set_option maxHeartbeats 4000000 in
set_option maxRecDepth 100000 in
theorem bX8_split_57 {p : Program} {l : Launch} {e : Env} {s : State} {m : MethodId} {args : Array Value} {below : List Frame} {meth : Method} {c : Code} {Q : State → Prop} {A : Nat → Prop} {g : Gw} {post : Wd → Prop}  (hC : Cx p s m args c cX8_split RX8 7 g) (hR : RtV tabX p l e (rk 2) s m args below meth c Q cX8_split A g post)  {k18 : Int32 → Int32 → Int32 → Int32 → Wd → Prop} (hk18 : ∀ (x2 : Int32) (x3 : Int32) (x4 : Int32) (x5 : Int32) (w : Wd) (H : Heap) (locs : List Loc) (ls : Array Slot), k18 x2 x3 x4 x5 w → St tabX A s.heap g w H locs → lv_has ls 7 [(0, .ref (g.2.2 20)), (1, .ref (g.2.2 1)), (2, .int x2), (3, .int x3), (4, .int x4), (5, .int x5)] → W p l e (rk 2) s m args below meth c H locs 0 0 Q (F0 m 18 ls [])) : ∀ (x2 : Int32) (x3 : Int32) (x4 : Int32) (x5 : Int32) (w : Wd) (H : Heap) (locs : List Loc) (ls : Array Slot), pX8_split_57 k18 post x2 x3 x4 x5 w → St tabX A s.heap g w H locs → lv_has ls 7 [(0, .ref (g.2.2 20)), (1, .ref (g.2.2 1)), (2, .int x2), (3, .int x3), (4, .int x4), (5, .int x5)] → W p l e (rk 2) s m args below meth c H locs 0 0 Q (F0 m 57 ls []) := by
  have hx := hC.1
  have hb := hC.2.1
  intro x2 x3 x4 x5 w H locs ls hp hS hl
  unfold pX8_split_57 at hp
  obtain ⟨x4_1, ex4_1⟩ : ∃ y : Int32, y = x4 + (1 : Int32) := ⟨_, rfl⟩
  have hp := hp x4_1 ex4_1
  refine lv_iinc (v := x4_1) (lv' := [(4, .int x4_1), (0, .ref (g.2.2 20)), (1, .ref (g.2.2 1)), (2, .int x2), (3, .int x3), (5, .int x5)]) hx hb dX8_split_57 hl (k := 4) rfl (by rw [ex4_1]; rfl) (by decide) rfl (fun ls hl => ?_)
  refine lv_goto (tgt := 116) hx hb dX8_split_60 (by decide) ?_
  exact bX8_split_116 hC hR hk18 x2 x3 x4_1 x5 w _ _ _ hp hS (lv_sub hl [1, 2, 3, 4, 0, 5] rfl)
set_option maxHeartbeats 4000000 in
set_option maxRecDepth 100000 in
theorem bX8_split_18 {p : Program} {l : Launch} {e : Env} {s : State} {m : MethodId} {args : Array Value} {below : List Frame} {meth : Method} {c : Code} {Q : State → Prop} {A : Nat → Prop} {g : Gw} {post : Wd → Prop}  (hC : Cx p s m args c cX8_split RX8 7 g) (hR : RtV tabX p l e (rk 2) s m args below meth c Q cX8_split A g post)  : ∀ (n : Nat) (x2 : Int32) (x3 : Int32) (x4 : Int32) (x5 : Int32) (w : Wd) (H : Heap) (locs : List Loc) (ls : Array Slot), pX8_split_18 post n x2 x3 x4 x5 w → St tabX A s.heap g w H locs → lv_has ls 7 [(0, .ref (g.2.2 20)), (1, .ref (g.2.2 1)), (2, .int x2), (3, .int x3), (4, .int x4), (5, .int x5)] → W p l e (rk 2) s m args below meth c H locs 0 0 Q (F0 m 18 ls []) := by
  have hx := hC.1
  have hb := hC.2.1
  intro n
  induction n with
  | zero =>
    intro x2 x3 x4 x5 w H locs ls hp hS hl
    exact False.elim hp
  | succ n ih =>
    intro x2 x3 x4 x5 w H locs ls hp hS hl
    unfold pX8_split_18 at hp
    refine lv_iload hx hb dX8_split_18 (lv_at hl 5 rfl) ?_
    refine lv_sipush hx hb dX8_split_20 kS_1600 ?_
    refine lv_icmp_ge (tgt := 122) hx hb dX8_split_23 (by decide) (fun c_1 => ?_) (fun c_1 => ?_)
    · have hp := hp.1 c_1
      refine lv_aload_n hx hb dX8_split_122 rfl (lv_at hl 0 rfl) ?_
      refine lv_bipush hx hb dX8_split_123 kB_22 ?_
      refine lv_iload_n hx hb dX8_split_125 rfl (lv_at hl 2 rfl) ?_
      refine lv_lconst hx hb dX8_split_126 kL_0 ?_
      refine q_cvV (As := [.int (22 : Int32), .int x2, .long (0 : Int64)]) (rest := []) hC hS hl.1 (rX8_add hp) cwX8_69 yvX8_add (rcv_20 hC hS) rfl rfl (Nat.le_of_ble_eq_true rfl) (rmk (by decide) (by decide)) dX8_split_127 (fun w_2 H locs hp hS => ?_)
      exact hR _ _ _ _ _ dX8_split_130 hp hS
    · have hp := hp.2 c_1
      refine lv_iload hx hb dX8_split_26 (lv_at hl 4 rfl) ?_
      refine lv_if_lt (tgt := 122) hx hb dX8_split_28 (by decide) (fun c_3 => ?_) (fun c_3 => ?_)
      · have hp := hp.1 c_3
        refine lv_aload_n hx hb dX8_split_122 rfl (lv_at hl 0 rfl) ?_
        refine lv_bipush hx hb dX8_split_123 kB_22 ?_
        refine lv_iload_n hx hb dX8_split_125 rfl (lv_at hl 2 rfl) ?_
        refine lv_lconst hx hb dX8_split_126 kL_0 ?_
        refine q_cvV (As := [.int (22 : Int32), .int x2, .long (0 : Int64)]) (rest := []) hC hS hl.1 (rX8_add hp) cwX8_69 yvX8_add (rcv_20 hC hS) rfl rfl (Nat.le_of_ble_eq_true rfl) (rmk (by decide) (by decide)) dX8_split_127 (fun w_4 H locs hp hS => ?_)
        exact hR _ _ _ _ _ dX8_split_130 hp hS
      · have hp := hp.2 c_3
        refine lv_iload hx hb dX8_split_31 (lv_at hl 4 rfl) ?_
        refine lv_iload_n hx hb dX8_split_33 rfl (lv_at hl 3 rfl) ?_
        refine lv_icmp_ge (tgt := 122) hx hb dX8_split_34 (by decide) (fun c_5 => ?_) (fun c_5 => ?_)
        · have hp := hp.1 c_5
          refine lv_aload_n hx hb dX8_split_122 rfl (lv_at hl 0 rfl) ?_
          refine lv_bipush hx hb dX8_split_123 kB_22 ?_
          refine lv_iload_n hx hb dX8_split_125 rfl (lv_at hl 2 rfl) ?_
          refine lv_lconst hx hb dX8_split_126 kL_0 ?_
          refine q_cvV (As := [.int (22 : Int32), .int x2, .long (0 : Int64)]) (rest := []) hC hS hl.1 (rX8_add hp) cwX8_69 yvX8_add (rcv_20 hC hS) rfl rfl (Nat.le_of_ble_eq_true rfl) (rmk (by decide) (by decide)) dX8_split_127 (fun w_6 H locs hp hS => ?_)
          exact hR _ _ _ _ _ dX8_split_130 hp hS
        · have hp := hp.2 c_5
          refine lv_aload_n hx hb dX8_split_37 rfl (lv_at hl 1 rfl) ?_
          refine lv_iload hx hb dX8_split_38 (lv_at hl 4 rfl) ?_
          refine La_1 hC hS hp.1 dX8_split_40 ?_
          have hp := hp.2
          refine lv_topi (fun x6_7 ex6_7 => ?_)
          have hp := hp x6_7 ex6_7
          refine lv_istore (lv' := [(6, .int x6_7), (0, .ref (g.2.2 20)), (1, .ref (g.2.2 1)), (2, .int x2), (3, .int x3), (4, .int x4), (5, .int x5)]) hx hb dX8_split_41 hl (by decide) rfl (fun ls hl => ?_)
          refine lv_iload hx hb dX8_split_43 (lv_at hl 0 rfl) ?_
          refine lv_bipush hx hb dX8_split_45 kB_32 ?_
          refine lv_icmp_eq (tgt := 57) hx hb dX8_split_47 (by decide) (fun c_8 => ?_) (fun c_8 => ?_)
          · have hp := hp.1 c_8
            exact bX8_split_57 hC hR ih x2 x3 x4 x5 w _ _ _ hp hS (lv_sub hl [1, 2, 3, 4, 5, 6] rfl)
          · have hp := hp.2 c_8
            refine lv_iload hx hb dX8_split_50 (lv_at hl 0 rfl) ?_
            refine lv_bipush hx hb dX8_split_52 kB_10 ?_
            refine lv_icmp_ne (tgt := 63) hx hb dX8_split_54 (by decide) (fun c_9 => ?_) (fun c_9 => ?_)
            · have hp := hp.1 c_9
              refine lv_iload hx hb dX8_split_63 (lv_at hl 0 rfl) ?_
              exact False.elim hp
            · have hp := hp.2 c_9
              exact bX8_split_57 hC hR ih x2 x3 x4 x5 w _ _ _ hp hS (lv_sub hl [1, 2, 3, 4, 5, 6] rfl)
set_option maxHeartbeats 4000000 in
set_option maxRecDepth 100000 in
theorem rX8_split {l : Launch} {g : Gw} {w : Wd} {post : Wd → Prop}   {x2 : Int32} (hp : pX8_split post x2 w) : MtV tabX l yX8_split cX8_split 7 none 2 g w [.ref (g.2.2 20), .ref (g.2.2 1), .int x2] post := by
  refine q_entV tabX_nd (by decide) rfl (Nat.le_of_ble_eq_true rfl) ?_
  intro p e s m args below meth c A Q ls hC hR hS hl
  have hx := hC.1
  have hb := hC.2.1
  have hl : lv_has ls 7 [(0, .ref (g.2.2 20)), (1, .ref (g.2.2 1)), (2, .int x2)] := hl
  unfold pX8_split at hp
  refine lv_aload_n hx hb dX8_split_0 rfl (lv_at hl 0 rfl) ?_
  refine lv_iconst hx hb dX8_split_1 kI_0 ?_
  refine P_20_3 hC hS m345 dX8_split_2 (fun w_1 H locs ew_1 hS => ?_)
  have hp := hp w_1 ew_1
  refine lv_iload_n hx hb dX8_split_5 rfl (lv_at hl 2 rfl) ?_
  refine lv_aload_n hx hb dX8_split_6 rfl (lv_at hl 1 rfl) ?_
  refine Na_1 hC hS dX8_split_7 ?_
  refine q_min hC hl.1 m346 m347 m348 m349 (rmm (by decide) (Nat.le_of_ble_eq_true rfl)) dX8_split_8 ?_
  refine lv_topi (fun x3_2 ex3_2 => ?_)
  have hp := hp x3_2 ex3_2
  refine lv_istore_n (lv' := [(3, .int x3_2), (0, .ref (g.2.2 20)), (1, .ref (g.2.2 1)), (2, .int x2)]) hx hb dX8_split_11 rfl hl (by decide) rfl (fun ls hl => ?_)
  refine lv_iconst hx hb dX8_split_12 kI_0 ?_
  refine lv_istore (lv' := [(4, .int (0 : Int32)), (3, .int x3_2), (0, .ref (g.2.2 20)), (1, .ref (g.2.2 1)), (2, .int x2)]) hx hb dX8_split_13 hl (by decide) rfl (fun ls hl => ?_)
  refine lv_iconst hx hb dX8_split_15 kI_0 ?_
  refine lv_istore (lv' := [(5, .int (0 : Int32)), (4, .int (0 : Int32)), (3, .int x3_2), (0, .ref (g.2.2 20)), (1, .ref (g.2.2 1)), (2, .int x2)]) hx hb dX8_split_16 hl (by decide) rfl (fun ls hl => ?_)
  obtain ⟨n9, hp⟩ := hp
  exact bX8_split_18 hC hR n9 x2 x3_2 (0 : Int32) (0 : Int32) w_1 _ _ _ hp hS (lv_sub hl [3, 4, 5, 2, 1, 0] rfl)
def pX10_chancery (post : Int32 → Wd → Prop)  (w : Wd) : Prop := pX8_split (fun w_1 => pX6_read (fun r_2 w_3 => ∀ w_4, w_4 = sI w_3 0 14 r_2 → ∀ w_5, w_5 = sI w_4 0 15 (w_4.1 30 3) → ((w_5.1 0 14) = 0 → (∀ w_7, w_7 = sR w_5 0 (w_5.2.2.2.2 1) → ∀ w_8, w_8 = sR w_7 1 (w_5.2.2.2.2 0) → pX10_beginAnew (fun w_9 => post (w_9.1 (rl (w_9.2.2.2.2 0)) 2) w_9) w_8)) ∧ (¬ (w_5.1 0 14) = 0 → (post (-1 : Int32) w_5))) (w_1.2.2.2.2 1) w_1) (w.1 0 13) w
set_option maxHeartbeats 4000000 in
set_option maxRecDepth 100000 in
theorem rX10_chancery {l : Launch} {g : Gw} {w : Wd} {post : Int32 → Wd → Prop}    (hp : pX10_chancery post  w) : MtI tabX l yX10_chancery cX10_chancery 2 (some .int) 3 g w [.ref (g.2.2 0)] post := by
  refine q_entI tabX_nd (by decide) rfl (Nat.le_of_ble_eq_true rfl) ?_
  intro p e s m args below meth c A Q ls hC hR hS hl
  have hx := hC.1
  have hb := hC.2.1
  have hl : lv_has ls 2 [(0, .ref (g.2.2 0))] := hl
  unfold pX10_chancery at hp
  refine lv_aload_n hx hb dX10_chancery_0 rfl (lv_at hl 0 rfl) ?_
  refine G_0_1 hC hS m17 dX10_chancery_1 ?_
  refine lv_aload_n hx hb dX10_chancery_4 rfl (lv_at hl 0 rfl) ?_
  refine G_0_0 hC hS m13 dX10_chancery_5 ?_
  refine lv_aload_n hx hb dX10_chancery_8 rfl (lv_at hl 0 rfl) ?_
  refine G_0_13 hC hS m222 dX10_chancery_9 ?_
  refine q_cvV (As := [.ref (g.2.2 1), .int (w.1 0 13)]) (rest := []) hC hS hl.1 (rX8_split hp) cwX10_118 yvX8_split (rcv_20 hC hS) rfl rfl (Nat.le_of_ble_eq_true rfl) (rmk (by decide) (by decide)) dX10_chancery_12 (fun w_1 H locs hp hS => ?_)
  refine lv_aload_n hx hb dX10_chancery_15 rfl (lv_at hl 0 rfl) ?_
  refine lv_aload_n hx hb dX10_chancery_16 rfl (lv_at hl 0 rfl) ?_
  refine G_0_2 hC hS m26 dX10_chancery_17 ?_
  refine lv_aload_n hx hb dX10_chancery_20 rfl (lv_at hl 0 rfl) ?_
  refine G_0_17 hC hS m22 dX10_chancery_21 ?_
  refine q_cvI (As := [.ref (g.2.2 (rl (w_1.2.2.2.2 1)))]) (rest := [.ref (g.2.2 0)]) hC hS hl.1 (rX6_read hp) cwX10_122 yvX6_read (rcv_30 hC hS) rfl rfl (Nat.le_of_ble_eq_true rfl) (rmk (by decide) (by decide)) dX10_chancery_24 (fun r_2 w_3 H locs hp hS => ?_)
  refine P_0_14 hC hS m338 dX10_chancery_27 (fun w_4 H locs ew_4 hS => ?_)
  have hp := hp w_4 ew_4
  refine lv_aload_n hx hb dX10_chancery_30 rfl (lv_at hl 0 rfl) ?_
  refine lv_aload_n hx hb dX10_chancery_31 rfl (lv_at hl 0 rfl) ?_
  refine G_0_2 hC hS m26 dX10_chancery_32 ?_
  refine G_30_3 hC hS m339 dX10_chancery_35 ?_
  refine P_0_15 hC hS m60 dX10_chancery_38 (fun w_5 H locs ew_5 hS => ?_)
  have hp := hp w_5 ew_5
  refine lv_aload_n hx hb dX10_chancery_41 rfl (lv_at hl 0 rfl) ?_
  refine G_0_14 hC hS m338 dX10_chancery_42 ?_
  refine lv_if_eq (tgt := 50) hx hb dX10_chancery_45 (by decide) (fun c_6 => ?_) (fun c_6 => ?_)
  · have hp := hp.1 c_6
    refine lv_aload_n hx hb dX10_chancery_50 rfl (lv_at hl 0 rfl) ?_
    refine G_0_16 hC hS m21 dX10_chancery_51 ?_
    refine lv_astore_n (lv' := [(1, .ref (g.2.2 (rl (w_5.2.2.2.2 0)))), (0, .ref (g.2.2 0))]) hx hb dX10_chancery_54 rfl hl (by decide) rfl (fun ls hl => ?_)
    refine lv_aload_n hx hb dX10_chancery_55 rfl (lv_at hl 1 rfl) ?_
    refine lv_aload_n hx hb dX10_chancery_56 rfl (lv_at hl 1 rfl) ?_
    refine G_0_17 hC hS m22 dX10_chancery_57 ?_
    refine P_0_16 hC hS m21 dX10_chancery_60 (fun w_7 H locs ew_7 hS => ?_)
    have hp := hp w_7 ew_7
    refine lv_aload_n hx hb dX10_chancery_63 rfl (lv_at hl 1 rfl) ?_
    refine lv_aload_n hx hb dX10_chancery_64 rfl (lv_at hl 0 rfl) ?_
    refine P_0_17 hC hS m22 dX10_chancery_65 (fun w_8 H locs ew_8 hS => ?_)
    have hp := hp w_8 ew_8
    refine lv_aload_n hx hb dX10_chancery_68 rfl (lv_at hl 1 rfl) ?_
    refine q_cvV (As := []) (rest := []) hC hS hl.1 (rX10_beginAnew hp) cwX10_108 yvX10_beginAnew (rcv_0 hC hS) rfl rfl (Nat.le_of_ble_eq_true rfl) (rmk (by decide) (by decide)) dX10_chancery_69 (fun w_9 H locs hp hS => ?_)
    refine lv_aload_n hx hb dX10_chancery_72 rfl (lv_at hl 1 rfl) ?_
    refine G_0_16 hC hS m21 dX10_chancery_73 ?_
    refine GR_2 hC hS m340 dX10_chancery_76 ?_
    exact hR _ _ _ _ _ _ dX10_chancery_79 hp hS
  · have hp := hp.2 c_6
    refine lv_iconst hx hb dX10_chancery_48 kI_m1 ?_
    exact hR _ _ _ _ _ _ dX10_chancery_49 hp hS
def pX10_fault (post : Int32 → Wd → Prop) (x1 : Int32) (w : Wd) : Prop := (¬ x1 = 0 → ((¬ x1 = (1 : Int32) → (post (-1 : Int32) w)) ∧ (x1 = (1 : Int32) → (post (w.1 0 15) w)))) ∧ (x1 = 0 → (post (w.1 0 14) w))
set_option maxHeartbeats 4000000 in
set_option maxRecDepth 100000 in
theorem rX10_fault {l : Launch} {g : Gw} {w : Wd} {post : Int32 → Wd → Prop}   {x1 : Int32} (hp : pX10_fault post x1 w) : MtI tabX l yX10_fault cX10_fault 2 (some .int) 1 g w [.ref (g.2.2 0), .int x1] post := by
  refine q_entI tabX_nd (by decide) rfl (Nat.le_of_ble_eq_true rfl) ?_
  intro p e s m args below meth c A Q ls hC hR hS hl
  have hx := hC.1
  have hb := hC.2.1
  have hl : lv_has ls 2 [(0, .ref (g.2.2 0)), (1, .int x1)] := hl
  unfold pX10_fault at hp
  refine lv_iload_n hx hb dX10_fault_0 rfl (lv_at hl 1 rfl) ?_
  refine lv_if_ne (tgt := 9) hx hb dX10_fault_1 (by decide) (fun c_1 => ?_) (fun c_1 => ?_)
  · have hp := hp.1 c_1
    refine lv_iload_n hx hb dX10_fault_9 rfl (lv_at hl 1 rfl) ?_
    refine lv_iconst hx hb dX10_fault_10 kI_1 ?_
    refine lv_icmp_ne (tgt := 21) hx hb dX10_fault_11 (by decide) (fun c_2 => ?_) (fun c_2 => ?_)
    · have hp := hp.1 c_2
      refine lv_iconst hx hb dX10_fault_21 kI_m1 ?_
      exact hR _ _ _ _ _ _ dX10_fault_22 hp hS
    · have hp := hp.2 c_2
      refine lv_aload_n hx hb dX10_fault_14 rfl (lv_at hl 0 rfl) ?_
      refine G_0_15 hC hS m60 dX10_fault_15 ?_
      refine lv_goto (tgt := 22) hx hb dX10_fault_18 (by decide) ?_
      exact hR _ _ _ _ _ _ dX10_fault_22 hp hS
  · have hp := hp.2 c_1
    refine lv_aload_n hx hb dX10_fault_4 rfl (lv_at hl 0 rfl) ?_
    refine G_0_14 hC hS m338 dX10_fault_5 ?_
    exact hR _ _ _ _ _ _ dX10_fault_8 hp hS
def pX10_isSeal (post : Int32 → Wd → Prop) (x1 : Int32) (w : Wd) : Prop := (x1 < 0 → (post (0 : Int32) w)) ∧ (¬ x1 < 0 → (((w.1 160 0) ≤ x1 → (post (0 : Int32) w)) ∧ (¬ (w.1 160 0) ≤ x1 → (post (1 : Int32) w))))
set_option maxHeartbeats 4000000 in
set_option maxRecDepth 100000 in
theorem rX10_isSeal {l : Launch} {g : Gw} {w : Wd} {post : Int32 → Wd → Prop}   {x1 : Int32} (hp : pX10_isSeal post x1 w) : MtI tabX l yX10_isSeal cX10_isSeal 2 (some .boolean) 1 g w [.ref (g.2.2 0), .int x1] post := by
  refine q_entZ tabX_nd (by decide) rfl (Nat.le_of_ble_eq_true rfl) ?_
  intro p e s m args below meth c A Q ls hC hR hS hl
  have hx := hC.1
  have hb := hC.2.1
  have hl : lv_has ls 2 [(0, .ref (g.2.2 0)), (1, .int x1)] := hl
  unfold pX10_isSeal at hp
  refine lv_iload_n hx hb dX10_isSeal_0 rfl (lv_at hl 1 rfl) ?_
  refine lv_if_lt (tgt := 19) hx hb dX10_isSeal_1 (by decide) (fun c_1 => ?_) (fun c_1 => ?_)
  · have hp := hp.1 c_1
    refine lv_iconst hx hb dX10_isSeal_19 kI_0 ?_
    exact hR _ _ _ _ _ _ dX10_isSeal_20 (by decide) hp hS
  · have hp := hp.2 c_1
    refine lv_iload_n hx hb dX10_isSeal_4 rfl (lv_at hl 1 rfl) ?_
    refine lv_aload_n hx hb dX10_isSeal_5 rfl (lv_at hl 0 rfl) ?_
    refine G_0_3 hC hS m30 dX10_isSeal_6 ?_
    refine G_160_0 hC hS m622 dX10_isSeal_9 ?_
    refine lv_icmp_ge (tgt := 19) hx hb dX10_isSeal_12 (by decide) (fun c_2 => ?_) (fun c_2 => ?_)
    · have hp := hp.1 c_2
      refine lv_iconst hx hb dX10_isSeal_19 kI_0 ?_
      exact hR _ _ _ _ _ _ dX10_isSeal_20 (by decide) hp hS
    · have hp := hp.2 c_2
      refine lv_iconst hx hb dX10_isSeal_15 kI_1 ?_
      refine lv_goto (tgt := 20) hx hb dX10_isSeal_16 (by decide) ?_
      exact hR _ _ _ _ _ _ dX10_isSeal_20 (by decide) hp hS
def pX10_seal (post : Int32 → Wd → Prop) (x1 : Int32) (x2 : Int32) (w : Wd) : Prop := pX10_isSeal (fun r_1 w_2 => (¬ r_1 = 0 → ((x2.toInt < 0 ∨ 4 < x2.toInt → (post (-1 : Int32) w_2)) ∧ (x2.toInt = 0 → (vp_in x1 24 ∧ post (w_2.2.1 162 x1.toNatClampNeg) w_2)) ∧ (x2.toInt = 1 → (vp_in x1 24 ∧ post (w_2.2.1 163 x1.toNatClampNeg) w_2)) ∧ (x2.toInt = 2 → (vp_in x1 24 ∧ post (w_2.2.1 164 x1.toNatClampNeg) w_2)) ∧ (x2.toInt = 3 → (vp_in x1 24 ∧ post (w_2.2.1 165 x1.toNatClampNeg) w_2)) ∧ (x2.toInt = 4 → (vp_in x1 24 ∧ post (w_2.2.1 166 x1.toNatClampNeg) w_2)))) ∧ (r_1 = 0 → (post (-1 : Int32) w_2))) x1 w
set_option maxHeartbeats 4000000 in
set_option maxRecDepth 100000 in
theorem rX10_seal {l : Launch} {g : Gw} {w : Wd} {post : Int32 → Wd → Prop}   {x1 : Int32} {x2 : Int32} (hp : pX10_seal post x1 x2 w) : MtI tabX l yX10_seal cX10_seal 3 (some .int) 2 g w [.ref (g.2.2 0), .int x1, .int x2] post := by
  refine q_entI tabX_nd (by decide) rfl (Nat.le_of_ble_eq_true rfl) ?_
  intro p e s m args below meth c A Q ls hC hR hS hl
  have hx := hC.1
  have hb := hC.2.1
  have hl : lv_has ls 3 [(0, .ref (g.2.2 0)), (1, .int x1), (2, .int x2)] := hl
  unfold pX10_seal at hp
  refine lv_aload_n hx hb dX10_seal_0 rfl (lv_at hl 0 rfl) ?_
  refine lv_iload_n hx hb dX10_seal_1 rfl (lv_at hl 1 rfl) ?_
  refine q_cvI (As := [.int x1]) (rest := []) hC hS hl.1 (rX10_isSeal hp) cwX10_149 yvX10_isSeal (rcv_0 hC hS) rfl rfl (Nat.le_of_ble_eq_true rfl) (rmk (by decide) (by decide)) dX10_seal_2 (fun r_1 w_2 H locs hp hS => ?_)
  refine lv_if_ne (tgt := 10) hx hb dX10_seal_5 (by decide) (fun c_3 => ?_) (fun c_3 => ?_)
  · have hp := hp.1 c_3
    refine lv_iload_n hx hb dX10_seal_10 rfl (lv_at hl 2 rfl) ?_
    by_cases c_4 : x2.toInt < 0 ∨ 4 < x2.toInt
    · have hp := hp.1 c_4
      refine lv_tableOut (tgt := 94) hx hb dX10_seal_11 c_4 (by decide) ?_
      refine lv_iconst hx hb dX10_seal_94 kI_m1 ?_
      exact hR _ _ _ _ _ _ dX10_seal_95 hp hS
    · have hp := hp.2
      have c_41 : ¬ x2.toInt < 0 := fun z => c_4 (Or.inl z)
      have c_42 : ¬ 4 < x2.toInt := fun z => c_4 (Or.inr z)
      rcases (show x2.toInt = 0 ∨ x2.toInt = 1 ∨ x2.toInt = 2 ∨ x2.toInt = 3 ∨ x2.toInt = 4 by omega) with c_43 | c_43 | c_43 | c_43 | c_43
      · have hp := hp.1 c_43
        refine lv_tableIn (tgt := 44) hx hb dX10_seal_11 c_41 c_42 (by rw [c_43]; rfl) (by decide) ?_
        refine lv_aload_n hx hb dX10_seal_44 rfl (lv_at hl 0 rfl) ?_
        refine G_0_3 hC hS m30 dX10_seal_45 ?_
        refine G_160_1 hC hS m613 dX10_seal_48 ?_
        refine lv_iload_n hx hb dX10_seal_51 rfl (lv_at hl 1 rfl) ?_
        refine La_162 hC hS hp.1 dX10_seal_52 ?_
        have hp := hp.2
        exact hR _ _ _ _ _ _ dX10_seal_53 hp hS
      · have hp := hp.2.1 c_43
        refine lv_tableIn (tgt := 54) hx hb dX10_seal_11 c_41 c_42 (by rw [c_43]; rfl) (by decide) ?_
        refine lv_aload_n hx hb dX10_seal_54 rfl (lv_at hl 0 rfl) ?_
        refine G_0_3 hC hS m30 dX10_seal_55 ?_
        refine G_160_2 hC hS m614 dX10_seal_58 ?_
        refine lv_iload_n hx hb dX10_seal_61 rfl (lv_at hl 1 rfl) ?_
        refine La_163 hC hS hp.1 dX10_seal_62 ?_
        have hp := hp.2
        exact hR _ _ _ _ _ _ dX10_seal_63 hp hS
      · have hp := hp.2.2.1 c_43
        refine lv_tableIn (tgt := 64) hx hb dX10_seal_11 c_41 c_42 (by rw [c_43]; rfl) (by decide) ?_
        refine lv_aload_n hx hb dX10_seal_64 rfl (lv_at hl 0 rfl) ?_
        refine G_0_3 hC hS m30 dX10_seal_65 ?_
        refine G_160_3 hC hS m615 dX10_seal_68 ?_
        refine lv_iload_n hx hb dX10_seal_71 rfl (lv_at hl 1 rfl) ?_
        refine La_164 hC hS hp.1 dX10_seal_72 ?_
        have hp := hp.2
        exact hR _ _ _ _ _ _ dX10_seal_73 hp hS
      · have hp := hp.2.2.2.1 c_43
        refine lv_tableIn (tgt := 74) hx hb dX10_seal_11 c_41 c_42 (by rw [c_43]; rfl) (by decide) ?_
        refine lv_aload_n hx hb dX10_seal_74 rfl (lv_at hl 0 rfl) ?_
        refine G_0_3 hC hS m30 dX10_seal_75 ?_
        refine G_160_4 hC hS m616 dX10_seal_78 ?_
        refine lv_iload_n hx hb dX10_seal_81 rfl (lv_at hl 1 rfl) ?_
        refine La_165 hC hS hp.1 dX10_seal_82 ?_
        have hp := hp.2
        exact hR _ _ _ _ _ _ dX10_seal_83 hp hS
      · have hp := hp.2.2.2.2 c_43
        refine lv_tableIn (tgt := 84) hx hb dX10_seal_11 c_41 c_42 (by rw [c_43]; rfl) (by decide) ?_
        refine lv_aload_n hx hb dX10_seal_84 rfl (lv_at hl 0 rfl) ?_
        refine G_0_3 hC hS m30 dX10_seal_85 ?_
        refine G_160_5 hC hS m617 dX10_seal_88 ?_
        refine lv_iload_n hx hb dX10_seal_91 rfl (lv_at hl 1 rfl) ?_
        refine La_166 hC hS hp.1 dX10_seal_92 ?_
        have hp := hp.2
        exact hR _ _ _ _ _ _ dX10_seal_93 hp hS
  · have hp := hp.2 c_3
    refine lv_iconst hx hb dX10_seal_8 kI_m1 ?_
    exact hR _ _ _ _ _ _ dX10_seal_9 hp hS
def pX10_shown (post : Int32 → Wd → Prop) (x1 : Int32) (x2 : Int32) (w : Wd) : Prop := (x1 < 0 → (post (-1 : Int32) w)) ∧ (¬ x1 < 0 → ((x1 < (w.1 160 6) → ((x2.toInt < 0 ∨ 2 < x2.toInt → (post (-1 : Int32) w)) ∧ (x2.toInt = 0 → (vp_in x1 40 ∧ post (w.2.1 168 x1.toNatClampNeg) w)) ∧ (x2.toInt = 1 → (vp_in x1 40 ∧ post (w.2.1 169 x1.toNatClampNeg) w)) ∧ (x2.toInt = 2 → (vp_in x1 40 ∧ post (w.2.1 170 x1.toNatClampNeg) w)))) ∧ (¬ x1 < (w.1 160 6) → (post (-1 : Int32) w))))
set_option maxHeartbeats 4000000 in
set_option maxRecDepth 100000 in
theorem rX10_shown {l : Launch} {g : Gw} {w : Wd} {post : Int32 → Wd → Prop}   {x1 : Int32} {x2 : Int32} (hp : pX10_shown post x1 x2 w) : MtI tabX l yX10_shown cX10_shown 3 (some .int) 1 g w [.ref (g.2.2 0), .int x1, .int x2] post := by
  refine q_entI tabX_nd (by decide) rfl (Nat.le_of_ble_eq_true rfl) ?_
  intro p e s m args below meth c A Q ls hC hR hS hl
  have hx := hC.1
  have hb := hC.2.1
  have hl : lv_has ls 3 [(0, .ref (g.2.2 0)), (1, .int x1), (2, .int x2)] := hl
  unfold pX10_shown at hp
  refine lv_iload_n hx hb dX10_shown_0 rfl (lv_at hl 1 rfl) ?_
  refine lv_if_lt (tgt := 15) hx hb dX10_shown_1 (by decide) (fun c_1 => ?_) (fun c_1 => ?_)
  · have hp := hp.1 c_1
    refine lv_iconst hx hb dX10_shown_15 kI_m1 ?_
    exact hR _ _ _ _ _ _ dX10_shown_16 hp hS
  · have hp := hp.2 c_1
    refine lv_iload_n hx hb dX10_shown_4 rfl (lv_at hl 1 rfl) ?_
    refine lv_aload_n hx hb dX10_shown_5 rfl (lv_at hl 0 rfl) ?_
    refine G_0_3 hC hS m30 dX10_shown_6 ?_
    refine G_160_6 hC hS m642 dX10_shown_9 ?_
    refine lv_icmp_lt (tgt := 17) hx hb dX10_shown_12 (by decide) (fun c_2 => ?_) (fun c_2 => ?_)
    · have hp := hp.1 c_2
      refine lv_iload_n hx hb dX10_shown_17 rfl (lv_at hl 2 rfl) ?_
      by_cases c_3 : x2.toInt < 0 ∨ 2 < x2.toInt
      · have hp := hp.1 c_3
        refine lv_tableOut (tgt := 74) hx hb dX10_shown_18 c_3 (by decide) ?_
        refine lv_iconst hx hb dX10_shown_74 kI_m1 ?_
        exact hR _ _ _ _ _ _ dX10_shown_75 hp hS
      · have hp := hp.2
        have c_31 : ¬ x2.toInt < 0 := fun z => c_3 (Or.inl z)
        have c_32 : ¬ 2 < x2.toInt := fun z => c_3 (Or.inr z)
        rcases (show x2.toInt = 0 ∨ x2.toInt = 1 ∨ x2.toInt = 2 by omega) with c_33 | c_33 | c_33
        · have hp := hp.1 c_33
          refine lv_tableIn (tgt := 44) hx hb dX10_shown_18 c_31 c_32 (by rw [c_33]; rfl) (by decide) ?_
          refine lv_aload_n hx hb dX10_shown_44 rfl (lv_at hl 0 rfl) ?_
          refine G_0_3 hC hS m30 dX10_shown_45 ?_
          refine G_160_7 hC hS m643 dX10_shown_48 ?_
          refine lv_iload_n hx hb dX10_shown_51 rfl (lv_at hl 1 rfl) ?_
          refine La_168 hC hS hp.1 dX10_shown_52 ?_
          have hp := hp.2
          exact hR _ _ _ _ _ _ dX10_shown_53 hp hS
        · have hp := hp.2.1 c_33
          refine lv_tableIn (tgt := 54) hx hb dX10_shown_18 c_31 c_32 (by rw [c_33]; rfl) (by decide) ?_
          refine lv_aload_n hx hb dX10_shown_54 rfl (lv_at hl 0 rfl) ?_
          refine G_0_3 hC hS m30 dX10_shown_55 ?_
          refine G_160_8 hC hS m644 dX10_shown_58 ?_
          refine lv_iload_n hx hb dX10_shown_61 rfl (lv_at hl 1 rfl) ?_
          refine La_169 hC hS hp.1 dX10_shown_62 ?_
          have hp := hp.2
          exact hR _ _ _ _ _ _ dX10_shown_63 hp hS
        · have hp := hp.2.2 c_33
          refine lv_tableIn (tgt := 64) hx hb dX10_shown_18 c_31 c_32 (by rw [c_33]; rfl) (by decide) ?_
          refine lv_aload_n hx hb dX10_shown_64 rfl (lv_at hl 0 rfl) ?_
          refine G_0_3 hC hS m30 dX10_shown_65 ?_
          refine G_160_9 hC hS m645 dX10_shown_68 ?_
          refine lv_iload_n hx hb dX10_shown_71 rfl (lv_at hl 1 rfl) ?_
          refine La_170 hC hS hp.1 dX10_shown_72 ?_
          have hp := hp.2
          exact hR _ _ _ _ _ _ dX10_shown_73 hp hS
    · have hp := hp.2 c_2
      refine lv_iconst hx hb dX10_shown_15 kI_m1 ?_
      exact hR _ _ _ _ _ _ dX10_shown_16 hp hS
def pX7_rows (post : Int32 → Wd → Prop) (b : Bool)  (w : Wd) : Prop := post ((1 : Int32) <<< ((w.1 (rl b) 0) &&& 31)) w
set_option maxHeartbeats 4000000 in
set_option maxRecDepth 100000 in
theorem rX7_rows {l : Launch} {g : Gw} {w : Wd} {post : Int32 → Wd → Prop} {b : Bool}   (hp : pX7_rows post b  w) : MtI tabX l yX7_rows cX7_rows 1 (some .int) 1 g w [.ref (g.2.2 (rl b))] post := by
  refine q_entI tabX_nd (by decide) rfl (Nat.le_of_ble_eq_true rfl) ?_
  intro p e s m args below meth c A Q ls hC hR hS hl
  have hx := hC.1
  have hb := hC.2.1
  have hl : lv_has ls 1 [(0, .ref (g.2.2 (rl b)))] := hl
  unfold pX7_rows at hp
  refine lv_iconst hx hb dX7_rows_0 kI_1 ?_
  refine lv_aload_n hx hb dX7_rows_1 rfl (lv_at hl 0 rfl) ?_
  refine GR_0 hC hS m137 dX7_rows_2 ?_
  refine lv_ishl hx hb dX7_rows_5 ?_
  exact hR _ _ _ _ _ _ dX7_rows_6 hp hS
def pX10_isRow (post : Int32 → Wd → Prop) (x1 : Int32) (w : Wd) : Prop := (x1 < 0 → (post (0 : Int32) w)) ∧ (¬ x1 < 0 → (pX7_rows (fun r_2 w_3 => (r_2 ≤ x1 → (post (0 : Int32) w_3)) ∧ (¬ r_2 ≤ x1 → (post (1 : Int32) w_3))) (w.2.2.2.2 0) w))
set_option maxHeartbeats 4000000 in
set_option maxRecDepth 100000 in
theorem rX10_isRow {l : Launch} {g : Gw} {w : Wd} {post : Int32 → Wd → Prop}   {x1 : Int32} (hp : pX10_isRow post x1 w) : MtI tabX l yX10_isRow cX10_isRow 2 (some .boolean) 2 g w [.ref (g.2.2 0), .int x1] post := by
  refine q_entZ tabX_nd (by decide) rfl (Nat.le_of_ble_eq_true rfl) ?_
  intro p e s m args below meth c A Q ls hC hR hS hl
  have hx := hC.1
  have hb := hC.2.1
  have hl : lv_has ls 2 [(0, .ref (g.2.2 0)), (1, .int x1)] := hl
  unfold pX10_isRow at hp
  refine lv_iload_n hx hb dX10_isRow_0 rfl (lv_at hl 1 rfl) ?_
  refine lv_if_lt (tgt := 19) hx hb dX10_isRow_1 (by decide) (fun c_1 => ?_) (fun c_1 => ?_)
  · have hp := hp.1 c_1
    refine lv_iconst hx hb dX10_isRow_19 kI_0 ?_
    exact hR _ _ _ _ _ _ dX10_isRow_20 (by decide) hp hS
  · have hp := hp.2 c_1
    refine lv_iload_n hx hb dX10_isRow_4 rfl (lv_at hl 1 rfl) ?_
    refine lv_aload_n hx hb dX10_isRow_5 rfl (lv_at hl 0 rfl) ?_
    refine G_0_16 hC hS m21 dX10_isRow_6 ?_
    refine q_cvI (As := []) (rest := [.int x1]) hC hS hl.1 (rX7_rows hp) cwX10_240 yvX7_rows (rcvR hC hS) rfl rfl (Nat.le_of_ble_eq_true rfl) (rmk (by decide) (by decide)) dX10_isRow_9 (fun r_2 w_3 H locs hp hS => ?_)
    refine lv_icmp_ge (tgt := 19) hx hb dX10_isRow_12 (by decide) (fun c_4 => ?_) (fun c_4 => ?_)
    · have hp := hp.1 c_4
      refine lv_iconst hx hb dX10_isRow_19 kI_0 ?_
      exact hR _ _ _ _ _ _ dX10_isRow_20 (by decide) hp hS
    · have hp := hp.2 c_4
      refine lv_iconst hx hb dX10_isRow_15 kI_1 ?_
      refine lv_goto (tgt := 20) hx hb dX10_isRow_16 (by decide) ?_
      exact hR _ _ _ _ _ _ dX10_isRow_20 (by decide) hp hS
def pX10_prints_92 (k30 : Int32 → Int32 → Int32 → Int32 → Int32 → Int32 → Wd → Prop) (post : Int32 → Wd → Prop) (x1 : Int32) (x2 : Int32) (x3 : Int32) (x4 : Int32) (x5 : Int32) (x6 : Int32) (w : Wd) : Prop := ∀ x6_1, x6_1 = x6 + (1 : Int32) → k30 x1 x2 x3 x4 x5 x6_1 w
def pX10_prints_75 (k30 : Int32 → Int32 → Int32 → Int32 → Int32 → Int32 → Wd → Prop) (post : Int32 → Wd → Prop) (x1 : Int32) (x2 : Int32) (x3 : Int32) (x6 : Int32) (t0 : Int32) (w : Wd) : Prop := vp_in x6 40 ∧ ∀ x5_1, x5_1 = (w.2.1 170 x6.toNatClampNeg) → ∀ x3_2, x3_2 = x3 + (1 : Int32) → pX10_prints_92 k30 post x1 x2 x3_2 t0 x5_1 x6 w
def pX10_prints_30 (post : Int32 → Wd → Prop) : Nat → Int32 → Int32 → Int32 → Int32 → Int32 → Int32 → Wd → Prop
  | 0, _, _, _, _, _, _, _ => False
  | n + 1, x1, x2, x3, x4, x5, x6, w => ((w.1 160 6) ≤ x6 → ((¬ x2 = 0 → ((¬ x2 = (1 : Int32) → (post x5 w)) ∧ (x2 = (1 : Int32) → (post x4 w)))) ∧ (x2 = 0 → (post x3 w)))) ∧ (¬ (w.1 160 6) ≤ x6 → (vp_in x6 40 ∧ (¬ (w.2.1 168 x6.toNatClampNeg) = x1 → (pX10_prints_92 (pX10_prints_30 post n) post x1 x2 x3 x4 x5 x6 w)) ∧ ((w.2.1 168 x6.toNatClampNeg) = x1 → ((¬ x3 = 0 → (pX10_prints_75 (pX10_prints_30 post n) post x1 x2 x3 x6 x4 w)) ∧ (x3 = 0 → (vp_in x6 40 ∧ pX10_prints_75 (pX10_prints_30 post n) post x1 x2 x3 x6 (w.2.1 170 x6.toNatClampNeg) w))))))
def pX10_prints (post : Int32 → Wd → Prop) (x1 : Int32) (x2 : Int32) (w : Wd) : Prop := pX10_isRow (fun r_1 w_2 => (r_1 = 0 → (post (-1 : Int32) w_2)) ∧ (¬ r_1 = 0 → ((x2 < 0 → (post (-1 : Int32) w_2)) ∧ (¬ x2 < 0 → ((x2 ≤ (2 : Int32) → (∃ n9, pX10_prints_30 post n9 x1 x2 (0 : Int32) (-1 : Int32) (-1 : Int32) (0 : Int32) w_2)) ∧ (¬ x2 ≤ (2 : Int32) → (post (-1 : Int32) w_2))))))) x1 w
set_option maxHeartbeats 4000000 in
set_option maxRecDepth 100000 in
theorem bX10_prints_92 {p : Program} {l : Launch} {e : Env} {s : State} {m : MethodId} {args : Array Value} {below : List Frame} {meth : Method} {c : Code} {Q : State → Prop} {A : Nat → Prop} {g : Gw} {post : Int32 → Wd → Prop}  (hC : Cx p s m args c cX10_prints RX10 7 g) (hR : RtI tabX p l e (rk 3) s m args below meth c Q cX10_prints A g post)  {k30 : Int32 → Int32 → Int32 → Int32 → Int32 → Int32 → Wd → Prop} (hk30 : ∀ (x1 : Int32) (x2 : Int32) (x3 : Int32) (x4 : Int32) (x5 : Int32) (x6 : Int32) (w : Wd) (H : Heap) (locs : List Loc) (ls : Array Slot), k30 x1 x2 x3 x4 x5 x6 w → St tabX A s.heap g w H locs → lv_has ls 7 [(0, .ref (g.2.2 0)), (1, .int x1), (2, .int x2), (3, .int x3), (4, .int x4), (5, .int x5), (6, .int x6)] → W p l e (rk 3) s m args below meth c H locs 0 0 Q (F0 m 30 ls [])) : ∀ (x1 : Int32) (x2 : Int32) (x3 : Int32) (x4 : Int32) (x5 : Int32) (x6 : Int32) (w : Wd) (H : Heap) (locs : List Loc) (ls : Array Slot), pX10_prints_92 k30 post x1 x2 x3 x4 x5 x6 w → St tabX A s.heap g w H locs → lv_has ls 7 [(0, .ref (g.2.2 0)), (1, .int x1), (2, .int x2), (3, .int x3), (4, .int x4), (5, .int x5), (6, .int x6)] → W p l e (rk 3) s m args below meth c H locs 0 0 Q (F0 m 92 ls []) := by
  have hx := hC.1
  have hb := hC.2.1
  intro x1 x2 x3 x4 x5 x6 w H locs ls hp hS hl
  unfold pX10_prints_92 at hp
  obtain ⟨x6_1, ex6_1⟩ : ∃ y : Int32, y = x6 + (1 : Int32) := ⟨_, rfl⟩
  have hp := hp x6_1 ex6_1
  refine lv_iinc (v := x6_1) (lv' := [(6, .int x6_1), (0, .ref (g.2.2 0)), (1, .int x1), (2, .int x2), (3, .int x3), (4, .int x4), (5, .int x5)]) hx hb dX10_prints_92 hl (k := 6) rfl (by rw [ex6_1]; rfl) (by decide) rfl (fun ls hl => ?_)
  refine lv_goto (tgt := 30) hx hb dX10_prints_95 (by decide) ?_
  exact hk30 x1 x2 x3 x4 x5 x6_1 w _ _ _ hp hS (lv_sub hl [1, 2, 3, 4, 5, 6, 0] rfl)
set_option maxHeartbeats 4000000 in
set_option maxRecDepth 100000 in
theorem bX10_prints_75 {p : Program} {l : Launch} {e : Env} {s : State} {m : MethodId} {args : Array Value} {below : List Frame} {meth : Method} {c : Code} {Q : State → Prop} {A : Nat → Prop} {g : Gw} {post : Int32 → Wd → Prop}  (hC : Cx p s m args c cX10_prints RX10 7 g) (hR : RtI tabX p l e (rk 3) s m args below meth c Q cX10_prints A g post)  {k30 : Int32 → Int32 → Int32 → Int32 → Int32 → Int32 → Wd → Prop} (hk30 : ∀ (x1 : Int32) (x2 : Int32) (x3 : Int32) (x4 : Int32) (x5 : Int32) (x6 : Int32) (w : Wd) (H : Heap) (locs : List Loc) (ls : Array Slot), k30 x1 x2 x3 x4 x5 x6 w → St tabX A s.heap g w H locs → lv_has ls 7 [(0, .ref (g.2.2 0)), (1, .int x1), (2, .int x2), (3, .int x3), (4, .int x4), (5, .int x5), (6, .int x6)] → W p l e (rk 3) s m args below meth c H locs 0 0 Q (F0 m 30 ls [])) : ∀ (x1 : Int32) (x2 : Int32) (x3 : Int32) (x6 : Int32) (t0 : Int32) (w : Wd) (H : Heap) (locs : List Loc) (ls : Array Slot), pX10_prints_75 k30 post x1 x2 x3 x6 t0 w → St tabX A s.heap g w H locs → lv_has ls 7 [(0, .ref (g.2.2 0)), (1, .int x1), (2, .int x2), (3, .int x3), (6, .int x6)] → W p l e (rk 3) s m args below meth c H locs 0 0 Q (F0 m 75 ls [.int t0]) := by
  have hx := hC.1
  have hb := hC.2.1
  intro x1 x2 x3 x6 t0 w H locs ls hp hS hl
  unfold pX10_prints_75 at hp
  refine lv_istore (lv' := [(4, .int t0), (0, .ref (g.2.2 0)), (1, .int x1), (2, .int x2), (3, .int x3), (6, .int x6)]) hx hb dX10_prints_75 hl (by decide) rfl (fun ls hl => ?_)
  refine lv_aload_n hx hb dX10_prints_77 rfl (lv_at hl 1 rfl) ?_
  refine G_0_3 hC hS m30 dX10_prints_78 ?_
  refine G_160_9 hC hS m645 dX10_prints_81 ?_
  refine lv_iload hx hb dX10_prints_84 (lv_at hl 5 rfl) ?_
  refine La_170 hC hS hp.1 dX10_prints_86 ?_
  have hp := hp.2
  refine lv_topi (fun x5_1 ex5_1 => ?_)
  have hp := hp x5_1 ex5_1
  refine lv_istore (lv' := [(5, .int x5_1), (4, .int t0), (0, .ref (g.2.2 0)), (1, .int x1), (2, .int x2), (3, .int x3), (6, .int x6)]) hx hb dX10_prints_87 hl (by decide) rfl (fun ls hl => ?_)
  obtain ⟨x3_2, ex3_2⟩ : ∃ y : Int32, y = x3 + (1 : Int32) := ⟨_, rfl⟩
  have hp := hp x3_2 ex3_2
  refine lv_iinc (v := x3_2) (lv' := [(3, .int x3_2), (5, .int x5_1), (4, .int t0), (0, .ref (g.2.2 0)), (1, .int x1), (2, .int x2), (6, .int x6)]) hx hb dX10_prints_89 hl (k := 5) rfl (by rw [ex3_2]; rfl) (by decide) rfl (fun ls hl => ?_)
  exact bX10_prints_92 hC hR hk30 x1 x2 x3_2 t0 x5_1 x6 w _ _ _ hp hS (lv_sub hl [3, 4, 5, 0, 2, 1, 6] rfl)
set_option maxHeartbeats 4000000 in
set_option maxRecDepth 100000 in
theorem bX10_prints_30 {p : Program} {l : Launch} {e : Env} {s : State} {m : MethodId} {args : Array Value} {below : List Frame} {meth : Method} {c : Code} {Q : State → Prop} {A : Nat → Prop} {g : Gw} {post : Int32 → Wd → Prop}  (hC : Cx p s m args c cX10_prints RX10 7 g) (hR : RtI tabX p l e (rk 3) s m args below meth c Q cX10_prints A g post)  : ∀ (n : Nat) (x1 : Int32) (x2 : Int32) (x3 : Int32) (x4 : Int32) (x5 : Int32) (x6 : Int32) (w : Wd) (H : Heap) (locs : List Loc) (ls : Array Slot), pX10_prints_30 post n x1 x2 x3 x4 x5 x6 w → St tabX A s.heap g w H locs → lv_has ls 7 [(0, .ref (g.2.2 0)), (1, .int x1), (2, .int x2), (3, .int x3), (4, .int x4), (5, .int x5), (6, .int x6)] → W p l e (rk 3) s m args below meth c H locs 0 0 Q (F0 m 30 ls []) := by
  have hx := hC.1
  have hb := hC.2.1
  intro n
  induction n with
  | zero =>
    intro x1 x2 x3 x4 x5 x6 w H locs ls hp hS hl
    exact False.elim hp
  | succ n ih =>
    intro x1 x2 x3 x4 x5 x6 w H locs ls hp hS hl
    unfold pX10_prints_30 at hp
    refine lv_iload hx hb dX10_prints_30 (lv_at hl 6 rfl) ?_
    refine lv_aload_n hx hb dX10_prints_32 rfl (lv_at hl 0 rfl) ?_
    refine G_0_3 hC hS m30 dX10_prints_33 ?_
    refine G_160_6 hC hS m642 dX10_prints_36 ?_
    refine lv_icmp_ge (tgt := 98) hx hb dX10_prints_39 (by decide) (fun c_1 => ?_) (fun c_1 => ?_)
    · have hp := hp.1 c_1
      refine lv_iload_n hx hb dX10_prints_98 rfl (lv_at hl 2 rfl) ?_
      refine lv_if_ne (tgt := 104) hx hb dX10_prints_99 (by decide) (fun c_2 => ?_) (fun c_2 => ?_)
      · have hp := hp.1 c_2
        refine lv_iload_n hx hb dX10_prints_104 rfl (lv_at hl 2 rfl) ?_
        refine lv_iconst hx hb dX10_prints_105 kI_1 ?_
        refine lv_icmp_ne (tgt := 114) hx hb dX10_prints_106 (by decide) (fun c_3 => ?_) (fun c_3 => ?_)
        · have hp := hp.1 c_3
          refine lv_iload hx hb dX10_prints_114 (lv_at hl 5 rfl) ?_
          exact hR _ _ _ _ _ _ dX10_prints_116 hp hS
        · have hp := hp.2 c_3
          refine lv_iload hx hb dX10_prints_109 (lv_at hl 4 rfl) ?_
          refine lv_goto (tgt := 116) hx hb dX10_prints_111 (by decide) ?_
          exact hR _ _ _ _ _ _ dX10_prints_116 hp hS
      · have hp := hp.2 c_2
        refine lv_iload_n hx hb dX10_prints_102 rfl (lv_at hl 3 rfl) ?_
        exact hR _ _ _ _ _ _ dX10_prints_103 hp hS
    · have hp := hp.2 c_1
      refine lv_aload_n hx hb dX10_prints_42 rfl (lv_at hl 0 rfl) ?_
      refine G_0_3 hC hS m30 dX10_prints_43 ?_
      refine G_160_7 hC hS m643 dX10_prints_46 ?_
      refine lv_iload hx hb dX10_prints_49 (lv_at hl 6 rfl) ?_
      refine La_168 hC hS hp.1 dX10_prints_51 ?_
      have hp := hp.2
      refine lv_iload_n hx hb dX10_prints_52 rfl (lv_at hl 1 rfl) ?_
      refine lv_icmp_ne (tgt := 92) hx hb dX10_prints_53 (by decide) (fun c_4 => ?_) (fun c_4 => ?_)
      · have hp := hp.1 c_4
        exact bX10_prints_92 hC hR ih x1 x2 x3 x4 x5 x6 w _ _ _ hp hS (lv_sub hl [0, 1, 2, 3, 4, 5, 6] rfl)
      · have hp := hp.2 c_4
        refine lv_iload_n hx hb dX10_prints_56 rfl (lv_at hl 3 rfl) ?_
        refine lv_if_ne (tgt := 73) hx hb dX10_prints_57 (by decide) (fun c_5 => ?_) (fun c_5 => ?_)
        · have hp := hp.1 c_5
          refine lv_iload hx hb dX10_prints_73 (lv_at hl 4 rfl) ?_
          exact bX10_prints_75 hC hR ih x1 x2 x3 x6 x4 w _ _ _ hp hS (lv_sub hl [0, 1, 2, 3, 6] rfl)
        · have hp := hp.2 c_5
          refine lv_aload_n hx hb dX10_prints_60 rfl (lv_at hl 0 rfl) ?_
          refine G_0_3 hC hS m30 dX10_prints_61 ?_
          refine G_160_9 hC hS m645 dX10_prints_64 ?_
          refine lv_iload hx hb dX10_prints_67 (lv_at hl 6 rfl) ?_
          refine La_170 hC hS hp.1 dX10_prints_69 ?_
          have hp := hp.2
          refine lv_goto (tgt := 75) hx hb dX10_prints_70 (by decide) ?_
          exact bX10_prints_75 hC hR ih x1 x2 x3 x6 (w.2.1 170 x6.toNatClampNeg) w _ _ _ hp hS (lv_sub hl [0, 1, 2, 3, 6] rfl)
set_option maxHeartbeats 4000000 in
set_option maxRecDepth 100000 in
theorem rX10_prints {l : Launch} {g : Gw} {w : Wd} {post : Int32 → Wd → Prop}   {x1 : Int32} {x2 : Int32} (hp : pX10_prints post x1 x2 w) : MtI tabX l yX10_prints cX10_prints 7 (some .int) 3 g w [.ref (g.2.2 0), .int x1, .int x2] post := by
  refine q_entI tabX_nd (by decide) rfl (Nat.le_of_ble_eq_true rfl) ?_
  intro p e s m args below meth c A Q ls hC hR hS hl
  have hx := hC.1
  have hb := hC.2.1
  have hl : lv_has ls 7 [(0, .ref (g.2.2 0)), (1, .int x1), (2, .int x2)] := hl
  unfold pX10_prints at hp
  refine lv_aload_n hx hb dX10_prints_0 rfl (lv_at hl 0 rfl) ?_
  refine lv_iload_n hx hb dX10_prints_1 rfl (lv_at hl 1 rfl) ?_
  refine q_cvI (As := [.int x1]) (rest := []) hC hS hl.1 (rX10_isRow hp) cwX10_180 yvX10_isRow (rcv_0 hC hS) rfl rfl (Nat.le_of_ble_eq_true rfl) (rmk (by decide) (by decide)) dX10_prints_2 (fun r_1 w_2 H locs hp hS => ?_)
  refine lv_if_eq (tgt := 17) hx hb dX10_prints_5 (by decide) (fun c_3 => ?_) (fun c_3 => ?_)
  · have hp := hp.1 c_3
    refine lv_iconst hx hb dX10_prints_17 kI_m1 ?_
    exact hR _ _ _ _ _ _ dX10_prints_18 hp hS
  · have hp := hp.2 c_3
    refine lv_iload_n hx hb dX10_prints_8 rfl (lv_at hl 2 rfl) ?_
    refine lv_if_lt (tgt := 17) hx hb dX10_prints_9 (by decide) (fun c_4 => ?_) (fun c_4 => ?_)
    · have hp := hp.1 c_4
      refine lv_iconst hx hb dX10_prints_17 kI_m1 ?_
      exact hR _ _ _ _ _ _ dX10_prints_18 hp hS
    · have hp := hp.2 c_4
      refine lv_iload_n hx hb dX10_prints_12 rfl (lv_at hl 2 rfl) ?_
      refine lv_iconst hx hb dX10_prints_13 kI_2 ?_
      refine lv_icmp_le (tgt := 19) hx hb dX10_prints_14 (by decide) (fun c_5 => ?_) (fun c_5 => ?_)
      · have hp := hp.1 c_5
        refine lv_iconst hx hb dX10_prints_19 kI_0 ?_
        refine lv_istore_n (lv' := [(3, .int (0 : Int32)), (0, .ref (g.2.2 0)), (1, .int x1), (2, .int x2)]) hx hb dX10_prints_20 rfl hl (by decide) rfl (fun ls hl => ?_)
        refine lv_iconst hx hb dX10_prints_21 kI_m1 ?_
        refine lv_istore (lv' := [(4, .int (-1 : Int32)), (3, .int (0 : Int32)), (0, .ref (g.2.2 0)), (1, .int x1), (2, .int x2)]) hx hb dX10_prints_22 hl (by decide) rfl (fun ls hl => ?_)
        refine lv_iconst hx hb dX10_prints_24 kI_m1 ?_
        refine lv_istore (lv' := [(5, .int (-1 : Int32)), (4, .int (-1 : Int32)), (3, .int (0 : Int32)), (0, .ref (g.2.2 0)), (1, .int x1), (2, .int x2)]) hx hb dX10_prints_25 hl (by decide) rfl (fun ls hl => ?_)
        refine lv_iconst hx hb dX10_prints_27 kI_0 ?_
        refine lv_istore (lv' := [(6, .int (0 : Int32)), (5, .int (-1 : Int32)), (4, .int (-1 : Int32)), (3, .int (0 : Int32)), (0, .ref (g.2.2 0)), (1, .int x1), (2, .int x2)]) hx hb dX10_prints_28 hl (by decide) rfl (fun ls hl => ?_)
        obtain ⟨n9, hp⟩ := hp
        exact bX10_prints_30 hC hR n9 x1 x2 (0 : Int32) (-1 : Int32) (-1 : Int32) (0 : Int32) w_2 _ _ _ hp hS (lv_sub hl [4, 5, 6, 3, 2, 1, 0] rfl)
      · have hp := hp.2 c_5
        refine lv_iconst hx hb dX10_prints_17 kI_m1 ?_
        exact hR _ _ _ _ _ _ dX10_prints_18 hp hS
def pX10_turn (post : Int32 → Wd → Prop) (x0 : Int32) (x1 : Int32) (w : Wd) : Prop := ∀ x2_1, x2_1 = (((x0 &&& (21845 : Int32)) <<< ((1 : Int32) &&& 31)) ||| ((x0.toUInt32 >>> ((1 : Int32).toUInt32 &&& Int32.toUInt32 31)).toInt32 &&& (21845 : Int32))) → ∀ x2_2, x2_2 = (((x2_1 &&& (13107 : Int32)) <<< ((2 : Int32) &&& 31)) ||| ((x2_1.toUInt32 >>> ((2 : Int32).toUInt32 &&& Int32.toUInt32 31)).toInt32 &&& (13107 : Int32))) → ∀ x2_3, x2_3 = (((x2_2 &&& (3855 : Int32)) <<< ((4 : Int32) &&& 31)) ||| ((x2_2.toUInt32 >>> ((4 : Int32).toUInt32 &&& Int32.toUInt32 31)).toInt32 &&& (3855 : Int32))) → ∀ x2_4, x2_4 = (((x2_3 &&& (255 : Int32)) <<< ((8 : Int32) &&& 31)) ||| ((x2_3.toUInt32 >>> ((8 : Int32).toUInt32 &&& Int32.toUInt32 31)).toInt32 &&& (255 : Int32))) → post ((x2_4.toUInt32 >>> (((16 : Int32) - x1).toUInt32 &&& Int32.toUInt32 31)).toInt32) w
set_option maxHeartbeats 4000000 in
set_option maxRecDepth 100000 in
theorem rX10_turn {l : Launch} {g : Gw} {w : Wd} {post : Int32 → Wd → Prop}   {x0 : Int32} {x1 : Int32} (hp : pX10_turn post x0 x1 w) : MtI tabX l yX10_turn cX10_turn 3 (some .int) 1 g w [.int x0, .int x1] post := by
  refine q_entI tabX_nd (by decide) rfl (Nat.le_of_ble_eq_true rfl) ?_
  intro p e s m args below meth c A Q ls hC hR hS hl
  have hx := hC.1
  have hb := hC.2.1
  have hl : lv_has ls 3 [(0, .int x0), (1, .int x1)] := hl
  unfold pX10_turn at hp
  refine lv_iload_n hx hb dX10_turn_0 rfl (lv_at hl 0 rfl) ?_
  refine lv_sipush hx hb dX10_turn_1 kS_21845 ?_
  refine lv_iand hx hb dX10_turn_4 ?_
  refine lv_iconst hx hb dX10_turn_5 kI_1 ?_
  refine lv_ishl hx hb dX10_turn_6 ?_
  refine lv_iload_n hx hb dX10_turn_7 rfl (lv_at hl 0 rfl) ?_
  refine lv_iconst hx hb dX10_turn_8 kI_1 ?_
  refine lv_iushr hx hb dX10_turn_9 rfl ?_
  refine lv_sipush hx hb dX10_turn_10 kS_21845 ?_
  refine lv_iand hx hb dX10_turn_13 ?_
  refine lv_ior hx hb dX10_turn_14 ?_
  refine lv_topi (fun x2_1 ex2_1 => ?_)
  have hp := hp x2_1 ex2_1
  refine lv_istore_n (lv' := [(2, .int x2_1), (0, .int x0), (1, .int x1)]) hx hb dX10_turn_15 rfl hl (by decide) rfl (fun ls hl => ?_)
  refine lv_iload_n hx hb dX10_turn_16 rfl (lv_at hl 0 rfl) ?_
  refine lv_sipush hx hb dX10_turn_17 kS_13107 ?_
  refine lv_iand hx hb dX10_turn_20 ?_
  refine lv_iconst hx hb dX10_turn_21 kI_2 ?_
  refine lv_ishl hx hb dX10_turn_22 ?_
  refine lv_iload_n hx hb dX10_turn_23 rfl (lv_at hl 0 rfl) ?_
  refine lv_iconst hx hb dX10_turn_24 kI_2 ?_
  refine lv_iushr hx hb dX10_turn_25 rfl ?_
  refine lv_sipush hx hb dX10_turn_26 kS_13107 ?_
  refine lv_iand hx hb dX10_turn_29 ?_
  refine lv_ior hx hb dX10_turn_30 ?_
  refine lv_topi (fun x2_2 ex2_2 => ?_)
  have hp := hp x2_2 ex2_2
  refine lv_istore_n (lv' := [(2, .int x2_2), (0, .int x0), (1, .int x1)]) hx hb dX10_turn_31 rfl hl (by decide) rfl (fun ls hl => ?_)
  refine lv_iload_n hx hb dX10_turn_32 rfl (lv_at hl 0 rfl) ?_
  refine lv_sipush hx hb dX10_turn_33 kS_3855 ?_
  refine lv_iand hx hb dX10_turn_36 ?_
  refine lv_iconst hx hb dX10_turn_37 kI_4 ?_
  refine lv_ishl hx hb dX10_turn_38 ?_
  refine lv_iload_n hx hb dX10_turn_39 rfl (lv_at hl 0 rfl) ?_
  refine lv_iconst hx hb dX10_turn_40 kI_4 ?_
  refine lv_iushr hx hb dX10_turn_41 rfl ?_
  refine lv_sipush hx hb dX10_turn_42 kS_3855 ?_
  refine lv_iand hx hb dX10_turn_45 ?_
  refine lv_ior hx hb dX10_turn_46 ?_
  refine lv_topi (fun x2_3 ex2_3 => ?_)
  have hp := hp x2_3 ex2_3
  refine lv_istore_n (lv' := [(2, .int x2_3), (0, .int x0), (1, .int x1)]) hx hb dX10_turn_47 rfl hl (by decide) rfl (fun ls hl => ?_)
  refine lv_iload_n hx hb dX10_turn_48 rfl (lv_at hl 0 rfl) ?_
  refine lv_sipush hx hb dX10_turn_49 kS_255 ?_
  refine lv_iand hx hb dX10_turn_52 ?_
  refine lv_bipush hx hb dX10_turn_53 kB_8 ?_
  refine lv_ishl hx hb dX10_turn_55 ?_
  refine lv_iload_n hx hb dX10_turn_56 rfl (lv_at hl 0 rfl) ?_
  refine lv_bipush hx hb dX10_turn_57 kB_8 ?_
  refine lv_iushr hx hb dX10_turn_59 rfl ?_
  refine lv_sipush hx hb dX10_turn_60 kS_255 ?_
  refine lv_iand hx hb dX10_turn_63 ?_
  refine lv_ior hx hb dX10_turn_64 ?_
  refine lv_topi (fun x2_4 ex2_4 => ?_)
  have hp := hp x2_4 ex2_4
  refine lv_istore_n (lv' := [(2, .int x2_4), (0, .int x0), (1, .int x1)]) hx hb dX10_turn_65 rfl hl (by decide) rfl (fun ls hl => ?_)
  refine lv_iload_n hx hb dX10_turn_66 rfl (lv_at hl 0 rfl) ?_
  refine lv_bipush hx hb dX10_turn_67 kB_16 ?_
  refine lv_iload_n hx hb dX10_turn_69 rfl (lv_at hl 2 rfl) ?_
  refine lv_isub hx hb dX10_turn_70 ?_
  refine lv_iushr hx hb dX10_turn_71 rfl ?_
  exact hR _ _ _ _ _ _ dX10_turn_72 hp hS
def pX10_turned (post : Int32 → Wd → Prop) (x1 : Int32) (w : Wd) : Prop := pX10_isRow (fun r_1 w_2 => (r_1 = 0 → (post (-1 : Int32) w_2)) ∧ (¬ r_1 = 0 → (pX10_turn (fun r_4 w_5 => post r_4 w_5) x1 (w_2.1 (rl (w_2.2.2.2.2 0)) 0) w_2))) x1 w
set_option maxHeartbeats 4000000 in
set_option maxRecDepth 100000 in
theorem rX10_turned {l : Launch} {g : Gw} {w : Wd} {post : Int32 → Wd → Prop}   {x1 : Int32} (hp : pX10_turned post x1 w) : MtI tabX l yX10_turned cX10_turned 2 (some .int) 3 g w [.ref (g.2.2 0), .int x1] post := by
  refine q_entI tabX_nd (by decide) rfl (Nat.le_of_ble_eq_true rfl) ?_
  intro p e s m args below meth c A Q ls hC hR hS hl
  have hx := hC.1
  have hb := hC.2.1
  have hl : lv_has ls 2 [(0, .ref (g.2.2 0)), (1, .int x1)] := hl
  unfold pX10_turned at hp
  refine lv_aload_n hx hb dX10_turned_0 rfl (lv_at hl 0 rfl) ?_
  refine lv_iload_n hx hb dX10_turned_1 rfl (lv_at hl 1 rfl) ?_
  refine q_cvI (As := [.int x1]) (rest := []) hC hS hl.1 (rX10_isRow hp) cwX10_180 yvX10_isRow (rcv_0 hC hS) rfl rfl (Nat.le_of_ble_eq_true rfl) (rmk (by decide) (by decide)) dX10_turned_2 (fun r_1 w_2 H locs hp hS => ?_)
  refine lv_if_eq (tgt := 22) hx hb dX10_turned_5 (by decide) (fun c_3 => ?_) (fun c_3 => ?_)
  · have hp := hp.1 c_3
    refine lv_iconst hx hb dX10_turned_22 kI_m1 ?_
    exact hR _ _ _ _ _ _ dX10_turned_23 hp hS
  · have hp := hp.2 c_3
    refine lv_iload_n hx hb dX10_turned_8 rfl (lv_at hl 1 rfl) ?_
    refine lv_aload_n hx hb dX10_turned_9 rfl (lv_at hl 0 rfl) ?_
    refine G_0_16 hC hS m21 dX10_turned_10 ?_
    refine GR_0 hC hS m678 dX10_turned_13 ?_
    refine q_csI (As := [.int x1, .int (w_2.1 (rl (w_2.2.2.2.2 0)) 0)]) (rest := []) hC hS hl.1 (rX10_turn hp) cwX10_186 ysX10_turn rfl rfl (Nat.le_of_ble_eq_true rfl) (rmk (by decide) (by decide)) dX10_turned_16 (fun r_4 w_5 H locs hp hS => ?_)
    refine lv_goto (tgt := 23) hx hb dX10_turned_19 (by decide) ?_
    exact hR _ _ _ _ _ _ dX10_turned_23 hp hS
def pX10_isHand (post : Int32 → Wd → Prop) (x1 : Int32) (w : Wd) : Prop := (x1 < 0 → (post (0 : Int32) w)) ∧ (¬ x1 < 0 → (((w.1 (rl (w.2.2.2.2 0)) 2) ≤ x1 → (post (0 : Int32) w)) ∧ (¬ (w.1 (rl (w.2.2.2.2 0)) 2) ≤ x1 → (post (1 : Int32) w))))
set_option maxHeartbeats 4000000 in
set_option maxRecDepth 100000 in
theorem rX10_isHand {l : Launch} {g : Gw} {w : Wd} {post : Int32 → Wd → Prop}   {x1 : Int32} (hp : pX10_isHand post x1 w) : MtI tabX l yX10_isHand cX10_isHand 2 (some .boolean) 1 g w [.ref (g.2.2 0), .int x1] post := by
  refine q_entZ tabX_nd (by decide) rfl (Nat.le_of_ble_eq_true rfl) ?_
  intro p e s m args below meth c A Q ls hC hR hS hl
  have hx := hC.1
  have hb := hC.2.1
  have hl : lv_has ls 2 [(0, .ref (g.2.2 0)), (1, .int x1)] := hl
  unfold pX10_isHand at hp
  refine lv_iload_n hx hb dX10_isHand_0 rfl (lv_at hl 1 rfl) ?_
  refine lv_if_lt (tgt := 19) hx hb dX10_isHand_1 (by decide) (fun c_1 => ?_) (fun c_1 => ?_)
  · have hp := hp.1 c_1
    refine lv_iconst hx hb dX10_isHand_19 kI_0 ?_
    exact hR _ _ _ _ _ _ dX10_isHand_20 (by decide) hp hS
  · have hp := hp.2 c_1
    refine lv_iload_n hx hb dX10_isHand_4 rfl (lv_at hl 1 rfl) ?_
    refine lv_aload_n hx hb dX10_isHand_5 rfl (lv_at hl 0 rfl) ?_
    refine G_0_16 hC hS m21 dX10_isHand_6 ?_
    refine GR_2 hC hS m340 dX10_isHand_9 ?_
    refine lv_icmp_ge (tgt := 19) hx hb dX10_isHand_12 (by decide) (fun c_2 => ?_) (fun c_2 => ?_)
    · have hp := hp.1 c_2
      refine lv_iconst hx hb dX10_isHand_19 kI_0 ?_
      exact hR _ _ _ _ _ _ dX10_isHand_20 (by decide) hp hS
    · have hp := hp.2 c_2
      refine lv_iconst hx hb dX10_isHand_15 kI_1 ?_
      refine lv_goto (tgt := 20) hx hb dX10_isHand_16 (by decide) ?_
      exact hR _ _ _ _ _ _ dX10_isHand_20 (by decide) hp hS
def pX10_isHeat (post : Int32 → Wd → Prop) (x0 : Int32) (w : Wd) : Prop := (x0 < 0 → (post (0 : Int32) w)) ∧ (¬ x0 < 0 → (((10 : Int32) ≤ x0 → (post (0 : Int32) w)) ∧ (¬ (10 : Int32) ≤ x0 → (post (1 : Int32) w))))
set_option maxHeartbeats 4000000 in
set_option maxRecDepth 100000 in
theorem rX10_isHeat {l : Launch} {g : Gw} {w : Wd} {post : Int32 → Wd → Prop}   {x0 : Int32} (hp : pX10_isHeat post x0 w) : MtI tabX l yX10_isHeat cX10_isHeat 1 (some .boolean) 1 g w [.int x0] post := by
  refine q_entZ tabX_nd (by decide) rfl (Nat.le_of_ble_eq_true rfl) ?_
  intro p e s m args below meth c A Q ls hC hR hS hl
  have hx := hC.1
  have hb := hC.2.1
  have hl : lv_has ls 1 [(0, .int x0)] := hl
  unfold pX10_isHeat at hp
  refine lv_iload_n hx hb dX10_isHeat_0 rfl (lv_at hl 0 rfl) ?_
  refine lv_if_lt (tgt := 14) hx hb dX10_isHeat_1 (by decide) (fun c_1 => ?_) (fun c_1 => ?_)
  · have hp := hp.1 c_1
    refine lv_iconst hx hb dX10_isHeat_14 kI_0 ?_
    exact hR _ _ _ _ _ _ dX10_isHeat_15 (by decide) hp hS
  · have hp := hp.2 c_1
    refine lv_iload_n hx hb dX10_isHeat_4 rfl (lv_at hl 0 rfl) ?_
    refine lv_bipush hx hb dX10_isHeat_5 kB_10 ?_
    refine lv_icmp_ge (tgt := 14) hx hb dX10_isHeat_7 (by decide) (fun c_2 => ?_) (fun c_2 => ?_)
    · have hp := hp.1 c_2
      refine lv_iconst hx hb dX10_isHeat_14 kI_0 ?_
      exact hR _ _ _ _ _ _ dX10_isHeat_15 (by decide) hp hS
    · have hp := hp.2 c_2
      refine lv_iconst hx hb dX10_isHeat_10 kI_1 ?_
      refine lv_goto (tgt := 15) hx hb dX10_isHeat_11 (by decide) ?_
      exact hR _ _ _ _ _ _ dX10_isHeat_15 (by decide) hp hS
def pX10_would (post : Int32 → Wd → Prop) (x1 : Int32) (x2 : Int32) (x3 : Int32) (x4 : Int32) (w : Wd) : Prop := pX10_isRow (fun r_1 w_2 => (r_1 = 0 → (post (-1 : Int32) w_2)) ∧ (¬ r_1 = 0 → (pX10_isHand (fun r_4 w_5 => (r_4 = 0 → (post (-1 : Int32) w_5)) ∧ (¬ r_4 = 0 → (pX10_isHeat (fun r_7 w_8 => (r_7 = 0 → (post (-1 : Int32) w_8)) ∧ (¬ r_7 = 0 → ((x4 < 0 → (post (-1 : Int32) w_8)) ∧ (¬ x4 < 0 → ((x4 < (100 : Int32) → (False)) ∧ (¬ x4 < (100 : Int32) → (post (-1 : Int32) w_8))))))) x3 w_5))) x2 w_2))) x1 w
set_option maxHeartbeats 4000000 in
set_option maxRecDepth 100000 in
theorem rX10_would {l : Launch} {g : Gw} {w : Wd} {post : Int32 → Wd → Prop}   {x1 : Int32} {x2 : Int32} {x3 : Int32} {x4 : Int32} (hp : pX10_would post x1 x2 x3 x4 w) : MtI tabX l yX10_would cX10_would 5 (some .int) 3 g w [.ref (g.2.2 0), .int x1, .int x2, .int x3, .int x4] post := by
  refine q_entI tabX_nd (by decide) rfl (Nat.le_of_ble_eq_true rfl) ?_
  intro p e s m args below meth c A Q ls hC hR hS hl
  have hx := hC.1
  have hb := hC.2.1
  have hl : lv_has ls 5 [(0, .ref (g.2.2 0)), (1, .int x1), (2, .int x2), (3, .int x3), (4, .int x4)] := hl
  unfold pX10_would at hp
  refine lv_aload_n hx hb dX10_would_0 rfl (lv_at hl 0 rfl) ?_
  refine lv_iload_n hx hb dX10_would_1 rfl (lv_at hl 1 rfl) ?_
  refine q_cvI (As := [.int x1]) (rest := []) hC hS hl.1 (rX10_isRow hp) cwX10_180 yvX10_isRow (rcv_0 hC hS) rfl rfl (Nat.le_of_ble_eq_true rfl) (rmk (by decide) (by decide)) dX10_would_2 (fun r_1 w_2 H locs hp hS => ?_)
  refine lv_if_eq (tgt := 35) hx hb dX10_would_5 (by decide) (fun c_3 => ?_) (fun c_3 => ?_)
  · have hp := hp.1 c_3
    refine lv_iconst hx hb dX10_would_35 kI_m1 ?_
    exact hR _ _ _ _ _ _ dX10_would_36 hp hS
  · have hp := hp.2 c_3
    refine lv_aload_n hx hb dX10_would_8 rfl (lv_at hl 0 rfl) ?_
    refine lv_iload_n hx hb dX10_would_9 rfl (lv_at hl 2 rfl) ?_
    refine q_cvI (As := [.int x2]) (rest := []) hC hS hl.1 (rX10_isHand hp) cwX10_190 yvX10_isHand (rcv_0 hC hS) rfl rfl (Nat.le_of_ble_eq_true rfl) (rmk (by decide) (by decide)) dX10_would_10 (fun r_4 w_5 H locs hp hS => ?_)
    refine lv_if_eq (tgt := 35) hx hb dX10_would_13 (by decide) (fun c_6 => ?_) (fun c_6 => ?_)
    · have hp := hp.1 c_6
      refine lv_iconst hx hb dX10_would_35 kI_m1 ?_
      exact hR _ _ _ _ _ _ dX10_would_36 hp hS
    · have hp := hp.2 c_6
      refine lv_iload_n hx hb dX10_would_16 rfl (lv_at hl 3 rfl) ?_
      refine q_csI (As := [.int x3]) (rest := []) hC hS hl.1 (rX10_isHeat hp) cwX10_193 ysX10_isHeat rfl rfl (Nat.le_of_ble_eq_true rfl) (rmk (by decide) (by decide)) dX10_would_17 (fun r_7 w_8 H locs hp hS => ?_)
      refine lv_if_eq (tgt := 35) hx hb dX10_would_20 (by decide) (fun c_9 => ?_) (fun c_9 => ?_)
      · have hp := hp.1 c_9
        refine lv_iconst hx hb dX10_would_35 kI_m1 ?_
        exact hR _ _ _ _ _ _ dX10_would_36 hp hS
      · have hp := hp.2 c_9
        refine lv_iload hx hb dX10_would_23 (lv_at hl 4 rfl) ?_
        refine lv_if_lt (tgt := 35) hx hb dX10_would_25 (by decide) (fun c_10 => ?_) (fun c_10 => ?_)
        · have hp := hp.1 c_10
          refine lv_iconst hx hb dX10_would_35 kI_m1 ?_
          exact hR _ _ _ _ _ _ dX10_would_36 hp hS
        · have hp := hp.2 c_10
          refine lv_iload hx hb dX10_would_28 (lv_at hl 4 rfl) ?_
          refine lv_bipush hx hb dX10_would_30 kB_100 ?_
          refine lv_icmp_lt (tgt := 37) hx hb dX10_would_32 (by decide) (fun c_11 => ?_) (fun c_11 => ?_)
          · have hp := hp.1 c_11
            refine lv_aload_n hx hb dX10_would_37 rfl (lv_at hl 0 rfl) ?_
            refine G_0_4 hC hS m34 dX10_would_38 ?_
            refine lv_iload_n hx hb dX10_would_41 rfl (lv_at hl 1 rfl) ?_
            refine lv_iload_n hx hb dX10_would_42 rfl (lv_at hl 2 rfl) ?_
            refine lv_iload_n hx hb dX10_would_43 rfl (lv_at hl 3 rfl) ?_
            refine lv_iload hx hb dX10_would_44 (lv_at hl 4 rfl) ?_
            exact False.elim hp
          · have hp := hp.2 c_11
            refine lv_iconst hx hb dX10_would_35 kI_m1 ?_
            exact hR _ _ _ _ _ _ dX10_would_36 hp hS
def pX2_addPrint (post : Wd → Prop) (x1 : Int32) (w : Wd) : Prop := ((w.1 160 6) < 0 → (post w)) ∧ (¬ (w.1 160 6) < 0 → (((40 : Int32) ≤ (w.1 160 6) → (post w)) ∧ (¬ (40 : Int32) ≤ (w.1 160 6) → ((x1 < 0 → (post w)) ∧ (¬ x1 < 0 → ((x1 < (w.1 160 0) → (vp_in x1 24 ∧ pX10_turn (fun r_5 w_6 => vp_in (w.1 160 6) 40 ∧ ∀ w_7, w_7 = sA w_6 168 (w.1 160 6).toNatClampNeg r_5 → vp_in (w_7.1 160 6) 40 ∧ ∀ w_8, w_8 = sA w_7 169 (w_7.1 160 6).toNatClampNeg x1 → vp_in (w_8.1 160 6) 40 ∧ ∀ w_9, w_9 = sA w_8 170 (w_8.1 160 6).toNatClampNeg (w_8.1 160 12) → ∀ w_10, w_10 = sI w_9 160 6 ((w_9.1 160 6) + (1 : Int32)) → post w_10) (w.2.1 162 x1.toNatClampNeg) (w.1 160 10) w)) ∧ (¬ x1 < (w.1 160 0) → (post w))))))))
set_option maxHeartbeats 4000000 in
set_option maxRecDepth 100000 in
theorem rX2_addPrint {l : Launch} {g : Gw} {w : Wd} {post : Wd → Prop}   {x1 : Int32} (hp : pX2_addPrint post x1 w) : MtV tabX l yX2_addPrint cX2_addPrint 2 none 2 g w [.ref (g.2.2 160), .int x1] post := by
  refine q_entV tabX_nd (by decide) rfl (Nat.le_of_ble_eq_true rfl) ?_
  intro p e s m args below meth c A Q ls hC hR hS hl
  have hx := hC.1
  have hb := hC.2.1
  have hl : lv_has ls 2 [(0, .ref (g.2.2 160)), (1, .int x1)] := hl
  unfold pX2_addPrint at hp
  refine lv_aload_n hx hb dX2_addPrint_0 rfl (lv_at hl 0 rfl) ?_
  refine G_160_6 hC hS m235 dX2_addPrint_1 ?_
  refine lv_if_lt (tgt := 28) hx hb dX2_addPrint_4 (by decide) (fun c_1 => ?_) (fun c_1 => ?_)
  · have hp := hp.1 c_1
    exact hR _ _ _ _ _ dX2_addPrint_28 hp hS
  · have hp := hp.2 c_1
    refine lv_aload_n hx hb dX2_addPrint_7 rfl (lv_at hl 0 rfl) ?_
    refine G_160_6 hC hS m235 dX2_addPrint_8 ?_
    refine lv_bipush hx hb dX2_addPrint_11 kB_40 ?_
    refine lv_icmp_ge (tgt := 28) hx hb dX2_addPrint_13 (by decide) (fun c_2 => ?_) (fun c_2 => ?_)
    · have hp := hp.1 c_2
      exact hR _ _ _ _ _ dX2_addPrint_28 hp hS
    · have hp := hp.2 c_2
      refine lv_iload_n hx hb dX2_addPrint_16 rfl (lv_at hl 1 rfl) ?_
      refine lv_if_lt (tgt := 28) hx hb dX2_addPrint_17 (by decide) (fun c_3 => ?_) (fun c_3 => ?_)
      · have hp := hp.1 c_3
        exact hR _ _ _ _ _ dX2_addPrint_28 hp hS
      · have hp := hp.2 c_3
        refine lv_iload_n hx hb dX2_addPrint_20 rfl (lv_at hl 1 rfl) ?_
        refine lv_aload_n hx hb dX2_addPrint_21 rfl (lv_at hl 0 rfl) ?_
        refine G_160_0 hC hS m234 dX2_addPrint_22 ?_
        refine lv_icmp_lt (tgt := 29) hx hb dX2_addPrint_25 (by decide) (fun c_4 => ?_) (fun c_4 => ?_)
        · have hp := hp.1 c_4
          refine lv_aload_n hx hb dX2_addPrint_29 rfl (lv_at hl 0 rfl) ?_
          refine G_160_7 hC hS m160 dX2_addPrint_30 ?_
          refine lv_aload_n hx hb dX2_addPrint_33 rfl (lv_at hl 0 rfl) ?_
          refine G_160_6 hC hS m235 dX2_addPrint_34 ?_
          refine lv_aload_n hx hb dX2_addPrint_37 rfl (lv_at hl 0 rfl) ?_
          refine G_160_1 hC hS m155 dX2_addPrint_38 ?_
          refine lv_iload_n hx hb dX2_addPrint_41 rfl (lv_at hl 1 rfl) ?_
          refine La_162 hC hS hp.1 dX2_addPrint_42 ?_
          have hp := hp.2
          refine lv_aload_n hx hb dX2_addPrint_43 rfl (lv_at hl 0 rfl) ?_
          refine G_160_10 hC hS m237 dX2_addPrint_44 ?_
          refine q_cnI (As := [.int (w.2.1 162 x1.toNatClampNeg), .int (w.1 160 10)]) (rest := [.int (w.1 160 6), .ref (g.2.2 168)]) hC hS hl.1 (rX10_turn hp) m681 m680 m2 hC.2.2.2.2.2.2.2.2.1 ysX10_turn rfl rfl (Nat.le_of_ble_eq_true rfl) (rmk (by decide) (by decide)) dX2_addPrint_47 (fun r_5 w_6 H locs hp hS => ?_)
          refine Sa_168 hC hS hp.1 dX2_addPrint_50 (fun w_7 H locs ew_7 hS => ?_)
          have hp := hp.2
          have hp := hp w_7 ew_7
          refine lv_aload_n hx hb dX2_addPrint_51 rfl (lv_at hl 0 rfl) ?_
          refine G_160_8 hC hS m161 dX2_addPrint_52 ?_
          refine lv_aload_n hx hb dX2_addPrint_55 rfl (lv_at hl 0 rfl) ?_
          refine G_160_6 hC hS m235 dX2_addPrint_56 ?_
          refine lv_iload_n hx hb dX2_addPrint_59 rfl (lv_at hl 1 rfl) ?_
          refine Sa_169 hC hS hp.1 dX2_addPrint_60 (fun w_8 H locs ew_8 hS => ?_)
          have hp := hp.2
          have hp := hp w_8 ew_8
          refine lv_aload_n hx hb dX2_addPrint_61 rfl (lv_at hl 0 rfl) ?_
          refine G_160_9 hC hS m162 dX2_addPrint_62 ?_
          refine lv_aload_n hx hb dX2_addPrint_65 rfl (lv_at hl 0 rfl) ?_
          refine G_160_6 hC hS m235 dX2_addPrint_66 ?_
          refine lv_aload_n hx hb dX2_addPrint_69 rfl (lv_at hl 0 rfl) ?_
          refine G_160_12 hC hS m240 dX2_addPrint_70 ?_
          refine Sa_170 hC hS hp.1 dX2_addPrint_73 (fun w_9 H locs ew_9 hS => ?_)
          have hp := hp.2
          have hp := hp w_9 ew_9
          refine lv_aload_n hx hb dX2_addPrint_74 rfl (lv_at hl 0 rfl) ?_
          refine lv_dup hx hb dX2_addPrint_75 rfl ?_
          refine G_160_6 hC hS m235 dX2_addPrint_76 ?_
          refine lv_iconst hx hb dX2_addPrint_79 kI_1 ?_
          refine lv_iadd hx hb dX2_addPrint_80 ?_
          refine P_160_6 hC hS m235 dX2_addPrint_81 (fun w_10 H locs ew_10 hS => ?_)
          have hp := hp w_10 ew_10
          exact hR _ _ _ _ _ dX2_addPrint_84 hp hS
        · have hp := hp.2 c_4
          exact hR _ _ _ _ _ dX2_addPrint_28 hp hS
def pX0_perform (post : Wd → Prop) (x1 : Int32) (w : Wd) : Prop := vp_in x1 40 ∧ ((w.2.1 53 x1.toNatClampNeg).toInt < 0 ∨ 2 < (w.2.1 53 x1.toNatClampNeg).toInt → (∀ w_2, w_2 = sI w 160 12 ((w.1 160 12) + (1 : Int32)) → post w_2)) ∧ ((w.2.1 53 x1.toNatClampNeg).toInt = 0 → (vp_in x1 40 ∧ vp_in x1 40 ∧ vp_in x1 40 ∧ False)) ∧ ((w.2.1 53 x1.toNatClampNeg).toInt = 1 → (vp_in x1 40 ∧ pX2_addPrint (fun w_3 => ∀ w_4, w_4 = sI w_3 160 11 ((w_3.1 160 11) - (1 : Int32)) → post w_4) (w.2.1 54 x1.toNatClampNeg) w)) ∧ ((w.2.1 53 x1.toNatClampNeg).toInt = 2 → (vp_in x1 40 ∧ vp_in x1 40 ∧ False))
set_option maxHeartbeats 4000000 in
set_option maxRecDepth 100000 in
theorem rX0_perform {l : Launch} {g : Gw} {w : Wd} {post : Wd → Prop}   {x1 : Int32} (hp : pX0_perform post x1 w) : MtV tabX l yX0_perform cX0_perform 2 none 3 g w [.ref (g.2.2 50), .int x1] post := by
  refine q_entV tabX_nd (by decide) rfl (Nat.le_of_ble_eq_true rfl) ?_
  intro p e s m args below meth c A Q ls hC hR hS hl
  have hx := hC.1
  have hb := hC.2.1
  have hl : lv_has ls 2 [(0, .ref (g.2.2 50)), (1, .int x1)] := hl
  unfold pX0_perform at hp
  refine lv_aload_n hx hb dX0_perform_0 rfl (lv_at hl 0 rfl) ?_
  refine G_50_2 hC hS m179 dX0_perform_1 ?_
  refine lv_iload_n hx hb dX0_perform_4 rfl (lv_at hl 1 rfl) ?_
  refine La_53 hC hS hp.1 dX0_perform_5 ?_
  have hp := hp.2
  by_cases c_1 : (w.2.1 53 x1.toNatClampNeg).toInt < 0 ∨ 2 < (w.2.1 53 x1.toNatClampNeg).toInt
  · have hp := hp.1 c_1
    refine lv_tableOut (tgt := 108) hx hb dX0_perform_6 c_1 (by decide) ?_
    refine lv_aload_n hx hb dX0_perform_108 rfl (lv_at hl 0 rfl) ?_
    refine G_50_0 hC hS m177 dX0_perform_109 ?_
    refine lv_dup hx hb dX0_perform_112 rfl ?_
    refine G_160_12 hC hS m804 dX0_perform_113 ?_
    refine lv_iconst hx hb dX0_perform_116 kI_1 ?_
    refine lv_iadd hx hb dX0_perform_117 ?_
    refine P_160_12 hC hS m804 dX0_perform_118 (fun w_2 H locs ew_2 hS => ?_)
    have hp := hp w_2 ew_2
    exact hR _ _ _ _ _ dX0_perform_121 hp hS
  · have hp := hp.2
    have c_11 : ¬ (w.2.1 53 x1.toNatClampNeg).toInt < 0 := fun z => c_1 (Or.inl z)
    have c_12 : ¬ 2 < (w.2.1 53 x1.toNatClampNeg).toInt := fun z => c_1 (Or.inr z)
    rcases (show (w.2.1 53 x1.toNatClampNeg).toInt = 0 ∨ (w.2.1 53 x1.toNatClampNeg).toInt = 1 ∨ (w.2.1 53 x1.toNatClampNeg).toInt = 2 by omega) with c_13 | c_13 | c_13
    · have hp := hp.1 c_13
      refine lv_tableIn (tgt := 32) hx hb dX0_perform_6 c_11 c_12 (by rw [c_13]; rfl) (by decide) ?_
      refine lv_aload_n hx hb dX0_perform_32 rfl (lv_at hl 0 rfl) ?_
      refine lv_aload_n hx hb dX0_perform_33 rfl (lv_at hl 0 rfl) ?_
      refine G_50_3 hC hS m180 dX0_perform_34 ?_
      refine lv_iload_n hx hb dX0_perform_37 rfl (lv_at hl 1 rfl) ?_
      refine La_54 hC hS hp.1 dX0_perform_38 ?_
      have hp := hp.2
      refine lv_aload_n hx hb dX0_perform_39 rfl (lv_at hl 0 rfl) ?_
      refine G_50_4 hC hS m181 dX0_perform_40 ?_
      refine lv_iload_n hx hb dX0_perform_43 rfl (lv_at hl 1 rfl) ?_
      refine La_55 hC hS hp.1 dX0_perform_44 ?_
      have hp := hp.2
      refine lv_aload_n hx hb dX0_perform_45 rfl (lv_at hl 0 rfl) ?_
      refine G_50_5 hC hS m182 dX0_perform_46 ?_
      refine lv_iload_n hx hb dX0_perform_49 rfl (lv_at hl 1 rfl) ?_
      refine La_56 hC hS hp.1 dX0_perform_50 ?_
      have hp := hp.2
      exact False.elim hp
    · have hp := hp.2.1 c_13
      refine lv_tableIn (tgt := 57) hx hb dX0_perform_6 c_11 c_12 (by rw [c_13]; rfl) (by decide) ?_
      refine lv_aload_n hx hb dX0_perform_57 rfl (lv_at hl 0 rfl) ?_
      refine G_50_0 hC hS m177 dX0_perform_58 ?_
      refine lv_aload_n hx hb dX0_perform_61 rfl (lv_at hl 0 rfl) ?_
      refine G_50_3 hC hS m180 dX0_perform_62 ?_
      refine lv_iload_n hx hb dX0_perform_65 rfl (lv_at hl 1 rfl) ?_
      refine La_54 hC hS hp.1 dX0_perform_66 ?_
      have hp := hp.2
      refine q_cvV (As := [.int (w.2.1 54 x1.toNatClampNeg)]) (rest := []) hC hS hl.1 (rX2_addPrint hp) cwX0_67 yvX2_addPrint (rcv_160 hC hS) rfl rfl (Nat.le_of_ble_eq_true rfl) (rmk (by decide) (by decide)) dX0_perform_67 (fun w_3 H locs hp hS => ?_)
      refine lv_aload_n hx hb dX0_perform_70 rfl (lv_at hl 0 rfl) ?_
      refine G_50_0 hC hS m177 dX0_perform_71 ?_
      refine lv_dup hx hb dX0_perform_74 rfl ?_
      refine G_160_11 hC hS m803 dX0_perform_75 ?_
      refine lv_iconst hx hb dX0_perform_78 kI_1 ?_
      refine lv_isub hx hb dX0_perform_79 ?_
      refine P_160_11 hC hS m803 dX0_perform_80 (fun w_4 H locs ew_4 hS => ?_)
      have hp := hp w_4 ew_4
      refine lv_goto (tgt := 121) hx hb dX0_perform_83 (by decide) ?_
      exact hR _ _ _ _ _ dX0_perform_121 hp hS
    · have hp := hp.2.2 c_13
      refine lv_tableIn (tgt := 86) hx hb dX0_perform_6 c_11 c_12 (by rw [c_13]; rfl) (by decide) ?_
      refine lv_aload_n hx hb dX0_perform_86 rfl (lv_at hl 0 rfl) ?_
      refine G_50_0 hC hS m177 dX0_perform_87 ?_
      refine lv_aload_n hx hb dX0_perform_90 rfl (lv_at hl 0 rfl) ?_
      refine G_50_3 hC hS m180 dX0_perform_91 ?_
      refine lv_iload_n hx hb dX0_perform_94 rfl (lv_at hl 1 rfl) ?_
      refine La_54 hC hS hp.1 dX0_perform_95 ?_
      have hp := hp.2
      refine lv_aload_n hx hb dX0_perform_96 rfl (lv_at hl 0 rfl) ?_
      refine G_50_4 hC hS m181 dX0_perform_97 ?_
      refine lv_iload_n hx hb dX0_perform_100 rfl (lv_at hl 1 rfl) ?_
      refine La_55 hC hS hp.1 dX0_perform_101 ?_
      have hp := hp.2
      exact False.elim hp
def pX0_add_13 (post : Wd → Prop) (x1 : Int32) (x2 : Int32) (x3 : Int32) (x4 : Int32) (w : Wd) : Prop := ((w.1 50 7) < 0 → (post w)) ∧ (¬ (w.1 50 7) < 0 → (((w.1 50 7) < (40 : Int32) → (vp_in (w.1 50 7) 40 ∧ ∀ w_3, w_3 = sA w 53 (w.1 50 7).toNatClampNeg x1 → vp_in (w_3.1 50 7) 40 ∧ ∀ w_4, w_4 = sA w_3 54 (w_3.1 50 7).toNatClampNeg x2 → vp_in (w_4.1 50 7) 40 ∧ ∀ w_5, w_5 = sA w_4 55 (w_4.1 50 7).toNatClampNeg x3 → vp_in (w_5.1 50 7) 40 ∧ ∀ w_6, w_6 = sA w_5 56 (w_5.1 50 7).toNatClampNeg x4 → vp_in (w_6.1 50 7) 40 ∧ ∀ w_7, w_7 = sA w_6 57 (w_6.1 50 7).toNatClampNeg (w_6.1 160 13) → pX0_perform (fun w_8 => ∀ w_9, w_9 = sI w_8 50 7 ((w_8.1 50 7) + (1 : Int32)) → ∀ w_10, w_10 = sI w_9 50 8 (0 : Int32) → post w_10) (w_7.1 50 7) w_7)) ∧ (¬ (w.1 50 7) < (40 : Int32) → (post w))))
def pX0_add (post : Wd → Prop) (x1 : Int32) (x2 : Int32) (x3 : Int32) (x4 : Int32) (w : Wd) : Prop := ((w.1 50 7) < (40 : Int32) → (pX0_add_13 post x1 x2 x3 x4 w)) ∧ (¬ (w.1 50 7) < (40 : Int32) → (False))
set_option maxHeartbeats 4000000 in
set_option maxRecDepth 100000 in
theorem bX0_add_13 {p : Program} {l : Launch} {e : Env} {s : State} {m : MethodId} {args : Array Value} {below : List Frame} {meth : Method} {c : Code} {Q : State → Prop} {A : Nat → Prop} {g : Gw} {post : Wd → Prop}  (hC : Cx p s m args c cX0_add RX0 5 g) (hR : RtV tabX p l e (rk 4) s m args below meth c Q cX0_add A g post)  : ∀ (x1 : Int32) (x2 : Int32) (x3 : Int32) (x4 : Int32) (w : Wd) (H : Heap) (locs : List Loc) (ls : Array Slot), pX0_add_13 post x1 x2 x3 x4 w → St tabX A s.heap g w H locs → lv_has ls 5 [(0, .ref (g.2.2 50)), (1, .int x1), (2, .int x2), (3, .int x3), (4, .int x4)] → W p l e (rk 4) s m args below meth c H locs 0 0 Q (F0 m 13 ls []) := by
  have hx := hC.1
  have hb := hC.2.1
  intro x1 x2 x3 x4 w H locs ls hp hS hl
  unfold pX0_add_13 at hp
  refine lv_aload_n hx hb dX0_add_13 rfl (lv_at hl 0 rfl) ?_
  refine G_50_7 hC hS m247 dX0_add_14 ?_
  refine lv_if_lt (tgt := 29) hx hb dX0_add_17 (by decide) (fun c_1 => ?_) (fun c_1 => ?_)
  · have hp := hp.1 c_1
    exact hR _ _ _ _ _ dX0_add_29 hp hS
  · have hp := hp.2 c_1
    refine lv_aload_n hx hb dX0_add_20 rfl (lv_at hl 0 rfl) ?_
    refine G_50_7 hC hS m247 dX0_add_21 ?_
    refine lv_bipush hx hb dX0_add_24 kB_40 ?_
    refine lv_icmp_lt (tgt := 30) hx hb dX0_add_26 (by decide) (fun c_2 => ?_) (fun c_2 => ?_)
    · have hp := hp.1 c_2
      refine lv_aload_n hx hb dX0_add_30 rfl (lv_at hl 0 rfl) ?_
      refine G_50_2 hC hS m179 dX0_add_31 ?_
      refine lv_aload_n hx hb dX0_add_34 rfl (lv_at hl 0 rfl) ?_
      refine G_50_7 hC hS m247 dX0_add_35 ?_
      refine lv_iload_n hx hb dX0_add_38 rfl (lv_at hl 1 rfl) ?_
      refine Sa_53 hC hS hp.1 dX0_add_39 (fun w_3 H locs ew_3 hS => ?_)
      have hp := hp.2
      have hp := hp w_3 ew_3
      refine lv_aload_n hx hb dX0_add_40 rfl (lv_at hl 0 rfl) ?_
      refine G_50_3 hC hS m180 dX0_add_41 ?_
      refine lv_aload_n hx hb dX0_add_44 rfl (lv_at hl 0 rfl) ?_
      refine G_50_7 hC hS m247 dX0_add_45 ?_
      refine lv_iload_n hx hb dX0_add_48 rfl (lv_at hl 2 rfl) ?_
      refine Sa_54 hC hS hp.1 dX0_add_49 (fun w_4 H locs ew_4 hS => ?_)
      have hp := hp.2
      have hp := hp w_4 ew_4
      refine lv_aload_n hx hb dX0_add_50 rfl (lv_at hl 0 rfl) ?_
      refine G_50_4 hC hS m181 dX0_add_51 ?_
      refine lv_aload_n hx hb dX0_add_54 rfl (lv_at hl 0 rfl) ?_
      refine G_50_7 hC hS m247 dX0_add_55 ?_
      refine lv_iload_n hx hb dX0_add_58 rfl (lv_at hl 3 rfl) ?_
      refine Sa_55 hC hS hp.1 dX0_add_59 (fun w_5 H locs ew_5 hS => ?_)
      have hp := hp.2
      have hp := hp w_5 ew_5
      refine lv_aload_n hx hb dX0_add_60 rfl (lv_at hl 0 rfl) ?_
      refine G_50_5 hC hS m182 dX0_add_61 ?_
      refine lv_aload_n hx hb dX0_add_64 rfl (lv_at hl 0 rfl) ?_
      refine G_50_7 hC hS m247 dX0_add_65 ?_
      refine lv_iload hx hb dX0_add_68 (lv_at hl 4 rfl) ?_
      refine Sa_56 hC hS hp.1 dX0_add_70 (fun w_6 H locs ew_6 hS => ?_)
      have hp := hp.2
      have hp := hp w_6 ew_6
      refine lv_aload_n hx hb dX0_add_71 rfl (lv_at hl 0 rfl) ?_
      refine G_50_6 hC hS m183 dX0_add_72 ?_
      refine lv_aload_n hx hb dX0_add_75 rfl (lv_at hl 0 rfl) ?_
      refine G_50_7 hC hS m247 dX0_add_76 ?_
      refine lv_aload_n hx hb dX0_add_79 rfl (lv_at hl 0 rfl) ?_
      refine G_50_0 hC hS m177 dX0_add_80 ?_
      refine G_160_13 hC hS m790 dX0_add_83 ?_
      refine Sa_57 hC hS hp.1 dX0_add_86 (fun w_7 H locs ew_7 hS => ?_)
      have hp := hp.2
      have hp := hp w_7 ew_7
      refine lv_aload_n hx hb dX0_add_87 rfl (lv_at hl 0 rfl) ?_
      refine lv_aload_n hx hb dX0_add_88 rfl (lv_at hl 0 rfl) ?_
      refine G_50_7 hC hS m247 dX0_add_89 ?_
      refine q_cvV (As := [.int (w_7.1 50 7)]) (rest := []) hC hS hl.1 (rX0_perform hp) cwX0_50 yvX0_perform (rcv_50 hC hS) rfl rfl (Nat.le_of_ble_eq_true rfl) (rmk (by decide) (by decide)) dX0_add_92 (fun w_8 H locs hp hS => ?_)
      refine lv_aload_n hx hb dX0_add_95 rfl (lv_at hl 0 rfl) ?_
      refine lv_dup hx hb dX0_add_96 rfl ?_
      refine G_50_7 hC hS m247 dX0_add_97 ?_
      refine lv_iconst hx hb dX0_add_100 kI_1 ?_
      refine lv_iadd hx hb dX0_add_101 ?_
      refine P_50_7 hC hS m247 dX0_add_102 (fun w_9 H locs ew_9 hS => ?_)
      have hp := hp w_9 ew_9
      refine lv_aload_n hx hb dX0_add_105 rfl (lv_at hl 0 rfl) ?_
      refine lv_iconst hx hb dX0_add_106 kI_0 ?_
      refine P_50_8 hC hS m248 dX0_add_107 (fun w_10 H locs ew_10 hS => ?_)
      have hp := hp w_10 ew_10
      exact hR _ _ _ _ _ dX0_add_110 hp hS
    · have hp := hp.2 c_2
      exact hR _ _ _ _ _ dX0_add_29 hp hS
set_option maxHeartbeats 4000000 in
set_option maxRecDepth 100000 in
theorem rX0_add {l : Launch} {g : Gw} {w : Wd} {post : Wd → Prop}   {x1 : Int32} {x2 : Int32} {x3 : Int32} {x4 : Int32} (hp : pX0_add post x1 x2 x3 x4 w) : MtV tabX l yX0_add cX0_add 5 none 4 g w [.ref (g.2.2 50), .int x1, .int x2, .int x3, .int x4] post := by
  refine q_entV tabX_nd (by decide) rfl (Nat.le_of_ble_eq_true rfl) ?_
  intro p e s m args below meth c A Q ls hC hR hS hl
  have hx := hC.1
  have hb := hC.2.1
  have hl : lv_has ls 5 [(0, .ref (g.2.2 50)), (1, .int x1), (2, .int x2), (3, .int x3), (4, .int x4)] := hl
  unfold pX0_add at hp
  refine lv_aload_n hx hb dX0_add_0 rfl (lv_at hl 0 rfl) ?_
  refine G_50_7 hC hS m247 dX0_add_1 ?_
  refine lv_bipush hx hb dX0_add_4 kB_40 ?_
  refine lv_icmp_lt (tgt := 13) hx hb dX0_add_6 (by decide) (fun c_1 => ?_) (fun c_1 => ?_)
  · have hp := hp.1 c_1
    exact bX0_add_13 hC hR x1 x2 x3 x4 w _ _ _ hp hS (lv_sub hl [0, 1, 2, 3, 4] rfl)
  · have hp := hp.2 c_1
    refine lv_aload_n hx hb dX0_add_9 rfl (lv_at hl 0 rfl) ?_
    exact False.elim hp
def pX10_canCast (post : Int32 → Wd → Prop) (x1 : Int32) (x2 : Int32) (x3 : Int32) (w : Wd) : Prop := pX10_isSeal (fun r_1 w_2 => (r_1 = 0 → (post (0 : Int32) w_2)) ∧ (¬ r_1 = 0 → (pX10_isHand (fun r_4 w_5 => (r_4 = 0 → (post (0 : Int32) w_5)) ∧ (¬ r_4 = 0 → (pX10_isHeat (fun r_7 w_8 => (r_7 = 0 → (post (0 : Int32) w_8)) ∧ (¬ r_7 = 0 → (post (1 : Int32) w_8))) x3 w_5))) x2 w_2))) x1 w
set_option maxHeartbeats 4000000 in
set_option maxRecDepth 100000 in
theorem rX10_canCast {l : Launch} {g : Gw} {w : Wd} {post : Int32 → Wd → Prop}   {x1 : Int32} {x2 : Int32} {x3 : Int32} (hp : pX10_canCast post x1 x2 x3 w) : MtI tabX l yX10_canCast cX10_canCast 4 (some .boolean) 2 g w [.ref (g.2.2 0), .int x1, .int x2, .int x3] post := by
  refine q_entZ tabX_nd (by decide) rfl (Nat.le_of_ble_eq_true rfl) ?_
  intro p e s m args below meth c A Q ls hC hR hS hl
  have hx := hC.1
  have hb := hC.2.1
  have hl : lv_has ls 4 [(0, .ref (g.2.2 0)), (1, .int x1), (2, .int x2), (3, .int x3)] := hl
  unfold pX10_canCast at hp
  refine lv_aload_n hx hb dX10_canCast_0 rfl (lv_at hl 0 rfl) ?_
  refine lv_iload_n hx hb dX10_canCast_1 rfl (lv_at hl 1 rfl) ?_
  refine q_cvI (As := [.int x1]) (rest := []) hC hS hl.1 (rX10_isSeal hp) cwX10_149 yvX10_isSeal (rcv_0 hC hS) rfl rfl (Nat.le_of_ble_eq_true rfl) (rmk (by decide) (by decide)) dX10_canCast_2 (fun r_1 w_2 H locs hp hS => ?_)
  refine lv_if_eq (tgt := 27) hx hb dX10_canCast_5 (by decide) (fun c_3 => ?_) (fun c_3 => ?_)
  · have hp := hp.1 c_3
    refine lv_iconst hx hb dX10_canCast_27 kI_0 ?_
    exact hR _ _ _ _ _ _ dX10_canCast_28 (by decide) hp hS
  · have hp := hp.2 c_3
    refine lv_aload_n hx hb dX10_canCast_8 rfl (lv_at hl 0 rfl) ?_
    refine lv_iload_n hx hb dX10_canCast_9 rfl (lv_at hl 2 rfl) ?_
    refine q_cvI (As := [.int x2]) (rest := []) hC hS hl.1 (rX10_isHand hp) cwX10_190 yvX10_isHand (rcv_0 hC hS) rfl rfl (Nat.le_of_ble_eq_true rfl) (rmk (by decide) (by decide)) dX10_canCast_10 (fun r_4 w_5 H locs hp hS => ?_)
    refine lv_if_eq (tgt := 27) hx hb dX10_canCast_13 (by decide) (fun c_6 => ?_) (fun c_6 => ?_)
    · have hp := hp.1 c_6
      refine lv_iconst hx hb dX10_canCast_27 kI_0 ?_
      exact hR _ _ _ _ _ _ dX10_canCast_28 (by decide) hp hS
    · have hp := hp.2 c_6
      refine lv_iload_n hx hb dX10_canCast_16 rfl (lv_at hl 3 rfl) ?_
      refine q_csI (As := [.int x3]) (rest := []) hC hS hl.1 (rX10_isHeat hp) cwX10_193 ysX10_isHeat rfl rfl (Nat.le_of_ble_eq_true rfl) (rmk (by decide) (by decide)) dX10_canCast_17 (fun r_7 w_8 H locs hp hS => ?_)
      refine lv_if_eq (tgt := 27) hx hb dX10_canCast_20 (by decide) (fun c_9 => ?_) (fun c_9 => ?_)
      · have hp := hp.1 c_9
        refine lv_iconst hx hb dX10_canCast_27 kI_0 ?_
        exact hR _ _ _ _ _ _ dX10_canCast_28 (by decide) hp hS
      · have hp := hp.2 c_9
        refine lv_iconst hx hb dX10_canCast_23 kI_1 ?_
        refine lv_goto (tgt := 28) hx hb dX10_canCast_24 (by decide) ?_
        exact hR _ _ _ _ _ _ dX10_canCast_28 (by decide) hp hS
def pX10_cast (post : Int32 → Wd → Prop) (x1 : Int32) (x2 : Int32) (x3 : Int32) (w : Wd) : Prop := pX10_canCast (fun r_1 w_2 => (r_1 = 0 → (post (-1 : Int32) w_2)) ∧ (¬ r_1 = 0 → (((24 : Int32) ≤ (w_2.1 160 0) → (post (-1 : Int32) w_2)) ∧ (¬ (24 : Int32) ≤ (w_2.1 160 0) → ((((1 : Int32) + x3) ≤ (w_2.1 160 11) → (pX0_add (fun w_6 => post ((w_6.1 160 0) - (1 : Int32)) w_6) (0 : Int32) x1 x2 x3 w_2)) ∧ (¬ ((1 : Int32) + x3) ≤ (w_2.1 160 11) → (post (-1 : Int32) w_2))))))) x1 x2 x3 w
set_option maxHeartbeats 4000000 in
set_option maxRecDepth 100000 in
theorem rX10_cast {l : Launch} {g : Gw} {w : Wd} {post : Int32 → Wd → Prop}   {x1 : Int32} {x2 : Int32} {x3 : Int32} (hp : pX10_cast post x1 x2 x3 w) : MtI tabX l yX10_cast cX10_cast 4 (some .int) 5 g w [.ref (g.2.2 0), .int x1, .int x2, .int x3] post := by
  refine q_entI tabX_nd (by decide) rfl (Nat.le_of_ble_eq_true rfl) ?_
  intro p e s m args below meth c A Q ls hC hR hS hl
  have hx := hC.1
  have hb := hC.2.1
  have hl : lv_has ls 4 [(0, .ref (g.2.2 0)), (1, .int x1), (2, .int x2), (3, .int x3)] := hl
  unfold pX10_cast at hp
  refine lv_aload_n hx hb dX10_cast_0 rfl (lv_at hl 0 rfl) ?_
  refine lv_iload_n hx hb dX10_cast_1 rfl (lv_at hl 1 rfl) ?_
  refine lv_iload_n hx hb dX10_cast_2 rfl (lv_at hl 2 rfl) ?_
  refine lv_iload_n hx hb dX10_cast_3 rfl (lv_at hl 3 rfl) ?_
  refine q_cvI (As := [.int x1, .int x2, .int x3]) (rest := []) hC hS hl.1 (rX10_canCast hp) cwX10_200 yvX10_canCast (rcv_0 hC hS) rfl rfl (Nat.le_of_ble_eq_true rfl) (rmk (by decide) (by decide)) dX10_cast_4 (fun r_1 w_2 H locs hp hS => ?_)
  refine lv_if_eq (tgt := 35) hx hb dX10_cast_7 (by decide) (fun c_3 => ?_) (fun c_3 => ?_)
  · have hp := hp.1 c_3
    refine lv_iconst hx hb dX10_cast_35 kI_m1 ?_
    exact hR _ _ _ _ _ _ dX10_cast_36 hp hS
  · have hp := hp.2 c_3
    refine lv_aload_n hx hb dX10_cast_10 rfl (lv_at hl 0 rfl) ?_
    refine G_0_3 hC hS m30 dX10_cast_11 ?_
    refine G_160_0 hC hS m622 dX10_cast_14 ?_
    refine lv_bipush hx hb dX10_cast_17 kB_24 ?_
    refine lv_icmp_ge (tgt := 35) hx hb dX10_cast_19 (by decide) (fun c_4 => ?_) (fun c_4 => ?_)
    · have hp := hp.1 c_4
      refine lv_iconst hx hb dX10_cast_35 kI_m1 ?_
      exact hR _ _ _ _ _ _ dX10_cast_36 hp hS
    · have hp := hp.2 c_4
      refine lv_aload_n hx hb dX10_cast_22 rfl (lv_at hl 0 rfl) ?_
      refine G_0_3 hC hS m30 dX10_cast_23 ?_
      refine G_160_11 hC hS m781 dX10_cast_26 ?_
      refine lv_iconst hx hb dX10_cast_29 kI_1 ?_
      refine lv_iload_n hx hb dX10_cast_30 rfl (lv_at hl 3 rfl) ?_
      refine lv_iadd hx hb dX10_cast_31 ?_
      refine lv_icmp_ge (tgt := 37) hx hb dX10_cast_32 (by decide) (fun c_5 => ?_) (fun c_5 => ?_)
      · have hp := hp.1 c_5
        refine lv_aload_n hx hb dX10_cast_37 rfl (lv_at hl 0 rfl) ?_
        refine G_0_5 hC hS m38 dX10_cast_38 ?_
        refine lv_iconst hx hb dX10_cast_41 kI_0 ?_
        refine lv_iload_n hx hb dX10_cast_42 rfl (lv_at hl 1 rfl) ?_
        refine lv_iload_n hx hb dX10_cast_43 rfl (lv_at hl 2 rfl) ?_
        refine lv_iload_n hx hb dX10_cast_44 rfl (lv_at hl 3 rfl) ?_
        refine q_cvV (As := [.int (0 : Int32), .int x1, .int x2, .int x3]) (rest := []) hC hS hl.1 (rX0_add hp) cwX10_210 yvX0_add (rcv_50 hC hS) rfl rfl (Nat.le_of_ble_eq_true rfl) (rmk (by decide) (by decide)) dX10_cast_45 (fun w_6 H locs hp hS => ?_)
        refine lv_aload_n hx hb dX10_cast_48 rfl (lv_at hl 0 rfl) ?_
        refine G_0_3 hC hS m30 dX10_cast_49 ?_
        refine G_160_0 hC hS m622 dX10_cast_52 ?_
        refine lv_iconst hx hb dX10_cast_55 kI_1 ?_
        refine lv_isub hx hb dX10_cast_56 ?_
        exact hR _ _ _ _ _ _ dX10_cast_57 hp hS
      · have hp := hp.2 c_5
        refine lv_iconst hx hb dX10_cast_35 kI_m1 ?_
        exact hR _ _ _ _ _ _ dX10_cast_36 hp hS
