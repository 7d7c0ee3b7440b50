def pX10_putBytes_49 (k3 : Int32 → Int32 → Wd → Prop) (post : Wd → Prop) (x1 : Int32) (x2 : Int32) (w : Wd) : Prop := ∀ x2_1, x2_1 = x2 + (-8 : Int32) → k3 x1 x2_1 w
def pX10_putBytes_3 (post : Wd → Prop) : Nat → Int32 → Int32 → Wd → Prop
  | 0, _, _, _ => False
  | n + 1, x1, x2, w => (x2 < 0 → (post w)) ∧ (¬ x2 < 0 → (((w.1 0 13) < 0 → (pX10_putBytes_49 (pX10_putBytes_3 post n) post x1 x2 w)) ∧ (¬ (w.1 0 13) < 0 → (((1600 : Int32) ≤ (w.1 0 13) → (pX10_putBytes_49 (pX10_putBytes_3 post n) post x1 x2 w)) ∧ (¬ (1600 : Int32) ≤ (w.1 0 13) → (vp_in (w.1 0 13) 1600 ∧ ∀ w_4, w_4 = sA w 1 (w.1 0 13).toNatClampNeg (vp_nar .byte (((x1.toUInt32 >>> (x2.toUInt32 &&& Int32.toUInt32 31)).toInt32).toInt8.toInt32)) → ∀ w_5, w_5 = sI w_4 0 13 ((w_4.1 0 13) + (1 : Int32)) → pX10_putBytes_49 (pX10_putBytes_3 post n) post x1 x2 w_5))))))
def pX10_putBytes (post : Wd → Prop) (x1 : Int32) (w : Wd) : Prop := ∃ n9, pX10_putBytes_3 post n9 x1 (24 : Int32) w
set_option maxHeartbeats 4000000 in
set_option maxRecDepth 100000 in
theorem bX10_putBytes_49 {p : Program} {l : Launch} {e : Env} {s : State} {m : MethodId} {args : Array Value} {below : List Frame} {meth : Method} {c : Code} {Q : State → Prop} {A : Nat → Prop} {g : Gw} {post : Wd → Prop}  (hC : Cx p s m args c cX10_putBytes RX10 3 g) (hR : RtV tabX p l e (rk 1) s m args below meth c Q cX10_putBytes A g post)  {k3 : Int32 → Int32 → Wd → Prop} (hk3 : ∀ (x1 : Int32) (x2 : Int32) (w : Wd) (H : Heap) (locs : List Loc) (ls : Array Slot), k3 x1 x2 w → St tabX A s.heap g w H locs → lv_has ls 3 [(0, .ref (g.2.2 0)), (1, .int x1), (2, .int x2)] → W p l e (rk 1) s m args below meth c H locs 0 0 Q (F0 m 3 ls [])) : ∀ (x1 : Int32) (x2 : Int32) (w : Wd) (H : Heap) (locs : List Loc) (ls : Array Slot), pX10_putBytes_49 k3 post x1 x2 w → St tabX A s.heap g w H locs → lv_has ls 3 [(0, .ref (g.2.2 0)), (1, .int x1), (2, .int x2)] → W p l e (rk 1) s m args below meth c H locs 0 0 Q (F0 m 49 ls []) := by
  have hx := hC.1
  have hb := hC.2.1
  intro x1 x2 w H locs ls hp hS hl
  unfold pX10_putBytes_49 at hp
  obtain ⟨x2_1, ex2_1⟩ : ∃ y : Int32, y = x2 + (-8 : Int32) := ⟨_, rfl⟩
  have hp := hp x2_1 ex2_1
  refine lv_iinc (v := x2_1) (lv' := [(2, .int x2_1), (0, .ref (g.2.2 0)), (1, .int x1)]) hx hb dX10_putBytes_49 hl (k := 2) rfl (by rw [ex2_1]; rfl) (by decide) rfl (fun ls hl => ?_)
  refine lv_goto (tgt := 3) hx hb dX10_putBytes_52 (by decide) ?_
  exact hk3 x1 x2_1 w _ _ _ hp hS (lv_sub hl [1, 2, 0] rfl)
set_option maxHeartbeats 4000000 in
set_option maxRecDepth 100000 in
theorem bX10_putBytes_3 {p : Program} {l : Launch} {e : Env} {s : State} {m : MethodId} {args : Array Value} {below : List Frame} {meth : Method} {c : Code} {Q : State → Prop} {A : Nat → Prop} {g : Gw} {post : Wd → Prop}  (hC : Cx p s m args c cX10_putBytes RX10 3 g) (hR : RtV tabX p l e (rk 1) s m args below meth c Q cX10_putBytes A g post)  : ∀ (n : Nat) (x1 : Int32) (x2 : Int32) (w : Wd) (H : Heap) (locs : List Loc) (ls : Array Slot), pX10_putBytes_3 post n x1 x2 w → St tabX A s.heap g w H locs → lv_has ls 3 [(0, .ref (g.2.2 0)), (1, .int x1), (2, .int x2)] → W p l e (rk 1) s m args below meth c H locs 0 0 Q (F0 m 3 ls []) := by
  have hx := hC.1
  have hb := hC.2.1
  intro n
  induction n with
  | zero =>
    intro x1 x2 w H locs ls hp hS hl
    exact False.elim hp
  | succ n ih =>
    intro x1 x2 w H locs ls hp hS hl
    unfold pX10_putBytes_3 at hp
    refine lv_iload_n hx hb dX10_putBytes_3 rfl (lv_at hl 2 rfl) ?_
    refine lv_if_lt (tgt := 55) hx hb dX10_putBytes_4 (by decide) (fun c_1 => ?_) (fun c_1 => ?_)
    · have hp := hp.1 c_1
      exact hR _ _ _ _ _ dX10_putBytes_55 hp hS
    · have hp := hp.2 c_1
      refine lv_aload_n hx hb dX10_putBytes_7 rfl (lv_at hl 0 rfl) ?_
      refine G_0_13 hC hS m222 dX10_putBytes_8 ?_
      refine lv_if_lt (tgt := 49) hx hb dX10_putBytes_11 (by decide) (fun c_2 => ?_) (fun c_2 => ?_)
      · have hp := hp.1 c_2
        exact bX10_putBytes_49 hC hR ih x1 x2 w _ _ _ hp hS (lv_sub hl [0, 1, 2] rfl)
      · have hp := hp.2 c_2
        refine lv_aload_n hx hb dX10_putBytes_14 rfl (lv_at hl 0 rfl) ?_
        refine G_0_13 hC hS m222 dX10_putBytes_15 ?_
        refine lv_aload_n hx hb dX10_putBytes_18 rfl (lv_at hl 0 rfl) ?_
        refine G_0_0 hC hS m13 dX10_putBytes_19 ?_
        refine Na_1 hC hS dX10_putBytes_22 ?_
        refine lv_icmp_ge (tgt := 49) hx hb dX10_putBytes_23 (by decide) (fun c_3 => ?_) (fun c_3 => ?_)
        · have hp := hp.1 c_3
          exact bX10_putBytes_49 hC hR ih x1 x2 w _ _ _ hp hS (lv_sub hl [0, 1, 2] rfl)
        · have hp := hp.2 c_3
          refine lv_aload_n hx hb dX10_putBytes_26 rfl (lv_at hl 0 rfl) ?_
          refine G_0_0 hC hS m13 dX10_putBytes_27 ?_
          refine lv_aload_n hx hb dX10_putBytes_30 rfl (lv_at hl 0 rfl) ?_
          refine G_0_13 hC hS m222 dX10_putBytes_31 ?_
          refine lv_iload_n hx hb dX10_putBytes_34 rfl (lv_at hl 1 rfl) ?_
          refine lv_iload_n hx hb dX10_putBytes_35 rfl (lv_at hl 2 rfl) ?_
          refine lv_iushr hx hb dX10_putBytes_36 rfl ?_
          refine lv_i2b hx hb dX10_putBytes_37 rfl ?_
          refine Sa_1 hC hS hp.1 dX10_putBytes_38 (fun w_4 H locs ew_4 hS => ?_)
          have hp := hp.2
          have hp := hp w_4 ew_4
          refine lv_aload_n hx hb dX10_putBytes_39 rfl (lv_at hl 0 rfl) ?_
          refine lv_dup hx hb dX10_putBytes_40 rfl ?_
          refine G_0_13 hC hS m222 dX10_putBytes_41 ?_
          refine lv_iconst hx hb dX10_putBytes_44 kI_1 ?_
          refine lv_iadd hx hb dX10_putBytes_45 ?_
          refine P_0_13 hC hS m222 dX10_putBytes_46 (fun w_5 H locs ew_5 hS => ?_)
          have hp := hp w_5 ew_5
          exact bX10_putBytes_49 hC hR ih x1 x2 w_5 _ _ _ hp hS (lv_sub hl [0, 1, 2] rfl)
set_option maxHeartbeats 4000000 in
set_option maxRecDepth 100000 in
theorem rX10_putBytes {l : Launch} {g : Gw} {w : Wd} {post : Wd → Prop}   {x1 : Int32} (hp : pX10_putBytes post x1 w) : MtV tabX l yX10_putBytes cX10_putBytes 3 none 1 g w [.ref (g.2.2 0), .int x1] post := by
  refine q_entV tabX_nd (by decide) rfl (Nat.le_of_ble_eq_true rfl) ?_
  intro p e s m args below meth c A Q ls hC hR hS hl
  have hx := hC.1
  have hb := hC.2.1
  have hl : lv_has ls 3 [(0, .ref (g.2.2 0)), (1, .int x1)] := hl
  unfold pX10_putBytes at hp
  refine lv_bipush hx hb dX10_putBytes_0 kB_24 ?_
  refine lv_istore_n (lv' := [(2, .int (24 : Int32)), (0, .ref (g.2.2 0)), (1, .int x1)]) hx hb dX10_putBytes_2 rfl hl (by decide) rfl (fun ls hl => ?_)
  obtain ⟨n9, hp⟩ := hp
  exact bX10_putBytes_3 hC hR n9 x1 (24 : Int32) w _ _ _ hp hS (lv_sub hl [1, 2, 0] rfl)
def pX10_feed (post : Int32 → Wd → Prop) (x1 : Int32) (x2 : Int32) (x3 : Int32) (x4 : Int32) (x5 : Int32) (w : Wd) : Prop := ((w.1 0 13) ≤ (1580 : Int32) → (pX10_putBytes (fun w_2 => pX10_putBytes (fun w_3 => pX10_putBytes (fun w_4 => pX10_putBytes (fun w_5 => pX10_putBytes (fun w_6 => post (w_6.1 0 13) w_6) x5 w_5) x4 w_4) x3 w_3) x2 w_2) x1 w)) ∧ (¬ (w.1 0 13) ≤ (1580 : Int32) → (post (-1 : Int32) w))
set_option maxHeartbeats 4000000 in
set_option maxRecDepth 100000 in
theorem rX10_feed {l : Launch} {g : Gw} {w : Wd} {post : Int32 → Wd → Prop}   {x1 : Int32} {x2 : Int32} {x3 : Int32} {x4 : Int32} {x5 : Int32} (hp : pX10_feed post x1 x2 x3 x4 x5 w) : MtI tabX l yX10_feed cX10_feed 6 (some .int) 2 g w [.ref (g.2.2 0), .int x1, .int x2, .int x3, .int x4, .int x5] post := by
  refine q_entI tabX_nd (by decide) rfl (Nat.le_of_ble_eq_true rfl) ?_
  intro p e s m args below meth c A Q ls hC hR hS hl
  have hx := hC.1
  have hb := hC.2.1
  have hl : lv_has ls 6 [(0, .ref (g.2.2 0)), (1, .int x1), (2, .int x2), (3, .int x3), (4, .int x4), (5, .int x5)] := hl
  unfold pX10_feed at hp
  refine lv_aload_n hx hb dX10_feed_0 rfl (lv_at hl 0 rfl) ?_
  refine G_0_13 hC hS m222 dX10_feed_1 ?_
  refine lv_sipush hx hb dX10_feed_4 kS_1580 ?_
  refine lv_icmp_le (tgt := 12) hx hb dX10_feed_7 (by decide) (fun c_1 => ?_) (fun c_1 => ?_)
  · have hp := hp.1 c_1
    refine lv_aload_n hx hb dX10_feed_12 rfl (lv_at hl 0 rfl) ?_
    refine lv_iload_n hx hb dX10_feed_13 rfl (lv_at hl 1 rfl) ?_
    refine q_cvV (As := [.int x1]) (rest := []) hC hS hl.1 (rX10_putBytes hp) cwX10_114 yvX10_putBytes (rcv_0 hC hS) rfl rfl (Nat.le_of_ble_eq_true rfl) (rmk (by decide) (by decide)) dX10_feed_14 (fun w_2 H locs hp hS => ?_)
    refine lv_aload_n hx hb dX10_feed_17 rfl (lv_at hl 0 rfl) ?_
    refine lv_iload_n hx hb dX10_feed_18 rfl (lv_at hl 2 rfl) ?_
    refine q_cvV (As := [.int x2]) (rest := []) hC hS hl.1 (rX10_putBytes hp) cwX10_114 yvX10_putBytes (rcv_0 hC hS) rfl rfl (Nat.le_of_ble_eq_true rfl) (rmk (by decide) (by decide)) dX10_feed_19 (fun w_3 H locs hp hS => ?_)
    refine lv_aload_n hx hb dX10_feed_22 rfl (lv_at hl 0 rfl) ?_
    refine lv_iload_n hx hb dX10_feed_23 rfl (lv_at hl 3 rfl) ?_
    refine q_cvV (As := [.int x3]) (rest := []) hC hS hl.1 (rX10_putBytes hp) cwX10_114 yvX10_putBytes (rcv_0 hC hS) rfl rfl (Nat.le_of_ble_eq_true rfl) (rmk (by decide) (by decide)) dX10_feed_24 (fun w_4 H locs hp hS => ?_)
    refine lv_aload_n hx hb dX10_feed_27 rfl (lv_at hl 0 rfl) ?_
    refine lv_iload hx hb dX10_feed_28 (lv_at hl 4 rfl) ?_
    refine q_cvV (As := [.int x4]) (rest := []) hC hS hl.1 (rX10_putBytes hp) cwX10_114 yvX10_putBytes (rcv_0 hC hS) rfl rfl (Nat.le_of_ble_eq_true rfl) (rmk (by decide) (by decide)) dX10_feed_30 (fun w_5 H locs hp hS => ?_)
    refine lv_aload_n hx hb dX10_feed_33 rfl (lv_at hl 0 rfl) ?_
    refine lv_iload hx hb dX10_feed_34 (lv_at hl 5 rfl) ?_
    refine q_cvV (As := [.int x5]) (rest := []) hC hS hl.1 (rX10_putBytes hp) cwX10_114 yvX10_putBytes (rcv_0 hC hS) rfl rfl (Nat.le_of_ble_eq_true rfl) (rmk (by decide) (by decide)) dX10_feed_36 (fun w_6 H locs hp hS => ?_)
    refine lv_aload_n hx hb dX10_feed_39 rfl (lv_at hl 0 rfl) ?_
    refine G_0_13 hC hS m222 dX10_feed_40 ?_
    exact hR _ _ _ _ _ _ dX10_feed_43 hp hS
  · have hp := hp.2 c_1
    refine lv_iconst hx hb dX10_feed_10 kI_m1 ?_
    exact hR _ _ _ _ _ _ dX10_feed_11 hp hS
def pX10_end (post : Int32 → Wd → Prop) (x1 : Int32) (w : Wd) : Prop := (x1 < 0 → (post (-1 : Int32) w)) ∧ (¬ x1 < 0 → ((x1 ≤ (w.1 0 13) → (∀ w_3, w_3 = sI w 0 13 x1 → post x1 w_3)) ∧ (¬ x1 ≤ (w.1 0 13) → (post (-1 : Int32) w))))
set_option maxHeartbeats 4000000 in
set_option maxRecDepth 100000 in
theorem rX10_end {l : Launch} {g : Gw} {w : Wd} {post : Int32 → Wd → Prop}   {x1 : Int32} (hp : pX10_end post x1 w) : MtI tabX l yX10_end cX10_end 2 (some .int) 1 g w [.ref (g.2.2 0), .int x1] post := by
  refine q_entI tabX_nd (by decide) rfl (Nat.le_of_ble_eq_true rfl) ?_
  intro p e s m args below meth c A Q ls hC hR hS hl
  have hx := hC.1
  have hb := hC.2.1
  have hl : lv_has ls 2 [(0, .ref (g.2.2 0)), (1, .int x1)] := hl
  unfold pX10_end at hp
  refine lv_iload_n hx hb dX10_end_0 rfl (lv_at hl 1 rfl) ?_
  refine lv_if_lt (tgt := 12) hx hb dX10_end_1 (by decide) (fun c_1 => ?_) (fun c_1 => ?_)
  · have hp := hp.1 c_1
    refine lv_iconst hx hb dX10_end_12 kI_m1 ?_
    exact hR _ _ _ _ _ _ dX10_end_13 hp hS
  · have hp := hp.2 c_1
    refine lv_iload_n hx hb dX10_end_4 rfl (lv_at hl 1 rfl) ?_
    refine lv_aload_n hx hb dX10_end_5 rfl (lv_at hl 0 rfl) ?_
    refine G_0_13 hC hS m222 dX10_end_6 ?_
    refine lv_icmp_le (tgt := 14) hx hb dX10_end_9 (by decide) (fun c_2 => ?_) (fun c_2 => ?_)
    · have hp := hp.1 c_2
      refine lv_aload_n hx hb dX10_end_14 rfl (lv_at hl 0 rfl) ?_
      refine lv_iload_n hx hb dX10_end_15 rfl (lv_at hl 1 rfl) ?_
      refine P_0_13 hC hS m222 dX10_end_16 (fun w_3 H locs ew_3 hS => ?_)
      have hp := hp w_3 ew_3
      refine lv_iload_n hx hb dX10_end_19 rfl (lv_at hl 1 rfl) ?_
      exact hR _ _ _ _ _ _ dX10_end_20 hp hS
    · have hp := hp.2 c_2
      refine lv_iconst hx hb dX10_end_12 kI_m1 ?_
      exact hR _ _ _ _ _ _ dX10_end_13 hp hS
def pX0_forget (post : Wd → Prop)  (w : Wd) : Prop := ∀ w_1, w_1 = sI w 50 7 (0 : Int32) → ∀ w_2, w_2 = sI w_1 50 8 (0 : Int32) → post w_2
set_option maxHeartbeats 4000000 in
set_option maxRecDepth 100000 in
theorem rX0_forget {l : Launch} {g : Gw} {w : Wd} {post : Wd → Prop}    (hp : pX0_forget post  w) : MtV tabX l yX0_forget cX0_forget 1 none 1 g w [.ref (g.2.2 50)] post := by
  refine q_entV tabX_nd (by decide) rfl (Nat.le_of_ble_eq_true rfl) ?_
  intro p e s m args below meth c A Q ls hC hR hS hl
  have hx := hC.1
  have hb := hC.2.1
  have hl : lv_has ls 1 [(0, .ref (g.2.2 50))] := hl
  unfold pX0_forget at hp
  refine lv_aload_n hx hb dX0_forget_0 rfl (lv_at hl 0 rfl) ?_
  refine lv_iconst hx hb dX0_forget_1 kI_0 ?_
  refine P_50_7 hC hS m247 dX0_forget_2 (fun w_1 H locs ew_1 hS => ?_)
  have hp := hp w_1 ew_1
  refine lv_aload_n hx hb dX0_forget_5 rfl (lv_at hl 0 rfl) ?_
  refine lv_iconst hx hb dX0_forget_6 kI_0 ?_
  refine P_50_8 hC hS m248 dX0_forget_7 (fun w_2 H locs ew_2 hS => ?_)
  have hp := hp w_2 ew_2
  exact hR _ _ _ _ _ dX0_forget_10 hp hS
def pX1_takeRules_7 (post : Wd → Prop) (b1 : Bool) : Nat → Int32 → Wd → Prop
  | 0, _, _ => False
  | n + 1, x2, w => ((40 : Int32) ≤ x2 → (post w)) ∧ (¬ (40 : Int32) ≤ x2 → (vp_in x2 40 ∧ ∀ w_2, w_2 = sA w 45 x2.toNatClampNeg (-1 : Int32) → ∀ x2_3, x2_3 = x2 + (1 : Int32) → pX1_takeRules_7 post b1 n x2_3 w_2))
def pX1_takeRules (post : Wd → Prop) (b1 : Bool)  (w : Wd) : Prop := ∀ w_1, w_1 = sR w 3 b1 → ∃ n9, pX1_takeRules_7 post b1 n9 (0 : Int32) w_1
set_option maxHeartbeats 4000000 in
set_option maxRecDepth 100000 in
theorem bX1_takeRules_7 {p : Program} {l : Launch} {e : Env} {s : State} {m : MethodId} {args : Array Value} {below : List Frame} {meth : Method} {c : Code} {Q : State → Prop} {A : Nat → Prop} {g : Gw} {post : Wd → Prop} {b1 : Bool} (hC : Cx p s m args c cX1_takeRules RX1 3 g) (hR : RtV tabX p l e (rk 1) s m args below meth c Q cX1_takeRules A g post)  : ∀ (n : Nat) (x2 : Int32) (w : Wd) (H : Heap) (locs : List Loc) (ls : Array Slot), pX1_takeRules_7 post b1 n x2 w → St tabX A s.heap g w H locs → lv_has ls 3 [(0, .ref (g.2.2 40)), (1, .ref (g.2.2 (rl b1))), (2, .int x2)] → W p l e (rk 1) s m args below meth c H locs 0 0 Q (F0 m 7 ls []) := by
  have hx := hC.1
  have hb := hC.2.1
  intro n
  induction n with
  | zero =>
    intro x2 w H locs ls hp hS hl
    exact False.elim hp
  | succ n ih =>
    intro x2 w H locs ls hp hS hl
    unfold pX1_takeRules_7 at hp
    refine lv_iload_n hx hb dX1_takeRules_7 rfl (lv_at hl 2 rfl) ?_
    refine lv_aload_n hx hb dX1_takeRules_8 rfl (lv_at hl 0 rfl) ?_
    refine G_40_4 hC hS m171 dX1_takeRules_9 ?_
    refine Na_45 hC hS dX1_takeRules_12 ?_
    refine lv_icmp_ge (tgt := 29) hx hb dX1_takeRules_13 (by decide) (fun c_1 => ?_) (fun c_1 => ?_)
    · have hp := hp.1 c_1
      exact hR _ _ _ _ _ dX1_takeRules_29 hp hS
    · have hp := hp.2 c_1
      refine lv_aload_n hx hb dX1_takeRules_16 rfl (lv_at hl 0 rfl) ?_
      refine G_40_4 hC hS m171 dX1_takeRules_17 ?_
      refine lv_iload_n hx hb dX1_takeRules_20 rfl (lv_at hl 2 rfl) ?_
      refine lv_iconst hx hb dX1_takeRules_21 kI_m1 ?_
      refine Sa_45 hC hS hp.1 dX1_takeRules_22 (fun w_2 H locs ew_2 hS => ?_)
      have hp := hp.2
      have hp := hp w_2 ew_2
      obtain ⟨x2_3, ex2_3⟩ : ∃ y : Int32, y = x2 + (1 : Int32) := ⟨_, rfl⟩
      have hp := hp x2_3 ex2_3
      refine lv_iinc (v := x2_3) (lv' := [(2, .int x2_3), (0, .ref (g.2.2 40)), (1, .ref (g.2.2 (rl b1)))]) hx hb dX1_takeRules_23 hl (k := 2) rfl (by rw [ex2_3]; rfl) (by decide) rfl (fun ls hl => ?_)
      refine lv_goto (tgt := 7) hx hb dX1_takeRules_26 (by decide) ?_
      exact ih x2_3 w_2 _ _ _ hp hS (lv_sub hl [1, 2, 0] rfl)
set_option maxHeartbeats 4000000 in
set_option maxRecDepth 100000 in
theorem rX1_takeRules {l : Launch} {g : Gw} {w : Wd} {post : Wd → Prop} {b1 : Bool}   (hp : pX1_takeRules post b1  w) : MtV tabX l yX1_takeRules cX1_takeRules 3 none 1 g w [.ref (g.2.2 40), .ref (g.2.2 (rl b1))] post := by
  refine q_entV tabX_nd (by decide) rfl (Nat.le_of_ble_eq_true rfl) ?_
  intro p e s m args below meth c A Q ls hC hR hS hl
  have hx := hC.1
  have hb := hC.2.1
  have hl : lv_has ls 3 [(0, .ref (g.2.2 40)), (1, .ref (g.2.2 (rl b1)))] := hl
  unfold pX1_takeRules at hp
  refine lv_aload_n hx hb dX1_takeRules_0 rfl (lv_at hl 0 rfl) ?_
  refine lv_aload_n hx hb dX1_takeRules_1 rfl (lv_at hl 1 rfl) ?_
  refine P_40_1 hC hS m168 dX1_takeRules_2 (fun w_1 H locs ew_1 hS => ?_)
  have hp := hp w_1 ew_1
  refine lv_iconst hx hb dX1_takeRules_5 kI_0 ?_
  refine lv_istore_n (lv' := [(2, .int (0 : Int32)), (0, .ref (g.2.2 40)), (1, .ref (g.2.2 (rl b1)))]) hx hb dX1_takeRules_6 rfl hl (by decide) rfl (fun ls hl => ?_)
  obtain ⟨n9, hp⟩ := hp
  exact bX1_takeRules_7 hC hR n9 (0 : Int32) w_1 _ _ _ hp hS (lv_sub hl [1, 2, 0] rfl)
def pX2_begin (post : Wd → Prop) (b1 : Bool)  (w : Wd) : Prop := ∀ w_1, w_1 = sA w 162 (0 : Int32).toNatClampNeg (w.1 (rl b1) 1) → ∀ w_2, w_2 = sA w_1 163 (0 : Int32).toNatClampNeg (-1 : Int32) → ∀ w_3, w_3 = sA w_2 164 (0 : Int32).toNatClampNeg (-1 : Int32) → ∀ w_4, w_4 = sA w_3 165 (0 : Int32).toNatClampNeg (0 : Int32) → ∀ w_5, w_5 = sA w_4 166 (0 : Int32).toNatClampNeg (0 : Int32) → ∀ w_6, w_6 = sI w_5 160 0 (1 : Int32) → ∀ w_7, w_7 = sI w_6 160 6 (0 : Int32) → ∀ w_8, w_8 = sI w_7 160 10 (w_7.1 (rl b1) 0) → ∀ w_9, w_9 = sI w_8 160 11 (w_8.1 (rl b1) 3) → ∀ w_10, w_10 = sI w_9 160 12 (0 : Int32) → ∀ w_11, w_11 = sI w_10 160 13 (w_10.1 (rl b1) 4) → post w_11
set_option maxHeartbeats 4000000 in
set_option maxRecDepth 100000 in
theorem rX2_begin {l : Launch} {g : Gw} {w : Wd} {post : Wd → Prop} {b1 : Bool}   (hp : pX2_begin post b1  w) : MtV tabX l yX2_begin cX2_begin 2 none 1 g w [.ref (g.2.2 160), .ref (g.2.2 (rl b1))] post := by
  refine q_entV tabX_nd (by decide) rfl (Nat.le_of_ble_eq_true rfl) ?_
  intro p e s m args below meth c A Q ls hC hR hS hl
  have hx := hC.1
  have hb := hC.2.1
  have hl : lv_has ls 2 [(0, .ref (g.2.2 160)), (1, .ref (g.2.2 (rl b1)))] := hl
  unfold pX2_begin at hp
  refine lv_aload_n hx hb dX2_begin_0 rfl (lv_at hl 0 rfl) ?_
  refine G_160_1 hC hS m155 dX2_begin_1 ?_
  refine lv_iconst hx hb dX2_begin_4 kI_0 ?_
  refine lv_aload_n hx hb dX2_begin_5 rfl (lv_at hl 1 rfl) ?_
  refine GR_1 hC hS m233 dX2_begin_6 ?_
  refine Sa_162 hC hS (by unfold vp_in; decide) dX2_begin_9 (fun w_1 H locs ew_1 hS => ?_)
  have hp := hp w_1 ew_1
  refine lv_aload_n hx hb dX2_begin_10 rfl (lv_at hl 0 rfl) ?_
  refine G_160_2 hC hS m156 dX2_begin_11 ?_
  refine lv_iconst hx hb dX2_begin_14 kI_0 ?_
  refine lv_iconst hx hb dX2_begin_15 kI_m1 ?_
  refine Sa_163 hC hS (by unfold vp_in; decide) dX2_begin_16 (fun w_2 H locs ew_2 hS => ?_)
  have hp := hp w_2 ew_2
  refine lv_aload_n hx hb dX2_begin_17 rfl (lv_at hl 0 rfl) ?_
  refine G_160_3 hC hS m157 dX2_begin_18 ?_
  refine lv_iconst hx hb dX2_begin_21 kI_0 ?_
  refine lv_iconst hx hb dX2_begin_22 kI_m1 ?_
  refine Sa_164 hC hS (by unfold vp_in; decide) dX2_begin_23 (fun w_3 H locs ew_3 hS => ?_)
  have hp := hp w_3 ew_3
  refine lv_aload_n hx hb dX2_begin_24 rfl (lv_at hl 0 rfl) ?_
  refine G_160_4 hC hS m158 dX2_begin_25 ?_
  refine lv_iconst hx hb dX2_begin_28 kI_0 ?_
  refine lv_iconst hx hb dX2_begin_29 kI_0 ?_
  refine Sa_165 hC hS (by unfold vp_in; decide) dX2_begin_30 (fun w_4 H locs ew_4 hS => ?_)
  have hp := hp w_4 ew_4
  refine lv_aload_n hx hb dX2_begin_31 rfl (lv_at hl 0 rfl) ?_
  refine G_160_5 hC hS m159 dX2_begin_32 ?_
  refine lv_iconst hx hb dX2_begin_35 kI_0 ?_
  refine lv_iconst hx hb dX2_begin_36 kI_0 ?_
  refine Sa_166 hC hS (by unfold vp_in; decide) dX2_begin_37 (fun w_5 H locs ew_5 hS => ?_)
  have hp := hp w_5 ew_5
  refine lv_aload_n hx hb dX2_begin_38 rfl (lv_at hl 0 rfl) ?_
  refine lv_iconst hx hb dX2_begin_39 kI_1 ?_
  refine P_160_0 hC hS m234 dX2_begin_40 (fun w_6 H locs ew_6 hS => ?_)
  have hp := hp w_6 ew_6
  refine lv_aload_n hx hb dX2_begin_43 rfl (lv_at hl 0 rfl) ?_
  refine lv_iconst hx hb dX2_begin_44 kI_0 ?_
  refine P_160_6 hC hS m235 dX2_begin_45 (fun w_7 H locs ew_7 hS => ?_)
  have hp := hp w_7 ew_7
  refine lv_aload_n hx hb dX2_begin_48 rfl (lv_at hl 0 rfl) ?_
  refine lv_aload_n hx hb dX2_begin_49 rfl (lv_at hl 1 rfl) ?_
  refine GR_0 hC hS m236 dX2_begin_50 ?_
  refine P_160_10 hC hS m237 dX2_begin_53 (fun w_8 H locs ew_8 hS => ?_)
  have hp := hp w_8 ew_8
  refine lv_aload_n hx hb dX2_begin_56 rfl (lv_at hl 0 rfl) ?_
  refine lv_aload_n hx hb dX2_begin_57 rfl (lv_at hl 1 rfl) ?_
  refine GR_3 hC hS m238 dX2_begin_58 ?_
  refine P_160_11 hC hS m239 dX2_begin_61 (fun w_9 H locs ew_9 hS => ?_)
  have hp := hp w_9 ew_9
  refine lv_aload_n hx hb dX2_begin_64 rfl (lv_at hl 0 rfl) ?_
  refine lv_iconst hx hb dX2_begin_65 kI_0 ?_
  refine P_160_12 hC hS m240 dX2_begin_66 (fun w_10 H locs ew_10 hS => ?_)
  have hp := hp w_10 ew_10
  refine lv_aload_n hx hb dX2_begin_69 rfl (lv_at hl 0 rfl) ?_
  refine lv_aload_n hx hb dX2_begin_70 rfl (lv_at hl 1 rfl) ?_
  refine GR_4 hC hS m241 dX2_begin_71 ?_
  refine P_160_13 hC hS m242 dX2_begin_74 (fun w_11 H locs ew_11 hS => ?_)
  have hp := hp w_11 ew_11
  exact hR _ _ _ _ _ dX2_begin_77 hp hS
def pX10_beginAnew_52 (post : Wd → Prop) : Nat → Int32 → Wd → Prop
  | 0, _, _ => False
  | n + 1, x1, w => ((3 : Int32) ≤ x1 → (post w)) ∧ (¬ (3 : Int32) ≤ x1 → (vp_in x1 3 ∧ ∀ w_2, w_2 = sA w 12 x1.toNatClampNeg (vp_nar .boolean (0 : Int32)) → ∀ x1_3, x1_3 = x1 + (1 : Int32) → pX10_beginAnew_52 post n x1_3 w_2))
def pX10_beginAnew (post : Wd → Prop)  (w : Wd) : Prop := ∀ w_1, w_1 = sI w 0 13 (0 : Int32) → pX1_takeRules (fun w_2 => pX2_begin (fun w_3 => pX0_forget (fun w_4 => ∀ w_5, w_5 = sI w_4 70 0 (0 : Int32) → ∀ w_6, w_6 = sI w_5 110 1 (0 : Int32) → ∃ n9, pX10_beginAnew_52 post n9 (0 : Int32) w_6) w_3) (w_2.2.2.2.2 0) w_2) (w_1.2.2.2.2 0) w_1
set_option maxHeartbeats 4000000 in
set_option maxRecDepth 100000 in
theorem bX10_beginAnew_52 {p : Program} {l : Launch} {e : Env} {s : State} {m : MethodId} {args : Array Value} {below : List Frame} {meth : Method} {c : Code} {Q : State → Prop} {A : Nat → Prop} {g : Gw} {post : Wd → Prop}  (hC : Cx p s m args c cX10_beginAnew RX10 2 g) (hR : RtV tabX p l e (rk 2) s m args below meth c Q cX10_beginAnew A g post)  : ∀ (n : Nat) (x1 : Int32) (w : Wd) (H : Heap) (locs : List Loc) (ls : Array Slot), pX10_beginAnew_52 post n x1 w → St tabX A s.heap g w H locs → lv_has ls 2 [(0, .ref (g.2.2 0)), (1, .int x1)] → W p l e (rk 2) s m args below meth c H locs 0 0 Q (F0 m 52 ls []) := by
  have hx := hC.1
  have hb := hC.2.1
  intro n
  induction n with
  | zero =>
    intro x1 w H locs ls hp hS hl
    exact False.elim hp
  | succ n ih =>
    intro x1 w H locs ls hp hS hl
    unfold pX10_beginAnew_52 at hp
    refine lv_iload_n hx hb dX10_beginAnew_52 rfl (lv_at hl 1 rfl) ?_
    refine lv_aload_n hx hb dX10_beginAnew_53 rfl (lv_at hl 0 rfl) ?_
    refine G_0_11 hC hS m57 dX10_beginAnew_54 ?_
    refine Na_12 hC hS dX10_beginAnew_57 ?_
    refine lv_icmp_ge (tgt := 74) hx hb dX10_beginAnew_58 (by decide) (fun c_1 => ?_) (fun c_1 => ?_)
    · have hp := hp.1 c_1
      exact hR _ _ _ _ _ dX10_beginAnew_74 hp hS
    · have hp := hp.2 c_1
      refine lv_aload_n hx hb dX10_beginAnew_61 rfl (lv_at hl 0 rfl) ?_
      refine G_0_11 hC hS m57 dX10_beginAnew_62 ?_
      refine lv_iload_n hx hb dX10_beginAnew_65 rfl (lv_at hl 1 rfl) ?_
      refine lv_iconst hx hb dX10_beginAnew_66 kI_0 ?_
      refine Sa_12 hC hS hp.1 dX10_beginAnew_67 (fun w_2 H locs ew_2 hS => ?_)
      have hp := hp.2
      have hp := hp w_2 ew_2
      obtain ⟨x1_3, ex1_3⟩ : ∃ y : Int32, y = x1 + (1 : Int32) := ⟨_, rfl⟩
      have hp := hp x1_3 ex1_3
      refine lv_iinc (v := x1_3) (lv' := [(1, .int x1_3), (0, .ref (g.2.2 0))]) hx hb dX10_beginAnew_68 hl (k := 1) rfl (by rw [ex1_3]; rfl) (by decide) rfl (fun ls hl => ?_)
      refine lv_goto (tgt := 52) hx hb dX10_beginAnew_71 (by decide) ?_
      exact ih x1_3 w_2 _ _ _ hp hS (lv_sub hl [1, 0] rfl)
set_option maxHeartbeats 4000000 in
set_option maxRecDepth 100000 in
theorem rX10_beginAnew {l : Launch} {g : Gw} {w : Wd} {post : Wd → Prop}    (hp : pX10_beginAnew post  w) : MtV tabX l yX10_beginAnew cX10_beginAnew 2 none 2 g w [.ref (g.2.2 0)] post := by
  refine q_entV tabX_nd (by decide) rfl (Nat.le_of_ble_eq_true rfl) ?_
  intro p e s m args below meth c A Q ls hC hR hS hl
  have hx := hC.1
  have hb := hC.2.1
  have hl : lv_has ls 2 [(0, .ref (g.2.2 0))] := hl
  unfold pX10_beginAnew at hp
  refine lv_aload_n hx hb dX10_beginAnew_0 rfl (lv_at hl 0 rfl) ?_
  refine lv_iconst hx hb dX10_beginAnew_1 kI_0 ?_
  refine P_0_13 hC hS m222 dX10_beginAnew_2 (fun w_1 H locs ew_1 hS => ?_)
  have hp := hp w_1 ew_1
  refine lv_aload_n hx hb dX10_beginAnew_5 rfl (lv_at hl 0 rfl) ?_
  refine G_0_4 hC hS m34 dX10_beginAnew_6 ?_
  refine lv_aload_n hx hb dX10_beginAnew_9 rfl (lv_at hl 0 rfl) ?_
  refine G_0_16 hC hS m21 dX10_beginAnew_10 ?_
  refine q_cvV (As := [.ref (g.2.2 (rl (w_1.2.2.2.2 0)))]) (rest := []) hC hS hl.1 (rX1_takeRules hp) cwX10_135 yvX1_takeRules (rcv_40 hC hS) rfl rfl (Nat.le_of_ble_eq_true rfl) (rmk (by decide) (by decide)) dX10_beginAnew_13 (fun w_2 H locs hp hS => ?_)
  refine lv_aload_n hx hb dX10_beginAnew_16 rfl (lv_at hl 0 rfl) ?_
  refine G_0_3 hC hS m30 dX10_beginAnew_17 ?_
  refine lv_aload_n hx hb dX10_beginAnew_20 rfl (lv_at hl 0 rfl) ?_
  refine G_0_16 hC hS m21 dX10_beginAnew_21 ?_
  refine q_cvV (As := [.ref (g.2.2 (rl (w_2.2.2.2.2 0)))]) (rest := []) hC hS hl.1 (rX2_begin hp) cwX10_139 yvX2_begin (rcv_160 hC hS) rfl rfl (Nat.le_of_ble_eq_true rfl) (rmk (by decide) (by decide)) dX10_beginAnew_24 (fun w_3 H locs hp hS => ?_)
  refine lv_aload_n hx hb dX10_beginAnew_27 rfl (lv_at hl 0 rfl) ?_
  refine G_0_5 hC hS m38 dX10_beginAnew_28 ?_
  refine q_cvV (As := []) (rest := []) hC hS hl.1 (rX0_forget hp) cwX10_142 yvX0_forget (rcv_50 hC hS) rfl rfl (Nat.le_of_ble_eq_true rfl) (rmk (by decide) (by decide)) dX10_beginAnew_31 (fun w_4 H locs hp hS => ?_)
  refine lv_aload_n hx hb dX10_beginAnew_34 rfl (lv_at hl 0 rfl) ?_
  refine G_0_7 hC hS m46 dX10_beginAnew_35 ?_
  refine lv_iconst hx hb dX10_beginAnew_38 kI_0 ?_
  refine P_70_0 hC hS m223 dX10_beginAnew_39 (fun w_5 H locs ew_5 hS => ?_)
  have hp := hp w_5 ew_5
  refine lv_aload_n hx hb dX10_beginAnew_42 rfl (lv_at hl 0 rfl) ?_
  refine G_0_9 hC hS m54 dX10_beginAnew_43 ?_
  refine lv_iconst hx hb dX10_beginAnew_46 kI_0 ?_
  refine P_110_1 hC hS m224 dX10_beginAnew_47 (fun w_6 H locs ew_6 hS => ?_)
  have hp := hp w_6 ew_6
  refine lv_iconst hx hb dX10_beginAnew_50 kI_0 ?_
  refine lv_istore_n (lv' := [(1, .int (0 : Int32)), (0, .ref (g.2.2 0))]) hx hb dX10_beginAnew_51 rfl hl (by decide) rfl (fun ls hl => ?_)
  obtain ⟨n9, hp⟩ := hp
  exact bX10_beginAnew_52 hC hR n9 (0 : Int32) w_6 _ _ _ hp hS (lv_sub hl [1, 0] rfl)
def pX6_fail_22 (post : Wd → Prop) (t1 : Int32) (w : Wd) : Prop := ∀ w_1, w_1 = sI w 30 2 t1 → ((w_1.1 30 4) < 0 → (∀ w_3, w_3 = sI w_1 30 3 (-1 : Int32) → post w_3)) ∧ (¬ (w_1.1 30 4) < 0 → (((w_1.1 20 3) ≤ (w_1.1 30 4) → (∀ w_5, w_5 = sI w_1 30 3 (-1 : Int32) → post w_5)) ∧ (¬ (w_1.1 20 3) ≤ (w_1.1 30 4) → (vp_in (w_1.1 30 4) 1602 ∧ ∀ w_6, w_6 = sI w_1 30 3 (w_1.2.1 22 (w_1.1 30 4).toNatClampNeg) → post w_6))))
def pX6_fail (post : Wd → Prop) (x1 : Int32) (w : Wd) : Prop := (¬ (w.1 30 2) = 0 → (post w)) ∧ ((w.1 30 2) = 0 → ((¬ (w.1 30 5) = (23 : Int32) → (pX6_fail_22 post x1 w)) ∧ ((w.1 30 5) = (23 : Int32) → (pX6_fail_22 post (1 : Int32) w))))
set_option maxHeartbeats 4000000 in
set_option maxRecDepth 100000 in
theorem bX6_fail_22 {p : Program} {l : Launch} {e : Env} {s : State} {m : MethodId} {args : Array Value} {below : List Frame} {meth : Method} {c : Code} {Q : State → Prop} {A : Nat → Prop} {g : Gw} {post : Wd → Prop}  (hC : Cx p s m args c cX6_fail RX6 2 g) (hR : RtV tabX p l e (rk 1) s m args below meth c Q cX6_fail A g post)  : ∀ (t1 : Int32) (w : Wd) (H : Heap) (locs : List Loc) (ls : Array Slot), pX6_fail_22 post t1 w → St tabX A s.heap g w H locs → lv_has ls 2 [(0, .ref (g.2.2 30))] → W p l e (rk 1) s m args below meth c H locs 0 0 Q (F0 m 22 ls [.int t1, .ref (g.2.2 30)]) := by
  have hx := hC.1
  have hb := hC.2.1
  intro t1 w H locs ls hp hS hl
  unfold pX6_fail_22 at hp
  refine P_30_2 hC hS m383 dX6_fail_22 (fun w_1 H locs ew_1 hS => ?_)
  have hp := hp w_1 ew_1
  refine lv_aload_n hx hb dX6_fail_25 rfl (lv_at hl 0 rfl) ?_
  refine lv_aload_n hx hb dX6_fail_26 rfl (lv_at hl 0 rfl) ?_
  refine G_30_4 hC hS m386 dX6_fail_27 ?_
  refine lv_if_lt (tgt := 62) hx hb dX6_fail_30 (by decide) (fun c_2 => ?_) (fun c_2 => ?_)
  · have hp := hp.1 c_2
    refine lv_iconst hx hb dX6_fail_62 kI_m1 ?_
    refine P_30_3 hC hS m384 dX6_fail_63 (fun w_3 H locs ew_3 hS => ?_)
    have hp := hp w_3 ew_3
    exact hR _ _ _ _ _ dX6_fail_66 hp hS
  · have hp := hp.2 c_2
    refine lv_aload_n hx hb dX6_fail_33 rfl (lv_at hl 0 rfl) ?_
    refine G_30_4 hC hS m386 dX6_fail_34 ?_
    refine lv_aload_n hx hb dX6_fail_37 rfl (lv_at hl 0 rfl) ?_
    refine G_30_0 hC hS m149 dX6_fail_38 ?_
    refine G_20_3 hC hS m393 dX6_fail_41 ?_
    refine lv_icmp_ge (tgt := 62) hx hb dX6_fail_44 (by decide) (fun c_4 => ?_) (fun c_4 => ?_)
    · have hp := hp.1 c_4
      refine lv_iconst hx hb dX6_fail_62 kI_m1 ?_
      refine P_30_3 hC hS m384 dX6_fail_63 (fun w_5 H locs ew_5 hS => ?_)
      have hp := hp w_5 ew_5
      exact hR _ _ _ _ _ dX6_fail_66 hp hS
    · have hp := hp.2 c_4
      refine lv_aload_n hx hb dX6_fail_47 rfl (lv_at hl 0 rfl) ?_
      refine G_30_0 hC hS m149 dX6_fail_48 ?_
      refine G_20_1 hC hS m413 dX6_fail_51 ?_
      refine lv_aload_n hx hb dX6_fail_54 rfl (lv_at hl 0 rfl) ?_
      refine G_30_4 hC hS m386 dX6_fail_55 ?_
      refine La_22 hC hS hp.1 dX6_fail_58 ?_
      have hp := hp.2
      refine lv_goto (tgt := 63) hx hb dX6_fail_59 (by decide) ?_
      refine P_30_3 hC hS m384 dX6_fail_63 (fun w_6 H locs ew_6 hS => ?_)
      have hp := hp w_6 ew_6
      exact hR _ _ _ _ _ dX6_fail_66 hp hS
set_option maxHeartbeats 4000000 in
set_option maxRecDepth 100000 in
theorem rX6_fail {l : Launch} {g : Gw} {w : Wd} {post : Wd → Prop}   {x1 : Int32} (hp : pX6_fail post x1 w) : MtV tabX l yX6_fail cX6_fail 2 none 1 g w [.ref (g.2.2 30), .int x1] post := by
  refine q_entV tabX_nd (by decide) rfl (Nat.le_of_ble_eq_true rfl) ?_
  intro p e s m args below meth c A Q ls hC hR hS hl
  have hx := hC.1
  have hb := hC.2.1
  have hl : lv_has ls 2 [(0, .ref (g.2.2 30)), (1, .int x1)] := hl
  unfold pX6_fail at hp
  refine lv_aload_n hx hb dX6_fail_0 rfl (lv_at hl 0 rfl) ?_
  refine G_30_2 hC hS m383 dX6_fail_1 ?_
  refine lv_if_ne (tgt := 66) hx hb dX6_fail_4 (by decide) (fun c_1 => ?_) (fun c_1 => ?_)
  · have hp := hp.1 c_1
    exact hR _ _ _ _ _ dX6_fail_66 hp hS
  · have hp := hp.2 c_1
    refine lv_aload_n hx hb dX6_fail_7 rfl (lv_at hl 0 rfl) ?_
    refine lv_aload_n hx hb dX6_fail_8 rfl (lv_at hl 0 rfl) ?_
    refine G_30_5 hC hS m387 dX6_fail_9 ?_
    refine lv_bipush hx hb dX6_fail_12 kB_23 ?_
    refine lv_icmp_ne (tgt := 21) hx hb dX6_fail_14 (by decide) (fun c_2 => ?_) (fun c_2 => ?_)
    · have hp := hp.1 c_2
      refine lv_iload_n hx hb dX6_fail_21 rfl (lv_at hl 1 rfl) ?_
      exact bX6_fail_22 hC hR x1 w _ _ _ hp hS (lv_sub hl [0] rfl)
    · have hp := hp.2 c_2
      refine lv_iconst hx hb dX6_fail_17 kI_1 ?_
      refine lv_goto (tgt := 22) hx hb dX6_fail_18 (by decide) ?_
      exact bX6_fail_22 hC hR (1 : Int32) w _ _ _ hp hS (lv_sub hl [0] rfl)
def pX6_take_59 (post : Wd → Prop) (x1 : Int32) (t1 : Int32) (w : Wd) : Prop := ∀ w_1, w_1 = sI w 30 5 t1 → (x1 = 0 → (∀ w_3, w_3 = sJ w_1 30 6 (0 : Int64) → post w_3)) ∧ (¬ x1 = 0 → (vp_in (w_1.1 30 4) 1602 ∧ ∀ w_4, w_4 = sJ w_1 30 6 (w_1.2.2.2.1 23 (w_1.1 30 4).toNatClampNeg) → post w_4))
def pX6_take_36 (post : Wd → Prop) (t0 : Int32) (w : Wd) : Prop := (t0 = 0 → (pX6_take_59 post t0 (22 : Int32) w)) ∧ (¬ t0 = 0 → (vp_in (w.1 30 4) 1602 ∧ pX6_take_59 post t0 (w.2.1 21 (w.1 30 4).toNatClampNeg) w))
def pX6_take_35 (post : Wd → Prop)  (w : Wd) : Prop := pX6_take_36 post (0 : Int32) w
def pX6_take (post : Wd → Prop)  (w : Wd) : Prop := ∀ w_1, w_1 = sI w 30 4 ((w.1 30 4) + (1 : Int32)) → ((w_1.1 30 4) < 0 → (pX6_take_35 post  w_1)) ∧ (¬ (w_1.1 30 4) < 0 → (((w_1.1 20 3) ≤ (w_1.1 30 4) → (pX6_take_35 post  w_1)) ∧ (¬ (w_1.1 20 3) ≤ (w_1.1 30 4) → (pX6_take_36 post (1 : Int32) w_1))))
set_option maxHeartbeats 4000000 in
set_option maxRecDepth 100000 in
theorem bX6_take_59 {p : Program} {l : Launch} {e : Env} {s : State} {m : MethodId} {args : Array Value} {below : List Frame} {meth : Method} {c : Code} {Q : State → Prop} {A : Nat → Prop} {g : Gw} {post : Wd → Prop}  (hC : Cx p s m args c cX6_take RX6 2 g) (hR : RtV tabX p l e (rk 1) s m args below meth c Q cX6_take A g post)  : ∀ (x1 : Int32) (t1 : Int32) (w : Wd) (H : Heap) (locs : List Loc) (ls : Array Slot), pX6_take_59 post x1 t1 w → St tabX A s.heap g w H locs → lv_has ls 2 [(0, .ref (g.2.2 30)), (1, .int x1)] → W p l e (rk 1) s m args below meth c H locs 0 0 Q (F0 m 59 ls [.int t1, .ref (g.2.2 30)]) := by
  have hx := hC.1
  have hb := hC.2.1
  intro x1 t1 w H locs ls hp hS hl
  unfold pX6_take_59 at hp
  refine P_30_5 hC hS m387 dX6_take_59 (fun w_1 H locs ew_1 hS => ?_)
  have hp := hp w_1 ew_1
  refine lv_aload_n hx hb dX6_take_62 rfl (lv_at hl 0 rfl) ?_
  refine lv_iload_n hx hb dX6_take_63 rfl (lv_at hl 1 rfl) ?_
  refine lv_if_eq (tgt := 82) hx hb dX6_take_64 (by decide) (fun c_2 => ?_) (fun c_2 => ?_)
  · have hp := hp.1 c_2
    refine lv_lconst hx hb dX6_take_82 kL_0 ?_
    refine P_30_6 hC hS m396 dX6_take_83 (fun w_3 H locs ew_3 hS => ?_)
    have hp := hp w_3 ew_3
    exact hR _ _ _ _ _ dX6_take_86 hp hS
  · have hp := hp.2 c_2
    refine lv_aload_n hx hb dX6_take_67 rfl (lv_at hl 0 rfl) ?_
    refine G_30_0 hC hS m149 dX6_take_68 ?_
    refine G_20_2 hC hS m395 dX6_take_71 ?_
    refine lv_aload_n hx hb dX6_take_74 rfl (lv_at hl 0 rfl) ?_
    refine G_30_4 hC hS m386 dX6_take_75 ?_
    refine La_23 hC hS hp.1 dX6_take_78 ?_
    have hp := hp.2
    refine lv_goto (tgt := 83) hx hb dX6_take_79 (by decide) ?_
    refine P_30_6 hC hS m396 dX6_take_83 (fun w_4 H locs ew_4 hS => ?_)
    have hp := hp w_4 ew_4
    exact hR _ _ _ _ _ dX6_take_86 hp hS
set_option maxHeartbeats 4000000 in
set_option maxRecDepth 100000 in
theorem bX6_take_36 {p : Program} {l : Launch} {e : Env} {s : State} {m : MethodId} {args : Array Value} {below : List Frame} {meth : Method} {c : Code} {Q : State → Prop} {A : Nat → Prop} {g : Gw} {post : Wd → Prop}  (hC : Cx p s m args c cX6_take RX6 2 g) (hR : RtV tabX p l e (rk 1) s m args below meth c Q cX6_take A g post)  : ∀ (t0 : Int32) (w : Wd) (H : Heap) (locs : List Loc) (ls : Array Slot), pX6_take_36 post t0 w → St tabX A s.heap g w H locs → lv_has ls 2 [(0, .ref (g.2.2 30))] → W p l e (rk 1) s m args below meth c H locs 0 0 Q (F0 m 36 ls [.int t0]) := by
  have hx := hC.1
  have hb := hC.2.1
  intro t0 w H locs ls hp hS hl
  unfold pX6_take_36 at hp
  refine lv_istore_n (lv' := [(1, .int t0), (0, .ref (g.2.2 30))]) hx hb dX6_take_36 rfl hl (by decide) rfl (fun ls hl => ?_)
  refine lv_aload_n hx hb dX6_take_37 rfl (lv_at hl 1 rfl) ?_
  refine lv_iload_n hx hb dX6_take_38 rfl (lv_at hl 0 rfl) ?_
  refine lv_if_eq (tgt := 57) hx hb dX6_take_39 (by decide) (fun c_1 => ?_) (fun c_1 => ?_)
  · have hp := hp.1 c_1
    refine lv_bipush hx hb dX6_take_57 kB_22 ?_
    exact bX6_take_59 hC hR t0 (22 : Int32) w _ _ _ hp hS (lv_sub hl [1, 0] rfl)
  · have hp := hp.2 c_1
    refine lv_aload_n hx hb dX6_take_42 rfl (lv_at hl 1 rfl) ?_
    refine G_30_0 hC hS m149 dX6_take_43 ?_
    refine G_20_0 hC hS m394 dX6_take_46 ?_
    refine lv_aload_n hx hb dX6_take_49 rfl (lv_at hl 1 rfl) ?_
    refine G_30_4 hC hS m386 dX6_take_50 ?_
    refine La_21 hC hS hp.1 dX6_take_53 ?_
    have hp := hp.2
    refine lv_goto (tgt := 59) hx hb dX6_take_54 (by decide) ?_
    exact bX6_take_59 hC hR t0 (w.2.1 21 (w.1 30 4).toNatClampNeg) w _ _ _ hp hS (lv_sub hl [1, 0] rfl)
set_option maxHeartbeats 4000000 in
set_option maxRecDepth 100000 in
theorem bX6_take_35 {p : Program} {l : Launch} {e : Env} {s : State} {m : MethodId} {args : Array Value} {below : List Frame} {meth : Method} {c : Code} {Q : State → Prop} {A : Nat → Prop} {g : Gw} {post : Wd → Prop}  (hC : Cx p s m args c cX6_take RX6 2 g) (hR : RtV tabX p l e (rk 1) s m args below meth c Q cX6_take A g post)  : ∀  (w : Wd) (H : Heap) (locs : List Loc) (ls : Array Slot), pX6_take_35 post  w → St tabX A s.heap g w H locs → lv_has ls 2 [(0, .ref (g.2.2 30))] → W p l e (rk 1) s m args below meth c H locs 0 0 Q (F0 m 35 ls []) := by
  have hx := hC.1
  have hb := hC.2.1
  intro  w H locs ls hp hS hl
  unfold pX6_take_35 at hp
  refine lv_iconst hx hb dX6_take_35 kI_0 ?_
  exact bX6_take_36 hC hR (0 : Int32) w _ _ _ hp hS (lv_sub hl [0] rfl)
set_option maxHeartbeats 4000000 in
set_option maxRecDepth 100000 in
theorem rX6_take {l : Launch} {g : Gw} {w : Wd} {post : Wd → Prop}    (hp : pX6_take post  w) : MtV tabX l yX6_take cX6_take 2 none 1 g w [.ref (g.2.2 30)] post := by
  refine q_entV tabX_nd (by decide) rfl (Nat.le_of_ble_eq_true rfl) ?_
  intro p e s m args below meth c A Q ls hC hR hS hl
  have hx := hC.1
  have hb := hC.2.1
  have hl : lv_has ls 2 [(0, .ref (g.2.2 30))] := hl
  unfold pX6_take at hp
  refine lv_aload_n hx hb dX6_take_0 rfl (lv_at hl 0 rfl) ?_
  refine lv_dup hx hb dX6_take_1 rfl ?_
  refine G_30_4 hC hS m386 dX6_take_2 ?_
  refine lv_iconst hx hb dX6_take_5 kI_1 ?_
  refine lv_iadd hx hb dX6_take_6 ?_
  refine P_30_4 hC hS m386 dX6_take_7 (fun w_1 H locs ew_1 hS => ?_)
  have hp := hp w_1 ew_1
  refine lv_aload_n hx hb dX6_take_10 rfl (lv_at hl 0 rfl) ?_
  refine G_30_4 hC hS m386 dX6_take_11 ?_
  refine lv_if_lt (tgt := 35) hx hb dX6_take_14 (by decide) (fun c_2 => ?_) (fun c_2 => ?_)
  · have hp := hp.1 c_2
    exact bX6_take_35 hC hR  w_1 _ _ _ hp hS (lv_sub hl [0] rfl)
  · have hp := hp.2 c_2
    refine lv_aload_n hx hb dX6_take_17 rfl (lv_at hl 0 rfl) ?_
    refine G_30_4 hC hS m386 dX6_take_18 ?_
    refine lv_aload_n hx hb dX6_take_21 rfl (lv_at hl 0 rfl) ?_
    refine G_30_0 hC hS m149 dX6_take_22 ?_
    refine G_20_3 hC hS m393 dX6_take_25 ?_
    refine lv_icmp_ge (tgt := 35) hx hb dX6_take_28 (by decide) (fun c_3 => ?_) (fun c_3 => ?_)
    · have hp := hp.1 c_3
      exact bX6_take_35 hC hR  w_1 _ _ _ hp hS (lv_sub hl [0] rfl)
    · have hp := hp.2 c_3
      refine lv_iconst hx hb dX6_take_31 kI_1 ?_
      refine lv_goto (tgt := 36) hx hb dX6_take_32 (by decide) ?_
      exact bX6_take_36 hC hR (1 : Int32) w_1 _ _ _ hp hS (lv_sub hl [0] rfl)
def pX6_expect (post : Wd → Prop) (x1 : Int32) (w : Wd) : Prop := (¬ (w.1 30 2) = 0 → (pX6_fail (fun w_2 => post w_2) (2 : Int32) w)) ∧ ((w.1 30 2) = 0 → ((¬ (w.1 30 5) = x1 → (pX6_fail (fun w_4 => post w_4) (2 : Int32) w)) ∧ ((w.1 30 5) = x1 → (pX6_take (fun w_5 => post w_5) w))))
set_option maxHeartbeats 4000000 in
set_option maxRecDepth 100000 in
theorem rX6_expect {l : Launch} {g : Gw} {w : Wd} {post : Wd → Prop}   {x1 : Int32} (hp : pX6_expect post x1 w) : MtV tabX l yX6_expect cX6_expect 2 none 2 g w [.ref (g.2.2 30), .int x1] post := by
  refine q_entV tabX_nd (by decide) rfl (Nat.le_of_ble_eq_true rfl) ?_
  intro p e s m args below meth c A Q ls hC hR hS hl
  have hx := hC.1
  have hb := hC.2.1
  have hl : lv_has ls 2 [(0, .ref (g.2.2 30)), (1, .int x1)] := hl
  unfold pX6_expect at hp
  refine lv_aload_n hx hb dX6_expect_0 rfl (lv_at hl 0 rfl) ?_
  refine G_30_2 hC hS m383 dX6_expect_1 ?_
  refine lv_if_ne (tgt := 22) hx hb dX6_expect_4 (by decide) (fun c_1 => ?_) (fun c_1 => ?_)
  · have hp := hp.1 c_1
    refine lv_aload_n hx hb dX6_expect_22 rfl (lv_at hl 0 rfl) ?_
    refine lv_iconst hx hb dX6_expect_23 kI_2 ?_
    refine q_cvV (As := [.int (2 : Int32)]) (rest := []) hC hS hl.1 (rX6_fail hp) cwX6_50 yvX6_fail (rcv_30 hC hS) rfl rfl (Nat.le_of_ble_eq_true rfl) (rmk (by decide) (by decide)) dX6_expect_24 (fun w_2 H locs hp hS => ?_)
    exact hR _ _ _ _ _ dX6_expect_27 hp hS
  · have hp := hp.2 c_1
    refine lv_aload_n hx hb dX6_expect_7 rfl (lv_at hl 0 rfl) ?_
    refine G_30_5 hC hS m387 dX6_expect_8 ?_
    refine lv_iload_n hx hb dX6_expect_11 rfl (lv_at hl 1 rfl) ?_
    refine lv_icmp_ne (tgt := 22) hx hb dX6_expect_12 (by decide) (fun c_3 => ?_) (fun c_3 => ?_)
    · have hp := hp.1 c_3
      refine lv_aload_n hx hb dX6_expect_22 rfl (lv_at hl 0 rfl) ?_
      refine lv_iconst hx hb dX6_expect_23 kI_2 ?_
      refine q_cvV (As := [.int (2 : Int32)]) (rest := []) hC hS hl.1 (rX6_fail hp) cwX6_50 yvX6_fail (rcv_30 hC hS) rfl rfl (Nat.le_of_ble_eq_true rfl) (rmk (by decide) (by decide)) dX6_expect_24 (fun w_4 H locs hp hS => ?_)
      exact hR _ _ _ _ _ dX6_expect_27 hp hS
    · have hp := hp.2 c_3
      refine lv_aload_n hx hb dX6_expect_15 rfl (lv_at hl 0 rfl) ?_
      refine q_cvV (As := []) (rest := []) hC hS hl.1 (rX6_take hp) cwX6_37 yvX6_take (rcv_30 hC hS) rfl rfl (Nat.le_of_ble_eq_true rfl) (rmk (by decide) (by decide)) dX6_expect_16 (fun w_5 H locs hp hS => ?_)
      refine lv_goto (tgt := 27) hx hb dX6_expect_19 (by decide) ?_
      exact hR _ _ _ _ _ dX6_expect_27 hp hS
def pX6_mayBegin (post : Int32 → Wd → Prop) (x1 : Int32) (w : Wd) : Prop := (x1.toInt < 7 ∨ 13 < x1.toInt → (post (0 : Int32) w)) ∧ (x1.toInt = 7 → ((¬ (((w.1 30 7) >>> (x1 &&& 31)) &&& (1 : Int32)) = 0 → (post (0 : Int32) w)) ∧ ((((w.1 30 7) >>> (x1 &&& 31)) &&& (1 : Int32)) = 0 → (post (1 : Int32) w)))) ∧ (x1.toInt = 8 → ((¬ (w.1 30 7) = 0 → (post (0 : Int32) w)) ∧ ((w.1 30 7) = 0 → (post (1 : Int32) w)))) ∧ (x1.toInt = 9 → ((¬ (((w.1 30 7) >>> (x1 &&& 31)) &&& (1 : Int32)) = 0 → (post (0 : Int32) w)) ∧ ((((w.1 30 7) >>> (x1 &&& 31)) &&& (1 : Int32)) = 0 → (post (1 : Int32) w)))) ∧ (x1.toInt = 10 → (((4 : Int32) ≤ (w.1 (rl (w.2.2.2.2 2)) 2) → (post (0 : Int32) w)) ∧ (¬ (4 : Int32) ≤ (w.1 (rl (w.2.2.2.2 2)) 2) → (post (1 : Int32) w)))) ∧ (x1.toInt = 11 → (post (0 : Int32) w)) ∧ (x1.toInt = 12 → (post (0 : Int32) w)) ∧ (x1.toInt = 13 → ((¬ (((w.1 30 7) >>> (x1 &&& 31)) &&& (1 : Int32)) = 0 → (post (0 : Int32) w)) ∧ ((((w.1 30 7) >>> (x1 &&& 31)) &&& (1 : Int32)) = 0 → (post (1 : Int32) w))))
set_option maxHeartbeats 4000000 in
set_option maxRecDepth 100000 in
theorem rX6_mayBegin {l : Launch} {g : Gw} {w : Wd} {post : Int32 → Wd → Prop}   {x1 : Int32} (hp : pX6_mayBegin post x1 w) : MtI tabX l yX6_mayBegin cX6_mayBegin 2 (some .boolean) 1 g w [.ref (g.2.2 30), .int x1] post := by
  refine q_entZ tabX_nd (by decide) rfl (Nat.le_of_ble_eq_true rfl) ?_
  intro p e s m args below meth c A Q ls hC hR hS hl
  have hx := hC.1
  have hb := hC.2.1
  have hl : lv_has ls 2 [(0, .ref (g.2.2 30)), (1, .int x1)] := hl
  unfold pX6_mayBegin at hp
  refine lv_iload_n hx hb dX6_mayBegin_0 rfl (lv_at hl 1 rfl) ?_
  by_cases c_1 : x1.toInt < 7 ∨ 13 < x1.toInt
  · have hp := hp.1 c_1
    refine lv_tableOut (tgt := 91) hx hb dX6_mayBegin_1 c_1 (by decide) ?_
    refine lv_iconst hx hb dX6_mayBegin_91 kI_0 ?_
    exact hR _ _ _ _ _ _ dX6_mayBegin_92 (by decide) hp hS
  · have hp := hp.2
    have c_11 : ¬ x1.toInt < 7 := fun z => c_1 (Or.inl z)
    have c_12 : ¬ 13 < x1.toInt := fun z => c_1 (Or.inr z)
    rcases (show x1.toInt = 7 ∨ x1.toInt = 8 ∨ x1.toInt = 9 ∨ x1.toInt = 10 ∨ x1.toInt = 11 ∨ x1.toInt = 12 ∨ x1.toInt = 13 by omega) with c_13 | c_13 | c_13 | c_13 | c_13 | c_13 | c_13
    · have hp := hp.1 c_13
      refine lv_tableIn (tgt := 74) hx hb dX6_mayBegin_1 c_11 c_12 (by rw [c_13]; rfl) (by decide) ?_
      refine lv_aload_n hx hb dX6_mayBegin_74 rfl (lv_at hl 0 rfl) ?_
      refine G_30_7 hC hS m385 dX6_mayBegin_75 ?_
      refine lv_iload_n hx hb dX6_mayBegin_78 rfl (lv_at hl 1 rfl) ?_
      refine lv_ishr hx hb dX6_mayBegin_79 ?_
      refine lv_iconst hx hb dX6_mayBegin_80 kI_1 ?_
      refine lv_iand hx hb dX6_mayBegin_81 ?_
      refine lv_if_ne (tgt := 89) hx hb dX6_mayBegin_82 (by decide) (fun c_2 => ?_) (fun c_2 => ?_)
      · have hp := hp.1 c_2
        refine lv_iconst hx hb dX6_mayBegin_89 kI_0 ?_
        exact hR _ _ _ _ _ _ dX6_mayBegin_90 (by decide) hp hS
      · have hp := hp.2 c_2
        refine lv_iconst hx hb dX6_mayBegin_85 kI_1 ?_
        refine lv_goto (tgt := 90) hx hb dX6_mayBegin_86 (by decide) ?_
        exact hR _ _ _ _ _ _ dX6_mayBegin_90 (by decide) hp hS
    · have hp := hp.2.1 c_13
      refine lv_tableIn (tgt := 44) hx hb dX6_mayBegin_1 c_11 c_12 (by rw [c_13]; rfl) (by decide) ?_
      refine lv_aload_n hx hb dX6_mayBegin_44 rfl (lv_at hl 0 rfl) ?_
      refine G_30_7 hC hS m385 dX6_mayBegin_45 ?_
      refine lv_if_ne (tgt := 55) hx hb dX6_mayBegin_48 (by decide) (fun c_3 => ?_) (fun c_3 => ?_)
      · have hp := hp.1 c_3
        refine lv_iconst hx hb dX6_mayBegin_55 kI_0 ?_
        exact hR _ _ _ _ _ _ dX6_mayBegin_56 (by decide) hp hS
      · have hp := hp.2 c_3
        refine lv_iconst hx hb dX6_mayBegin_51 kI_1 ?_
        refine lv_goto (tgt := 56) hx hb dX6_mayBegin_52 (by decide) ?_
        exact hR _ _ _ _ _ _ dX6_mayBegin_56 (by decide) hp hS
    · have hp := hp.2.2.1 c_13
      refine lv_tableIn (tgt := 74) hx hb dX6_mayBegin_1 c_11 c_12 (by rw [c_13]; rfl) (by decide) ?_
      refine lv_aload_n hx hb dX6_mayBegin_74 rfl (lv_at hl 0 rfl) ?_
      refine G_30_7 hC hS m385 dX6_mayBegin_75 ?_
      refine lv_iload_n hx hb dX6_mayBegin_78 rfl (lv_at hl 1 rfl) ?_
      refine lv_ishr hx hb dX6_mayBegin_79 ?_
      refine lv_iconst hx hb dX6_mayBegin_80 kI_1 ?_
      refine lv_iand hx hb dX6_mayBegin_81 ?_
      refine lv_if_ne (tgt := 89) hx hb dX6_mayBegin_82 (by decide) (fun c_4 => ?_) (fun c_4 => ?_)
      · have hp := hp.1 c_4
        refine lv_iconst hx hb dX6_mayBegin_89 kI_0 ?_
        exact hR _ _ _ _ _ _ dX6_mayBegin_90 (by decide) hp hS
      · have hp := hp.2 c_4
        refine lv_iconst hx hb dX6_mayBegin_85 kI_1 ?_
        refine lv_goto (tgt := 90) hx hb dX6_mayBegin_86 (by decide) ?_
        exact hR _ _ _ _ _ _ dX6_mayBegin_90 (by decide) hp hS
    · have hp := hp.2.2.2.1 c_13
      refine lv_tableIn (tgt := 57) hx hb dX6_mayBegin_1 c_11 c_12 (by rw [c_13]; rfl) (by decide) ?_
      refine lv_aload_n hx hb dX6_mayBegin_57 rfl (lv_at hl 0 rfl) ?_
      refine G_30_1 hC hS m150 dX6_mayBegin_58 ?_
      refine GR_2 hC hS m408 dX6_mayBegin_61 ?_
      refine lv_iconst hx hb dX6_mayBegin_64 kI_4 ?_
      refine lv_icmp_ge (tgt := 72) hx hb dX6_mayBegin_65 (by decide) (fun c_5 => ?_) (fun c_5 => ?_)
      · have hp := hp.1 c_5
        refine lv_iconst hx hb dX6_mayBegin_72 kI_0 ?_
        exact hR _ _ _ _ _ _ dX6_mayBegin_73 (by decide) hp hS
      · have hp := hp.2 c_5
        refine lv_iconst hx hb dX6_mayBegin_68 kI_1 ?_
        refine lv_goto (tgt := 73) hx hb dX6_mayBegin_69 (by decide) ?_
        exact hR _ _ _ _ _ _ dX6_mayBegin_73 (by decide) hp hS
    · have hp := hp.2.2.2.2.1 c_13
      refine lv_tableIn (tgt := 91) hx hb dX6_mayBegin_1 c_11 c_12 (by rw [c_13]; rfl) (by decide) ?_
      refine lv_iconst hx hb dX6_mayBegin_91 kI_0 ?_
      exact hR _ _ _ _ _ _ dX6_mayBegin_92 (by decide) hp hS
    · have hp := hp.2.2.2.2.2.1 c_13
      refine lv_tableIn (tgt := 91) hx hb dX6_mayBegin_1 c_11 c_12 (by rw [c_13]; rfl) (by decide) ?_
      refine lv_iconst hx hb dX6_mayBegin_91 kI_0 ?_
      exact hR _ _ _ _ _ _ dX6_mayBegin_92 (by decide) hp hS
    · have hp := hp.2.2.2.2.2.2 c_13
      refine lv_tableIn (tgt := 74) hx hb dX6_mayBegin_1 c_11 c_12 (by rw [c_13]; rfl) (by decide) ?_
      refine lv_aload_n hx hb dX6_mayBegin_74 rfl (lv_at hl 0 rfl) ?_
      refine G_30_7 hC hS m385 dX6_mayBegin_75 ?_
      refine lv_iload_n hx hb dX6_mayBegin_78 rfl (lv_at hl 1 rfl) ?_
      refine lv_ishr hx hb dX6_mayBegin_79 ?_
      refine lv_iconst hx hb dX6_mayBegin_80 kI_1 ?_
      refine lv_iand hx hb dX6_mayBegin_81 ?_
      refine lv_if_ne (tgt := 89) hx hb dX6_mayBegin_82 (by decide) (fun c_6 => ?_) (fun c_6 => ?_)
      · have hp := hp.1 c_6
        refine lv_iconst hx hb dX6_mayBegin_89 kI_0 ?_
        exact hR _ _ _ _ _ _ dX6_mayBegin_90 (by decide) hp hS
      · have hp := hp.2 c_6
        refine lv_iconst hx hb dX6_mayBegin_85 kI_1 ?_
        refine lv_goto (tgt := 90) hx hb dX6_mayBegin_86 (by decide) ?_
        exact hR _ _ _ _ _ _ dX6_mayBegin_90 (by decide) hp hS
def pX6_readNumber_38 (post : Int32 → Wd → Prop) (x1 : Int32) (x3 : Int32) (w : Wd) : Prop := ((w.1 30 2) = 0 → (pX6_take (fun w_2 => post x3 w_2) w)) ∧ (¬ (w.1 30 2) = 0 → (post x1 w))
def pX6_readNumber_33 (post : Int32 → Wd → Prop) (x1 : Int32) (x3 : Int32) (w : Wd) : Prop := pX6_fail (fun w_1 => pX6_readNumber_38 post x1 x3 w_1) (4 : Int32) w
def pX6_readNumber (post : Int32 → Wd → Prop) (x1 : Int32) (x2 : Int32) (w : Wd) : Prop := ∀ x3_1, x3_1 = ((w.2.2.1 30 6)).toInt32 → ((w.1 30 5) = (21 : Int32) → ((x3_1 < x1 → (pX6_readNumber_33 post x1 x3_1 w)) ∧ (¬ x3_1 < x1 → ((x3_1 ≤ x2 → (pX6_readNumber_38 post x1 x3_1 w)) ∧ (¬ x3_1 ≤ x2 → (pX6_readNumber_33 post x1 x3_1 w)))))) ∧ (¬ (w.1 30 5) = (21 : Int32) → (pX6_fail (fun w_5 => pX6_readNumber_38 post x1 x3_1 w_5) (2 : Int32) w))
set_option maxHeartbeats 4000000 in
set_option maxRecDepth 100000 in
theorem bX6_readNumber_38 {p : Program} {l : Launch} {e : Env} {s : State} {m : MethodId} {args : Array Value} {below : List Frame} {meth : Method} {c : Code} {Q : State → Prop} {A : Nat → Prop} {g : Gw} {post : Int32 → Wd → Prop}  (hC : Cx p s m args c cX6_readNumber RX6 4 g) (hR : RtI tabX p l e (rk 2) s m args below meth c Q cX6_readNumber A g post)  : ∀ (x1 : Int32) (x3 : Int32) (w : Wd) (H : Heap) (locs : List Loc) (ls : Array Slot), pX6_readNumber_38 post x1 x3 w → St tabX A s.heap g w H locs → lv_has ls 4 [(0, .ref (g.2.2 30)), (1, .int x1), (3, .int x3)] → W p l e (rk 2) s m args below meth c H locs 0 0 Q (F0 m 38 ls []) := by
  have hx := hC.1
  have hb := hC.2.1
  intro x1 x3 w H locs ls hp hS hl
  unfold pX6_readNumber_38 at hp
  refine lv_aload_n hx hb dX6_readNumber_38 rfl (lv_at hl 0 rfl) ?_
  refine G_30_2 hC hS m383 dX6_readNumber_39 ?_
  refine lv_if_eq (tgt := 47) hx hb dX6_readNumber_42 (by decide) (fun c_1 => ?_) (fun c_1 => ?_)
  · have hp := hp.1 c_1
    refine lv_aload_n hx hb dX6_readNumber_47 rfl (lv_at hl 0 rfl) ?_
    refine q_cvV (As := []) (rest := []) hC hS hl.1 (rX6_take hp) cwX6_37 yvX6_take (rcv_30 hC hS) rfl rfl (Nat.le_of_ble_eq_true rfl) (rmk (by decide) (by decide)) dX6_readNumber_48 (fun w_2 H locs hp hS => ?_)
    refine lv_iload_n hx hb dX6_readNumber_51 rfl (lv_at hl 2 rfl) ?_
    exact hR _ _ _ _ _ _ dX6_readNumber_52 hp hS
  · have hp := hp.2 c_1
    refine lv_iload_n hx hb dX6_readNumber_45 rfl (lv_at hl 1 rfl) ?_
    exact hR _ _ _ _ _ _ dX6_readNumber_46 hp hS
set_option maxHeartbeats 4000000 in
set_option maxRecDepth 100000 in
theorem bX6_readNumber_33 {p : Program} {l : Launch} {e : Env} {s : State} {m : MethodId} {args : Array Value} {below : List Frame} {meth : Method} {c : Code} {Q : State → Prop} {A : Nat → Prop} {g : Gw} {post : Int32 → Wd → Prop}  (hC : Cx p s m args c cX6_readNumber RX6 4 g) (hR : RtI tabX p l e (rk 2) s m args below meth c Q cX6_readNumber A g post)  : ∀ (x1 : Int32) (x3 : Int32) (w : Wd) (H : Heap) (locs : List Loc) (ls : Array Slot), pX6_readNumber_33 post x1 x3 w → St tabX A s.heap g w H locs → lv_has ls 4 [(0, .ref (g.2.2 30)), (1, .int x1), (3, .int x3)] → W p l e (rk 2) s m args below meth c H locs 0 0 Q (F0 m 33 ls []) := by
  have hx := hC.1
  have hb := hC.2.1
  intro x1 x3 w H locs ls hp hS hl
  unfold pX6_readNumber_33 at hp
  refine lv_aload_n hx hb dX6_readNumber_33 rfl (lv_at hl 0 rfl) ?_
  refine lv_iconst hx hb dX6_readNumber_34 kI_4 ?_
  refine q_cvV (As := [.int (4 : Int32)]) (rest := []) hC hS hl.1 (rX6_fail hp) cwX6_50 yvX6_fail (rcv_30 hC hS) rfl rfl (Nat.le_of_ble_eq_true rfl) (rmk (by decide) (by decide)) dX6_readNumber_35 (fun w_1 H locs hp hS => ?_)
  exact bX6_readNumber_38 hC hR x1 x3 w_1 _ _ _ hp hS (lv_sub hl [0, 1, 2] rfl)
set_option maxHeartbeats 4000000 in
set_option maxRecDepth 100000 in
theorem rX6_readNumber {l : Launch} {g : Gw} {w : Wd} {post : Int32 → Wd → Prop}   {x1 : Int32} {x2 : Int32} (hp : pX6_readNumber post x1 x2 w) : MtI tabX l yX6_readNumber cX6_readNumber 4 (some .int) 2 g w [.ref (g.2.2 30), .int x1, .int x2] post := by
  refine q_entI tabX_nd (by decide) rfl (Nat.le_of_ble_eq_true rfl) ?_
  intro p e s m args below meth c A Q ls hC hR hS hl
  have hx := hC.1
  have hb := hC.2.1
  have hl : lv_has ls 4 [(0, .ref (g.2.2 30)), (1, .int x1), (2, .int x2)] := hl
  unfold pX6_readNumber at hp
  refine lv_aload_n hx hb dX6_readNumber_0 rfl (lv_at hl 0 rfl) ?_
  refine G_30_6 hC hS m396 dX6_readNumber_1 ?_
  refine lv_l2i hx hb dX6_readNumber_4 rfl ?_
  refine lv_topi (fun x3_1 ex3_1 => ?_)
  have hp := hp x3_1 ex3_1
  refine lv_istore_n (lv' := [(3, .int x3_1), (0, .ref (g.2.2 30)), (1, .int x1), (2, .int x2)]) hx hb dX6_readNumber_5 rfl hl (by decide) rfl (fun ls hl => ?_)
  refine lv_aload_n hx hb dX6_readNumber_6 rfl (lv_at hl 1 rfl) ?_
  refine G_30_5 hC hS m387 dX6_readNumber_7 ?_
  refine lv_bipush hx hb dX6_readNumber_10 kB_21 ?_
  refine lv_icmp_eq (tgt := 23) hx hb dX6_readNumber_12 (by decide) (fun c_2 => ?_) (fun c_2 => ?_)
  · have hp := hp.1 c_2
    refine lv_iload_n hx hb dX6_readNumber_23 rfl (lv_at hl 0 rfl) ?_
    refine lv_iload_n hx hb dX6_readNumber_24 rfl (lv_at hl 2 rfl) ?_
    refine lv_icmp_lt (tgt := 33) hx hb dX6_readNumber_25 (by decide) (fun c_3 => ?_) (fun c_3 => ?_)
    · have hp := hp.1 c_3
      exact bX6_readNumber_33 hC hR x1 x3_1 w _ _ _ hp hS (lv_sub hl [1, 2, 0] rfl)
    · have hp := hp.2 c_3
      refine lv_iload_n hx hb dX6_readNumber_28 rfl (lv_at hl 0 rfl) ?_
      refine lv_iload_n hx hb dX6_readNumber_29 rfl (lv_at hl 3 rfl) ?_
      refine lv_icmp_le (tgt := 38) hx hb dX6_readNumber_30 (by decide) (fun c_4 => ?_) (fun c_4 => ?_)
      · have hp := hp.1 c_4
        exact bX6_readNumber_38 hC hR x1 x3_1 w _ _ _ hp hS (lv_sub hl [1, 2, 0] rfl)
      · have hp := hp.2 c_4
        exact bX6_readNumber_33 hC hR x1 x3_1 w _ _ _ hp hS (lv_sub hl [1, 2, 0] rfl)
  · have hp := hp.2 c_2
    refine lv_aload_n hx hb dX6_readNumber_15 rfl (lv_at hl 1 rfl) ?_
    refine lv_iconst hx hb dX6_readNumber_16 kI_2 ?_
    refine q_cvV (As := [.int (2 : Int32)]) (rest := []) hC hS hl.1 (rX6_fail hp) cwX6_50 yvX6_fail (rcv_30 hC hS) rfl rfl (Nat.le_of_ble_eq_true rfl) (rmk (by decide) (by decide)) dX6_readNumber_17 (fun w_5 H locs hp hS => ?_)
    refine lv_goto (tgt := 38) hx hb dX6_readNumber_20 (by decide) ?_
    exact bX6_readNumber_38 hC hR x1 x3_1 w_5 _ _ _ hp hS (lv_sub hl [1, 2, 0] rfl)
def pX6_readFirst_74 (k2 : Int32 → Wd → Prop) (post : Wd → Prop) (x1 : Int32) (w : Wd) : Prop := pX6_readNumber (fun r_1 w_2 => ∀ w_3, w_3 = sI w_2 (rl (w.2.2.2.2 2)) 1 ((w.1 (rl (w.2.2.2.2 2)) 1) ||| ((1 : Int32) <<< (r_1 &&& 31))) → ∀ x1_4, x1_4 = x1 + (1 : Int32) → k2 x1_4 w_3) (0 : Int32) ((w.1 (rl (w.2.2.2.2 2)) 0) - (1 : Int32)) w
def pX6_readFirst_28 (k2 : Int32 → Wd → Prop) (post : Wd → Prop) (x1 : Int32) (w : Wd) : Prop := ∀ x2_1, x2_1 = ((w.2.2.1 30 6)).toInt32 → (¬ (w.1 30 5) = (21 : Int32) → (pX6_readFirst_74 k2 post x1 w)) ∧ ((w.1 30 5) = (21 : Int32) → (((w.1 (rl (w.2.2.2.2 2)) 0) ≤ x2_1 → (pX6_readFirst_74 k2 post x1 w)) ∧ (¬ (w.1 (rl (w.2.2.2.2 2)) 0) ≤ x2_1 → (((((w.1 (rl (w.2.2.2.2 2)) 1) >>> (x2_1 &&& 31)) &&& (1 : Int32)) = 0 → (pX6_readFirst_74 k2 post x1 w)) ∧ (¬ (((w.1 (rl (w.2.2.2.2 2)) 1) >>> (x2_1 &&& 31)) &&& (1 : Int32)) = 0 → (pX6_fail (fun w_5 => post w_5) (3 : Int32) w))))))
def pX6_readFirst_2 (post : Wd → Prop) : Nat → Int32 → Wd → Prop
  | 0, _, _ => False
  | n + 1, x1, w => ((12 : Int32) < x1 → (post w)) ∧ (¬ (12 : Int32) < x1 → ((¬ (w.1 30 2) = 0 → (post w)) ∧ ((w.1 30 2) = 0 → ((x1 = 0 → (pX6_readFirst_28 (pX6_readFirst_2 post n) post x1 w)) ∧ (¬ x1 = 0 → ((¬ (w.1 30 5) = (21 : Int32) → (post w)) ∧ ((w.1 30 5) = (21 : Int32) → (pX6_readFirst_28 (pX6_readFirst_2 post n) post x1 w))))))))
def pX6_readFirst (post : Wd → Prop)  (w : Wd) : Prop := ∃ n9, pX6_readFirst_2 post n9 (0 : Int32) w
set_option maxHeartbeats 4000000 in
set_option maxRecDepth 100000 in
theorem bX6_readFirst_74 {p : Program} {l : Launch} {e : Env} {s : State} {m : MethodId} {args : Array Value} {below : List Frame} {meth : Method} {c : Code} {Q : State → Prop} {A : Nat → Prop} {g : Gw} {post : Wd → Prop}  (hC : Cx p s m args c cX6_readFirst RX6 3 g) (hR : RtV tabX p l e (rk 3) s m args below meth c Q cX6_readFirst A g post)  {k2 : Int32 → Wd → Prop} (hk2 : ∀ (x1 : Int32) (w : Wd) (H : Heap) (locs : List Loc) (ls : Array Slot), k2 x1 w → St tabX A s.heap g w H locs → lv_has ls 3 [(0, .ref (g.2.2 30)), (1, .int x1)] → W p l e (rk 3) s m args below meth c H locs 0 0 Q (F0 m 2 ls [])) : ∀ (x1 : Int32) (w : Wd) (H : Heap) (locs : List Loc) (ls : Array Slot), pX6_readFirst_74 k2 post x1 w → St tabX A s.heap g w H locs → lv_has ls 3 [(0, .ref (g.2.2 30)), (1, .int x1)] → W p l e (rk 3) s m args below meth c H locs 0 0 Q (F0 m 74 ls []) := by
  have hx := hC.1
  have hb := hC.2.1
  intro x1 w H locs ls hp hS hl
  unfold pX6_readFirst_74 at hp
  refine lv_aload_n hx hb dX6_readFirst_74 rfl (lv_at hl 0 rfl) ?_
  refine G_30_1 hC hS m150 dX6_readFirst_75 ?_
  refine lv_dup hx hb dX6_readFirst_78 rfl ?_
  refine GR_1 hC hS m422 dX6_readFirst_79 ?_
  refine lv_iconst hx hb dX6_readFirst_82 kI_1 ?_
  refine lv_aload_n hx hb dX6_readFirst_83 rfl (lv_at hl 0 rfl) ?_
  refine lv_iconst hx hb dX6_readFirst_84 kI_0 ?_
  refine lv_aload_n hx hb dX6_readFirst_85 rfl (lv_at hl 0 rfl) ?_
  refine G_30_1 hC hS m150 dX6_readFirst_86 ?_
  refine GR_0 hC hS m401 dX6_readFirst_89 ?_
  refine lv_iconst hx hb dX6_readFirst_92 kI_1 ?_
  refine lv_isub hx hb dX6_readFirst_93 ?_
  refine q_cvI (As := [.int (0 : Int32), .int ((w.1 (rl (w.2.2.2.2 2)) 0) - (1 : Int32))]) (rest := [.int (1 : Int32), .int (w.1 (rl (w.2.2.2.2 2)) 1), .ref (g.2.2 (rl (w.2.2.2.2 2)))]) hC hS hl.1 (rX6_readNumber hp) cwX6_54 yvX6_readNumber (rcv_30 hC hS) rfl rfl (Nat.le_of_ble_eq_true rfl) (rmk (by decide) (by decide)) dX6_readFirst_94 (fun r_1 w_2 H locs hp hS => ?_)
  refine lv_ishl hx hb dX6_readFirst_97 ?_
  refine lv_ior hx hb dX6_readFirst_98 ?_
  refine PR_1 hC hS m422 dX6_readFirst_99 (fun w_3 H locs ew_3 hS => ?_)
  have hp := hp w_3 ew_3
  obtain ⟨x1_4, ex1_4⟩ : ∃ y : Int32, y = x1 + (1 : Int32) := ⟨_, rfl⟩
  have hp := hp x1_4 ex1_4
  refine lv_iinc (v := x1_4) (lv' := [(1, .int x1_4), (0, .ref (g.2.2 30))]) hx hb dX6_readFirst_102 hl (k := 1) rfl (by rw [ex1_4]; rfl) (by decide) rfl (fun ls hl => ?_)
  refine lv_goto (tgt := 2) hx hb dX6_readFirst_105 (by decide) ?_
  exact hk2 x1_4 w_3 _ _ _ hp hS (lv_sub hl [1, 0] rfl)
set_option maxHeartbeats 4000000 in
set_option maxRecDepth 100000 in
theorem bX6_readFirst_28 {p : Program} {l : Launch} {e : Env} {s : State} {m : MethodId} {args : Array Value} {below : List Frame} {meth : Method} {c : Code} {Q : State → Prop} {A : Nat → Prop} {g : Gw} {post : Wd → Prop}  (hC : Cx p s m args c cX6_readFirst RX6 3 g) (hR : RtV tabX p l e (rk 3) s m args below meth c Q cX6_readFirst A g post)  {k2 : Int32 → Wd → Prop} (hk2 : ∀ (x1 : Int32) (w : Wd) (H : Heap) (locs : List Loc) (ls : Array Slot), k2 x1 w → St tabX A s.heap g w H locs → lv_has ls 3 [(0, .ref (g.2.2 30)), (1, .int x1)] → W p l e (rk 3) s m args below meth c H locs 0 0 Q (F0 m 2 ls [])) : ∀ (x1 : Int32) (w : Wd) (H : Heap) (locs : List Loc) (ls : Array Slot), pX6_readFirst_28 k2 post x1 w → St tabX A s.heap g w H locs → lv_has ls 3 [(0, .ref (g.2.2 30)), (1, .int x1)] → W p l e (rk 3) s m args below meth c H locs 0 0 Q (F0 m 28 ls []) := by
  have hx := hC.1
  have hb := hC.2.1
  intro x1 w H locs ls hp hS hl
  unfold pX6_readFirst_28 at hp
  refine lv_aload_n hx hb dX6_readFirst_28 rfl (lv_at hl 0 rfl) ?_
  refine G_30_6 hC hS m396 dX6_readFirst_29 ?_
  refine lv_l2i hx hb dX6_readFirst_32 rfl ?_
  refine lv_topi (fun x2_1 ex2_1 => ?_)
  have hp := hp x2_1 ex2_1
  refine lv_istore_n (lv' := [(2, .int x2_1), (0, .ref (g.2.2 30)), (1, .int x1)]) hx hb dX6_readFirst_33 rfl hl (by decide) rfl (fun ls hl => ?_)
  refine lv_aload_n hx hb dX6_readFirst_34 rfl (lv_at hl 1 rfl) ?_
  refine G_30_5 hC hS m387 dX6_readFirst_35 ?_
  refine lv_bipush hx hb dX6_readFirst_38 kB_21 ?_
  refine lv_icmp_ne (tgt := 74) hx hb dX6_readFirst_40 (by decide) (fun c_2 => ?_) (fun c_2 => ?_)
  · have hp := hp.1 c_2
    exact bX6_readFirst_74 hC hR hk2 x1 w _ _ _ hp hS (lv_sub hl [1, 2] rfl)
  · have hp := hp.2 c_2
    refine lv_iload_n hx hb dX6_readFirst_43 rfl (lv_at hl 0 rfl) ?_
    refine lv_aload_n hx hb dX6_readFirst_44 rfl (lv_at hl 1 rfl) ?_
    refine G_30_1 hC hS m150 dX6_readFirst_45 ?_
    refine GR_0 hC hS m401 dX6_readFirst_48 ?_
    refine lv_icmp_ge (tgt := 74) hx hb dX6_readFirst_51 (by decide) (fun c_3 => ?_) (fun c_3 => ?_)
    · have hp := hp.1 c_3
      exact bX6_readFirst_74 hC hR hk2 x1 w _ _ _ hp hS (lv_sub hl [1, 2] rfl)
    · have hp := hp.2 c_3
      refine lv_aload_n hx hb dX6_readFirst_54 rfl (lv_at hl 1 rfl) ?_
      refine G_30_1 hC hS m150 dX6_readFirst_55 ?_
      refine GR_1 hC hS m422 dX6_readFirst_58 ?_
      refine lv_iload_n hx hb dX6_readFirst_61 rfl (lv_at hl 0 rfl) ?_
      refine lv_ishr hx hb dX6_readFirst_62 ?_
      refine lv_iconst hx hb dX6_readFirst_63 kI_1 ?_
      refine lv_iand hx hb dX6_readFirst_64 ?_
      refine lv_if_eq (tgt := 74) hx hb dX6_readFirst_65 (by decide) (fun c_4 => ?_) (fun c_4 => ?_)
      · have hp := hp.1 c_4
        exact bX6_readFirst_74 hC hR hk2 x1 w _ _ _ hp hS (lv_sub hl [1, 2] rfl)
      · have hp := hp.2 c_4
        refine lv_aload_n hx hb dX6_readFirst_68 rfl (lv_at hl 1 rfl) ?_
        refine lv_iconst hx hb dX6_readFirst_69 kI_3 ?_
        refine q_cvV (As := [.int (3 : Int32)]) (rest := []) hC hS hl.1 (rX6_fail hp) cwX6_50 yvX6_fail (rcv_30 hC hS) rfl rfl (Nat.le_of_ble_eq_true rfl) (rmk (by decide) (by decide)) dX6_readFirst_70 (fun w_5 H locs hp hS => ?_)
        exact hR _ _ _ _ _ dX6_readFirst_73 hp hS
set_option maxHeartbeats 4000000 in
set_option maxRecDepth 100000 in
theorem bX6_readFirst_2 {p : Program} {l : Launch} {e : Env} {s : State} {m : MethodId} {args : Array Value} {below : List Frame} {meth : Method} {c : Code} {Q : State → Prop} {A : Nat → Prop} {g : Gw} {post : Wd → Prop}  (hC : Cx p s m args c cX6_readFirst RX6 3 g) (hR : RtV tabX p l e (rk 3) s m args below meth c Q cX6_readFirst A g post)  : ∀ (n : Nat) (x1 : Int32) (w : Wd) (H : Heap) (locs : List Loc) (ls : Array Slot), pX6_readFirst_2 post n x1 w → St tabX A s.heap g w H locs → lv_has ls 3 [(0, .ref (g.2.2 30)), (1, .int x1)] → W p l e (rk 3) s m args below meth c H locs 0 0 Q (F0 m 2 ls []) := by
  have hx := hC.1
  have hb := hC.2.1
  intro n
  induction n with
  | zero =>
    intro x1 w H locs ls hp hS hl
    exact False.elim hp
  | succ n ih =>
    intro x1 w H locs ls hp hS hl
    unfold pX6_readFirst_2 at hp
    refine lv_iload_n hx hb dX6_readFirst_2 rfl (lv_at hl 1 rfl) ?_
    refine lv_bipush hx hb dX6_readFirst_3 kB_12 ?_
    refine lv_icmp_gt (tgt := 108) hx hb dX6_readFirst_5 (by decide) (fun c_1 => ?_) (fun c_1 => ?_)
    · have hp := hp.1 c_1
      exact hR _ _ _ _ _ dX6_readFirst_108 hp hS
    · have hp := hp.2 c_1
      refine lv_aload_n hx hb dX6_readFirst_8 rfl (lv_at hl 0 rfl) ?_
      refine G_30_2 hC hS m383 dX6_readFirst_9 ?_
      refine lv_if_ne (tgt := 108) hx hb dX6_readFirst_12 (by decide) (fun c_2 => ?_) (fun c_2 => ?_)
      · have hp := hp.1 c_2
        exact hR _ _ _ _ _ dX6_readFirst_108 hp hS
      · have hp := hp.2 c_2
        refine lv_iload_n hx hb dX6_readFirst_15 rfl (lv_at hl 1 rfl) ?_
        refine lv_if_eq (tgt := 28) hx hb dX6_readFirst_16 (by decide) (fun c_3 => ?_) (fun c_3 => ?_)
        · have hp := hp.1 c_3
          exact bX6_readFirst_28 hC hR ih x1 w _ _ _ hp hS (lv_sub hl [0, 1] rfl)
        · have hp := hp.2 c_3
          refine lv_aload_n hx hb dX6_readFirst_19 rfl (lv_at hl 0 rfl) ?_
          refine G_30_5 hC hS m387 dX6_readFirst_20 ?_
          refine lv_bipush hx hb dX6_readFirst_23 kB_21 ?_
          refine lv_icmp_ne (tgt := 108) hx hb dX6_readFirst_25 (by decide) (fun c_4 => ?_) (fun c_4 => ?_)
          · have hp := hp.1 c_4
            exact hR _ _ _ _ _ dX6_readFirst_108 hp hS
          · have hp := hp.2 c_4
            exact bX6_readFirst_28 hC hR ih x1 w _ _ _ hp hS (lv_sub hl [0, 1] rfl)
set_option maxHeartbeats 4000000 in
set_option maxRecDepth 100000 in
theorem rX6_readFirst {l : Launch} {g : Gw} {w : Wd} {post : Wd → Prop}    (hp : pX6_readFirst post  w) : MtV tabX l yX6_readFirst cX6_readFirst 3 none 3 g w [.ref (g.2.2 30)] post := by
  refine q_entV tabX_nd (by decide) rfl (Nat.le_of_ble_eq_true rfl) ?_
  intro p e s m args below meth c A Q ls hC hR hS hl
  have hx := hC.1
  have hb := hC.2.1
  have hl : lv_has ls 3 [(0, .ref (g.2.2 30))] := hl
  unfold pX6_readFirst at hp
  refine lv_iconst hx hb dX6_readFirst_0 kI_0 ?_
  refine lv_istore_n (lv' := [(1, .int (0 : Int32)), (0, .ref (g.2.2 30))]) hx hb dX6_readFirst_1 rfl hl (by decide) rfl (fun ls hl => ?_)
  obtain ⟨n9, hp⟩ := hp
  exact bX6_readFirst_2 hC hR n9 (0 : Int32) w _ _ _ hp hS (lv_sub hl [1, 0] rfl)
def pX7_addCode (post : Wd → Prop) (b : Bool) (x1 : Int32) (w : Wd) : Prop := ((w.1 (rl b) 9) < 0 → (post w)) ∧ (¬ (w.1 (rl b) 9) < 0 → (((1600 : Int32) ≤ (w.1 (rl b) 9) → (post w)) ∧ (¬ (1600 : Int32) ≤ (w.1 (rl b) 9) → (vp_in (w.1 (rl b) 9) 1600 ∧ ∀ w_3, w_3 = sA w ((rl b) + 9) (w.1 (rl b) 9).toNatClampNeg x1 → ∀ w_4, w_4 = sI w_3 (rl b) 9 ((w_3.1 (rl b) 9) + (1 : Int32)) → post w_4))))
set_option maxHeartbeats 4000000 in
set_option maxRecDepth 100000 in
theorem rX7_addCode {l : Launch} {g : Gw} {w : Wd} {post : Wd → Prop} {b : Bool}  {x1 : Int32} (hp : pX7_addCode post b x1 w) : MtV tabX l yX7_addCode cX7_addCode 2 none 1 g w [.ref (g.2.2 (rl b)), .int x1] post := by
  refine q_entV tabX_nd (by decide) rfl (Nat.le_of_ble_eq_true rfl) ?_
  intro p e s m args below meth c A Q ls hC hR hS hl
  have hx := hC.1
  have hb := hC.2.1
  have hl : lv_has ls 2 [(0, .ref (g.2.2 (rl b))), (1, .int x1)] := hl
  unfold pX7_addCode at hp
  refine lv_aload_n hx hb dX7_addCode_0 rfl (lv_at hl 0 rfl) ?_
  refine GR_9 hC hS m143 dX7_addCode_1 ?_
  refine lv_if_lt (tgt := 39) hx hb dX7_addCode_4 (by decide) (fun c_1 => ?_) (fun c_1 => ?_)
  · have hp := hp.1 c_1
    exact hR _ _ _ _ _ dX7_addCode_39 hp hS
  · have hp := hp.2 c_1
    refine lv_aload_n hx hb dX7_addCode_7 rfl (lv_at hl 0 rfl) ?_
    refine GR_9 hC hS m143 dX7_addCode_8 ?_
    refine lv_aload_n hx hb dX7_addCode_11 rfl (lv_at hl 0 rfl) ?_
    refine GR_8 hC hS m130 dX7_addCode_12 ?_
    refine NaR_8 hC hS dX7_addCode_15 ?_
    refine lv_icmp_ge (tgt := 39) hx hb dX7_addCode_16 (by decide) (fun c_2 => ?_) (fun c_2 => ?_)
    · have hp := hp.1 c_2
      exact hR _ _ _ _ _ dX7_addCode_39 hp hS
    · have hp := hp.2 c_2
      refine lv_aload_n hx hb dX7_addCode_19 rfl (lv_at hl 0 rfl) ?_
      refine GR_8 hC hS m130 dX7_addCode_20 ?_
      refine lv_aload_n hx hb dX7_addCode_23 rfl (lv_at hl 0 rfl) ?_
      refine GR_9 hC hS m143 dX7_addCode_24 ?_
      refine lv_iload_n hx hb dX7_addCode_27 rfl (lv_at hl 1 rfl) ?_
      refine SaR_8 hC hS hp.1 dX7_addCode_28 (fun w_3 H locs ew_3 hS => ?_)
      have hp := hp.2
      have hp := hp w_3 ew_3
      refine lv_aload_n hx hb dX7_addCode_29 rfl (lv_at hl 0 rfl) ?_
      refine lv_dup hx hb dX7_addCode_30 rfl ?_
      refine GR_9 hC hS m143 dX7_addCode_31 ?_
      refine lv_iconst hx hb dX7_addCode_34 kI_1 ?_
      refine lv_iadd hx hb dX7_addCode_35 ?_
      refine PR_9 hC hS m143 dX7_addCode_36 (fun w_4 H locs ew_4 hS => ?_)
      have hp := hp w_4 ew_4
      exact hR _ _ _ _ _ dX7_addCode_39 hp hS
def pX8_rankOf (post : Int32 → Wd → Prop) (x0 : Int32) (w : Wd) : Prop := (x0.toInt = 14 → (post (0 : Int32) w)) ∧ (¬ x0.toInt = 14 → (x0.toInt = 15 → (post (1 : Int32) w)) ∧ (¬ x0.toInt = 15 → (x0.toInt = 37 → (post (4 : Int32) w)) ∧ (¬ x0.toInt = 37 → (x0.toInt = 42 → (post (4 : Int32) w)) ∧ (¬ x0.toInt = 42 → (x0.toInt = 43 → (post (3 : Int32) w)) ∧ (¬ x0.toInt = 43 → (x0.toInt = 45 → (post (3 : Int32) w)) ∧ (¬ x0.toInt = 45 → (x0.toInt = 47 → (post (4 : Int32) w)) ∧ (¬ x0.toInt = 47 → (x0.toInt = 60 → (post (2 : Int32) w)) ∧ (¬ x0.toInt = 60 → (x0.toInt = 61 → (post (2 : Int32) w)) ∧ (¬ x0.toInt = 61 → (x0.toInt = 62 → (post (2 : Int32) w)) ∧ (¬ x0.toInt = 62 → post (-1 : Int32) w))))))))))
set_option maxHeartbeats 4000000 in
set_option maxRecDepth 100000 in
theorem rX8_rankOf {l : Launch} {g : Gw} {w : Wd} {post : Int32 → Wd → Prop}   {x0 : Int32} (hp : pX8_rankOf post x0 w) : MtI tabX l yX8_rankOf cX8_rankOf 1 (some .int) 1 g w [.int x0] post := by
  refine q_entI tabX_nd (by decide) rfl (Nat.le_of_ble_eq_true rfl) ?_
  intro p e s m args below meth c A Q ls hC hR hS hl
  have hx := hC.1
  have hb := hC.2.1
  have hl : lv_has ls 1 [(0, .int x0)] := hl
  unfold pX8_rankOf at hp
  refine lv_iload_n hx hb dX8_rankOf_0 rfl (lv_at hl 0 rfl) ?_
  by_cases c_1_0 : x0.toInt = 14
  · have hp := hp.1 c_1_0
    refine lv_lookup (off := 91) (tgt := 92) hx hb dX8_rankOf_1 (by decide) (by rw [c_1_0]; decide) (by decide) ?_
    refine lv_iconst hx hb dX8_rankOf_92 kI_0 ?_
    exact hR _ _ _ _ _ _ dX8_rankOf_93 hp hS
  · have hp := hp.2 c_1_0
    by_cases c_1_1 : x0.toInt = 15
    · have hp := hp.1 c_1_1
      refine lv_lookup (off := 93) (tgt := 94) hx hb dX8_rankOf_1 (by decide) (by rw [c_1_1]; decide) (by decide) ?_
      refine lv_iconst hx hb dX8_rankOf_94 kI_1 ?_
      exact hR _ _ _ _ _ _ dX8_rankOf_95 hp hS
    · have hp := hp.2 c_1_1
      by_cases c_1_2 : x0.toInt = 37
      · have hp := hp.1 c_1_2
        refine lv_lookup (off := 99) (tgt := 100) hx hb dX8_rankOf_1 (by decide) (by rw [c_1_2]; decide) (by decide) ?_
        refine lv_iconst hx hb dX8_rankOf_100 kI_4 ?_
        exact hR _ _ _ _ _ _ dX8_rankOf_101 hp hS
      · have hp := hp.2 c_1_2
        by_cases c_1_3 : x0.toInt = 42
        · have hp := hp.1 c_1_3
          refine lv_lookup (off := 99) (tgt := 100) hx hb dX8_rankOf_1 (by decide) (by rw [c_1_3]; decide) (by decide) ?_
          refine lv_iconst hx hb dX8_rankOf_100 kI_4 ?_
          exact hR _ _ _ _ _ _ dX8_rankOf_101 hp hS
        · have hp := hp.2 c_1_3
          by_cases c_1_4 : x0.toInt = 43
          · have hp := hp.1 c_1_4
            refine lv_lookup (off := 97) (tgt := 98) hx hb dX8_rankOf_1 (by decide) (by rw [c_1_4]; decide) (by decide) ?_
            refine lv_iconst hx hb dX8_rankOf_98 kI_3 ?_
            exact hR _ _ _ _ _ _ dX8_rankOf_99 hp hS
          · have hp := hp.2 c_1_4
            by_cases c_1_5 : x0.toInt = 45
            · have hp := hp.1 c_1_5
              refine lv_lookup (off := 97) (tgt := 98) hx hb dX8_rankOf_1 (by decide) (by rw [c_1_5]; decide) (by decide) ?_
              refine lv_iconst hx hb dX8_rankOf_98 kI_3 ?_
              exact hR _ _ _ _ _ _ dX8_rankOf_99 hp hS
            · have hp := hp.2 c_1_5
              by_cases c_1_6 : x0.toInt = 47
              · have hp := hp.1 c_1_6
                refine lv_lookup (off := 99) (tgt := 100) hx hb dX8_rankOf_1 (by decide) (by rw [c_1_6]; decide) (by decide) ?_
                refine lv_iconst hx hb dX8_rankOf_100 kI_4 ?_
                exact hR _ _ _ _ _ _ dX8_rankOf_101 hp hS
              · have hp := hp.2 c_1_6
                by_cases c_1_7 : x0.toInt = 60
                · have hp := hp.1 c_1_7
                  refine lv_lookup (off := 95) (tgt := 96) hx hb dX8_rankOf_1 (by decide) (by rw [c_1_7]; decide) (by decide) ?_
                  refine lv_iconst hx hb dX8_rankOf_96 kI_2 ?_
                  exact hR _ _ _ _ _ _ dX8_rankOf_97 hp hS
                · have hp := hp.2 c_1_7
                  by_cases c_1_8 : x0.toInt = 61
                  · have hp := hp.1 c_1_8
                    refine lv_lookup (off := 95) (tgt := 96) hx hb dX8_rankOf_1 (by decide) (by rw [c_1_8]; decide) (by decide) ?_
                    refine lv_iconst hx hb dX8_rankOf_96 kI_2 ?_
                    exact hR _ _ _ _ _ _ dX8_rankOf_97 hp hS
                  · have hp := hp.2 c_1_8
                    by_cases c_1_9 : x0.toInt = 62
                    · have hp := hp.1 c_1_9
                      refine lv_lookup (off := 95) (tgt := 96) hx hb dX8_rankOf_1 (by decide) (by rw [c_1_9]; decide) (by decide) ?_
                      refine lv_iconst hx hb dX8_rankOf_96 kI_2 ?_
                      exact hR _ _ _ _ _ _ dX8_rankOf_97 hp hS
                    · have hp := hp.2 c_1_9
                      refine lv_lookup (off := 101) (tgt := 102) hx hb dX8_rankOf_1 (by decide) (by simp [Op.lookupswitch.offset, Ne.symm c_1_0, Ne.symm c_1_1, Ne.symm c_1_2, Ne.symm c_1_3, Ne.symm c_1_4, Ne.symm c_1_5, Ne.symm c_1_6, Ne.symm c_1_7, Ne.symm c_1_8, Ne.symm c_1_9]) (by decide) ?_
                      refine lv_iconst hx hb dX8_rankOf_102 kI_m1 ?_
                      exact hR _ _ _ _ _ _ dX8_rankOf_103 hp hS
def pX7_addUse (post : Wd → Prop) (b : Bool) (x1 : Int32) (w : Wd) : Prop := ((w.1 (rl b) 2) ≤ 0 → (post w)) ∧ (¬ (w.1 (rl b) 2) ≤ 0 → (((4 : Int32) < (w.1 (rl b) 2) → (post w)) ∧ (¬ (4 : Int32) < (w.1 (rl b) 2) → (vp_in ((w.1 (rl b) 2) - (1 : Int32)) 4 ∧ vp_in ((w.1 (rl b) 2) - (1 : Int32)) 4 ∧ ∀ w_3, w_3 = sA w ((rl b) + 8) ((w.1 (rl b) 2) - (1 : Int32)).toNatClampNeg ((w.2.1 ((rl b) + 8) ((w.1 (rl b) 2) - (1 : Int32)).toNatClampNeg) ||| ((1 : Int32) <<< (x1 &&& 31))) → post w_3))))
set_option maxHeartbeats 4000000 in
set_option maxRecDepth 100000 in
theorem rX7_addUse {l : Launch} {g : Gw} {w : Wd} {post : Wd → Prop} {b : Bool}  {x1 : Int32} (hp : pX7_addUse post b x1 w) : MtV tabX l yX7_addUse cX7_addUse 2 none 1 g w [.ref (g.2.2 (rl b)), .int x1] post := by
  refine q_entV tabX_nd (by decide) rfl (Nat.le_of_ble_eq_true rfl) ?_
  intro p e s m args below meth c A Q ls hC hR hS hl
  have hx := hC.1
  have hb := hC.2.1
  have hl : lv_has ls 2 [(0, .ref (g.2.2 (rl b))), (1, .int x1)] := hl
  unfold pX7_addUse at hp
  refine lv_aload_n hx hb dX7_addUse_0 rfl (lv_at hl 0 rfl) ?_
  refine GR_2 hC hS m139 dX7_addUse_1 ?_
  refine lv_if_le (tgt := 36) hx hb dX7_addUse_4 (by decide) (fun c_1 => ?_) (fun c_1 => ?_)
  · have hp := hp.1 c_1
    exact hR _ _ _ _ _ dX7_addUse_36 hp hS
  · have hp := hp.2 c_1
    refine lv_aload_n hx hb dX7_addUse_7 rfl (lv_at hl 0 rfl) ?_
    refine GR_2 hC hS m139 dX7_addUse_8 ?_
    refine lv_aload_n hx hb dX7_addUse_11 rfl (lv_at hl 0 rfl) ?_
    refine GR_7 hC hS m129 dX7_addUse_12 ?_
    refine NaR_7 hC hS dX7_addUse_15 ?_
    refine lv_icmp_gt (tgt := 36) hx hb dX7_addUse_16 (by decide) (fun c_2 => ?_) (fun c_2 => ?_)
    · have hp := hp.1 c_2
      exact hR _ _ _ _ _ dX7_addUse_36 hp hS
    · have hp := hp.2 c_2
      refine lv_aload_n hx hb dX7_addUse_19 rfl (lv_at hl 0 rfl) ?_
      refine GR_7 hC hS m129 dX7_addUse_20 ?_
      refine lv_aload_n hx hb dX7_addUse_23 rfl (lv_at hl 0 rfl) ?_
      refine GR_2 hC hS m139 dX7_addUse_24 ?_
      refine lv_iconst hx hb dX7_addUse_27 kI_1 ?_
      refine lv_isub hx hb dX7_addUse_28 ?_
      refine lv_dup2_11 hx hb dX7_addUse_29 rfl rfl ?_
      refine LaR_7 hC hS hp.1 dX7_addUse_30 ?_
      have hp := hp.2
      refine lv_iconst hx hb dX7_addUse_31 kI_1 ?_
      refine lv_iload_n hx hb dX7_addUse_32 rfl (lv_at hl 1 rfl) ?_
      refine lv_ishl hx hb dX7_addUse_33 ?_
      refine lv_ior hx hb dX7_addUse_34 ?_
      refine SaR_7 hC hS hp.1 dX7_addUse_35 (fun w_3 H locs ew_3 hS => ?_)
      have hp := hp.2
      have hp := hp w_3 ew_3
      exact hR _ _ _ _ _ dX7_addUse_36 hp hS
def pX6_readPart_62 (qX6_readPart : (Wd → Prop) → Int32 → Int32 → Wd → Prop) (qX6_readNot : (Wd → Prop) → Int32 → Wd → Prop) (qX6_readUnit : (Wd → Prop) → Int32 → Wd → Prop) (post : Wd → Prop) : Nat → Int32 → Int32 → Int32 → Int32 → Wd → Prop
  | 0, _, _, _, _, _ => False
  | n + 1, x1, x2, x3, x4, w => (x3 ≤ x4 → (post w)) ∧ (¬ x3 ≤ x4 → ((¬ (w.1 30 2) = 0 → (post w)) ∧ ((w.1 30 2) = 0 → (pX8_rankOf (fun r_3 w_4 => (¬ r_3 = x1 → (post w_4)) ∧ (r_3 = x1 → (∀ x5_6, x5_6 = (w_4.1 30 5) → pX6_take (fun w_7 => qX6_readPart (fun w_8 => pX7_addCode (fun w_9 => ∀ x4_10, x4_10 = x4 + (1 : Int32) → pX6_readPart_62 qX6_readPart qX6_readNot qX6_readUnit post n x1 x2 x3 x4_10 w_9) (w_8.2.2.2.2 2) x5_6 w_8) (x1 + (1 : Int32)) x2 w_7) w_4))) (w.1 30 5) w))))
def pX6_readPart_58 (qX6_readPart : (Wd → Prop) → Int32 → Int32 → Wd → Prop) (qX6_readNot : (Wd → Prop) → Int32 → Wd → Prop) (qX6_readUnit : (Wd → Prop) → Int32 → Wd → Prop) (post : Wd → Prop) (x1 : Int32) (x2 : Int32) (t0 : Int32) (w : Wd) : Prop := ∃ n9, pX6_readPart_62 qX6_readPart qX6_readNot qX6_readUnit post n9 x1 x2 t0 (0 : Int32) w
def pX6_readPart_39 (qX6_readPart : (Wd → Prop) → Int32 → Int32 → Wd → Prop) (qX6_readNot : (Wd → Prop) → Int32 → Wd → Prop) (qX6_readUnit : (Wd → Prop) → Int32 → Wd → Prop) (post : Wd → Prop) (x1 : Int32) (x2 : Int32) (w : Wd) : Prop := qX6_readPart (fun w_1 => (¬ x1 = (2 : Int32) → (pX6_readPart_58 qX6_readPart qX6_readNot qX6_readUnit post x1 x2 (30 : Int32) w_1)) ∧ (x1 = (2 : Int32) → (pX6_readPart_58 qX6_readPart qX6_readNot qX6_readUnit post x1 x2 (1 : Int32) w_1))) (x1 + (1 : Int32)) x2 w
def pX6_readPart (qX6_readPart : (Wd → Prop) → Int32 → Int32 → Wd → Prop) (qX6_readNot : (Wd → Prop) → Int32 → Wd → Prop) (qX6_readUnit : (Wd → Prop) → Int32 → Wd → Prop) (post : Wd → Prop) (x1 : Int32) (x2 : Int32) (w : Wd) : Prop := ((w.1 30 2) = 0 → ((x1 < (5 : Int32) → ((¬ x1 = (2 : Int32) → (pX6_readPart_39 qX6_readPart qX6_readNot qX6_readUnit post x1 x2 w)) ∧ (x1 = (2 : Int32) → ((¬ (w.1 30 5) = (16 : Int32) → (pX6_readPart_39 qX6_readPart qX6_readNot qX6_readUnit post x1 x2 w)) ∧ ((w.1 30 5) = (16 : Int32) → (qX6_readNot (fun w_5 => post w_5) x2 w)))))) ∧ (¬ x1 < (5 : Int32) → (qX6_readUnit (fun w_6 => post w_6) x2 w)))) ∧ (¬ (w.1 30 2) = 0 → (post w))
set_option maxHeartbeats 4000000 in
set_option maxRecDepth 100000 in
theorem bX6_readPart_62 {p : Program} {l : Launch} {e : Env} {s : State} {m : MethodId} {args : Array Value} {below : List Frame} {meth : Method} {c : Code} {Q : State → Prop} {A : Nat → Prop} {g : Gw} {d : Nat} {qX6_readPart : (Wd → Prop) → Int32 → Int32 → Wd → Prop}  {qX6_readNot : (Wd → Prop) → Int32 → Wd → Prop}  {qX6_readUnit : (Wd → Prop) → Int32 → Wd → Prop} {post : Wd → Prop}  (hC : Cx p s m args c cX6_readPart RX6 6 g) (hR : RtV tabX p l e (rk (4 + d + 1)) s m args below meth c Q cX6_readPart A g post) (hqX6_readPart : ∀ {post : Wd → Prop} {x1 : Int32} {x2 : Int32} {w : Wd}, qX6_readPart post x1 x2 w → MtV tabX l yX6_readPart cX6_readPart 6 none (4 + d) g w [.ref (g.2.2 30), .int x1, .int x2] post) (hqX6_readNot : ∀ {post : Wd → Prop} {x1 : Int32} {w : Wd}, qX6_readNot post x1 w → MtV tabX l yX6_readNot cX6_readNot 2 none (4 + d) g w [.ref (g.2.2 30), .int x1] post) (hqX6_readUnit : ∀ {post : Wd → Prop} {x1 : Int32} {w : Wd}, qX6_readUnit post x1 w → MtV tabX l yX6_readUnit cX6_readUnit 6 none (4 + d) g w [.ref (g.2.2 30), .int x1] post) : ∀ (n : Nat) (x1 : Int32) (x2 : Int32) (x3 : Int32) (x4 : Int32) (w : Wd) (H : Heap) (locs : List Loc) (ls : Array Slot), pX6_readPart_62 qX6_readPart qX6_readNot qX6_readUnit post n x1 x2 x3 x4 w → St tabX A s.heap g w H locs → lv_has ls 6 [(0, .ref (g.2.2 30)), (1, .int x1), (2, .int x2), (3, .int x3), (4, .int x4)] → W p l e (rk (4 + d + 1)) s m args below meth c H locs 0 0 Q (F0 m 62 ls []) := by
  have hx := hC.1
  have hb := hC.2.1
  intro n
  induction n with
  | zero =>
    intro x1 x2 x3 x4 w H locs ls hp hS hl
    exact False.elim hp
  | succ n ih =>
    intro x1 x2 x3 x4 w H locs ls hp hS hl
    unfold pX6_readPart_62 at hp
    refine lv_iload hx hb dX6_readPart_62 (lv_at hl 4 rfl) ?_
    refine lv_iload_n hx hb dX6_readPart_64 rfl (lv_at hl 3 rfl) ?_
    refine lv_icmp_ge (tgt := 119) hx hb dX6_readPart_65 (by decide) (fun c_1 => ?_) (fun c_1 => ?_)
    · have hp := hp.1 c_1
      exact hR _ _ _ _ _ dX6_readPart_119 hp hS
    · have hp := hp.2 c_1
      refine lv_aload_n hx hb dX6_readPart_68 rfl (lv_at hl 0 rfl) ?_
      refine G_30_2 hC hS m383 dX6_readPart_69 ?_
      refine lv_if_ne (tgt := 119) hx hb dX6_readPart_72 (by decide) (fun c_2 => ?_) (fun c_2 => ?_)
      · have hp := hp.1 c_2
        exact hR _ _ _ _ _ dX6_readPart_119 hp hS
      · have hp := hp.2 c_2
        refine lv_aload_n hx hb dX6_readPart_75 rfl (lv_at hl 0 rfl) ?_
        refine G_30_5 hC hS m387 dX6_readPart_76 ?_
        refine q_csI (As := [.int (w.1 30 5)]) (rest := []) hC hS hl.1 (rX8_rankOf hp) cwX6_110 ysX8_rankOf rfl rfl (Nat.le_of_ble_eq_true rfl) (rmk (by omega) (by decide)) dX6_readPart_79 (fun r_3 w_4 H locs hp hS => ?_)
        refine lv_iload_n hx hb dX6_readPart_82 rfl (lv_at hl 1 rfl) ?_
        refine lv_icmp_ne (tgt := 119) hx hb dX6_readPart_83 (by decide) (fun c_5 => ?_) (fun c_5 => ?_)
        · have hp := hp.1 c_5
          exact hR _ _ _ _ _ dX6_readPart_119 hp hS
        · have hp := hp.2 c_5
          refine lv_aload_n hx hb dX6_readPart_86 rfl (lv_at hl 0 rfl) ?_
          refine G_30_5 hC hS m387 dX6_readPart_87 ?_
          refine lv_topi (fun x5_6 ex5_6 => ?_)
          have hp := hp x5_6 ex5_6
          refine lv_istore (lv' := [(5, .int x5_6), (0, .ref (g.2.2 30)), (1, .int x1), (2, .int x2), (3, .int x3), (4, .int x4)]) hx hb dX6_readPart_90 hl (by decide) rfl (fun ls hl => ?_)
          refine lv_aload_n hx hb dX6_readPart_92 rfl (lv_at hl 1 rfl) ?_
          refine q_cvV (As := []) (rest := []) hC hS hl.1 (rX6_take hp) cwX6_37 yvX6_take (rcv_30 hC hS) rfl rfl (Nat.le_of_ble_eq_true rfl) (rmk (by omega) (by decide)) dX6_readPart_93 (fun w_7 H locs hp hS => ?_)
          refine lv_aload_n hx hb dX6_readPart_96 rfl (lv_at hl 1 rfl) ?_
          refine lv_iload_n hx hb dX6_readPart_97 rfl (lv_at hl 2 rfl) ?_
          refine lv_iconst hx hb dX6_readPart_98 kI_1 ?_
          refine lv_iadd hx hb dX6_readPart_99 ?_
          refine lv_iload_n hx hb dX6_readPart_100 rfl (lv_at hl 3 rfl) ?_
          refine q_cvV (As := [.int (x1 + (1 : Int32)), .int x2]) (rest := []) hC hS hl.1 (hqX6_readPart hp) cwX6_97 yvX6_readPart (rcv_30 hC hS) rfl rfl (Nat.le_of_ble_eq_true rfl) (rmk (by omega) (by decide)) dX6_readPart_101 (fun w_8 H locs hp hS => ?_)
          refine lv_aload_n hx hb dX6_readPart_104 rfl (lv_at hl 1 rfl) ?_
          refine G_30_1 hC hS m150 dX6_readPart_105 ?_
          refine lv_iload hx hb dX6_readPart_108 (lv_at hl 0 rfl) ?_
          refine q_cvV (As := [.int x5_6]) (rest := []) hC hS hl.1 (rX7_addCode hp) cwX6_116 yvX7_addCode (rcvR hC hS) rfl rfl (Nat.le_of_ble_eq_true rfl) (rmk (by omega) (by decide)) dX6_readPart_110 (fun w_9 H locs hp hS => ?_)
          obtain ⟨x4_10, ex4_10⟩ : ∃ y : Int32, y = x4 + (1 : Int32) := ⟨_, rfl⟩
          have hp := hp x4_10 ex4_10
          refine lv_iinc (v := x4_10) (lv' := [(4, .int x4_10), (5, .int x5_6), (0, .ref (g.2.2 30)), (1, .int x1), (2, .int x2), (3, .int x3)]) hx hb dX6_readPart_113 hl (k := 5) rfl (by rw [ex4_10]; rfl) (by decide) rfl (fun ls hl => ?_)
          refine lv_goto (tgt := 62) hx hb dX6_readPart_116 (by decide) ?_
          exact ih x1 x2 x3 x4_10 w_9 _ _ _ hp hS (lv_sub hl [2, 3, 4, 5, 0] rfl)
set_option maxHeartbeats 4000000 in
set_option maxRecDepth 100000 in
theorem bX6_readPart_58 {p : Program} {l : Launch} {e : Env} {s : State} {m : MethodId} {args : Array Value} {below : List Frame} {meth : Method} {c : Code} {Q : State → Prop} {A : Nat → Prop} {g : Gw} {d : Nat} {qX6_readPart : (Wd → Prop) → Int32 → Int32 → Wd → Prop}  {qX6_readNot : (Wd → Prop) → Int32 → Wd → Prop}  {qX6_readUnit : (Wd → Prop) → Int32 → Wd → Prop} {post : Wd → Prop}  (hC : Cx p s m args c cX6_readPart RX6 6 g) (hR : RtV tabX p l e (rk (4 + d + 1)) s m args below meth c Q cX6_readPart A g post) (hqX6_readPart : ∀ {post : Wd → Prop} {x1 : Int32} {x2 : Int32} {w : Wd}, qX6_readPart post x1 x2 w → MtV tabX l yX6_readPart cX6_readPart 6 none (4 + d) g w [.ref (g.2.2 30), .int x1, .int x2] post) (hqX6_readNot : ∀ {post : Wd → Prop} {x1 : Int32} {w : Wd}, qX6_readNot post x1 w → MtV tabX l yX6_readNot cX6_readNot 2 none (4 + d) g w [.ref (g.2.2 30), .int x1] post) (hqX6_readUnit : ∀ {post : Wd → Prop} {x1 : Int32} {w : Wd}, qX6_readUnit post x1 w → MtV tabX l yX6_readUnit cX6_readUnit 6 none (4 + d) g w [.ref (g.2.2 30), .int x1] post) : ∀ (x1 : Int32) (x2 : Int32) (t0 : Int32) (w : Wd) (H : Heap) (locs : List Loc) (ls : Array Slot), pX6_readPart_58 qX6_readPart qX6_readNot qX6_readUnit post x1 x2 t0 w → St tabX A s.heap g w H locs → lv_has ls 6 [(0, .ref (g.2.2 30)), (1, .int x1), (2, .int x2)] → W p l e (rk (4 + d + 1)) s m args below meth c H locs 0 0 Q (F0 m 58 ls [.int t0]) := by
  have hx := hC.1
  have hb := hC.2.1
  intro x1 x2 t0 w H locs ls hp hS hl
  unfold pX6_readPart_58 at hp
  refine lv_istore_n (lv' := [(3, .int t0), (0, .ref (g.2.2 30)), (1, .int x1), (2, .int x2)]) hx hb dX6_readPart_58 rfl hl (by decide) rfl (fun ls hl => ?_)
  refine lv_iconst hx hb dX6_readPart_59 kI_0 ?_
  refine lv_istore (lv' := [(4, .int (0 : Int32)), (3, .int t0), (0, .ref (g.2.2 30)), (1, .int x1), (2, .int x2)]) hx hb dX6_readPart_60 hl (by decide) rfl (fun ls hl => ?_)
  obtain ⟨n9, hp⟩ := hp
  exact bX6_readPart_62 hC hR hqX6_readPart hqX6_readNot hqX6_readUnit n9 x1 x2 t0 (0 : Int32) w _ _ _ hp hS (lv_sub hl [2, 3, 4, 1, 0] rfl)
set_option maxHeartbeats 4000000 in
set_option maxRecDepth 100000 in
theorem bX6_readPart_39 {p : Program} {l : Launch} {e : Env} {s : State} {m : MethodId} {args : Array Value} {below : List Frame} {meth : Method} {c : Code} {Q : State → Prop} {A : Nat → Prop} {g : Gw} {d : Nat} {qX6_readPart : (Wd → Prop) → Int32 → Int32 → Wd → Prop}  {qX6_readNot : (Wd → Prop) → Int32 → Wd → Prop}  {qX6_readUnit : (Wd → Prop) → Int32 → Wd → Prop} {post : Wd → Prop}  (hC : Cx p s m args c cX6_readPart RX6 6 g) (hR : RtV tabX p l e (rk (4 + d + 1)) s m args below meth c Q cX6_readPart A g post) (hqX6_readPart : ∀ {post : Wd → Prop} {x1 : Int32} {x2 : Int32} {w : Wd}, qX6_readPart post x1 x2 w → MtV tabX l yX6_readPart cX6_readPart 6 none (4 + d) g w [.ref (g.2.2 30), .int x1, .int x2] post) (hqX6_readNot : ∀ {post : Wd → Prop} {x1 : Int32} {w : Wd}, qX6_readNot post x1 w → MtV tabX l yX6_readNot cX6_readNot 2 none (4 + d) g w [.ref (g.2.2 30), .int x1] post) (hqX6_readUnit : ∀ {post : Wd → Prop} {x1 : Int32} {w : Wd}, qX6_readUnit post x1 w → MtV tabX l yX6_readUnit cX6_readUnit 6 none (4 + d) g w [.ref (g.2.2 30), .int x1] post) : ∀ (x1 : Int32) (x2 : Int32) (w : Wd) (H : Heap) (locs : List Loc) (ls : Array Slot), pX6_readPart_39 qX6_readPart qX6_readNot qX6_readUnit post x1 x2 w → St tabX A s.heap g w H locs → lv_has ls 6 [(0, .ref (g.2.2 30)), (1, .int x1), (2, .int x2)] → W p l e (rk (4 + d + 1)) s m args below meth c H locs 0 0 Q (F0 m 39 ls []) := by
  have hx := hC.1
  have hb := hC.2.1
  intro x1 x2 w H locs ls hp hS hl
  unfold pX6_readPart_39 at hp
  refine lv_aload_n hx hb dX6_readPart_39 rfl (lv_at hl 0 rfl) ?_
  refine lv_iload_n hx hb dX6_readPart_40 rfl (lv_at hl 1 rfl) ?_
  refine lv_iconst hx hb dX6_readPart_41 kI_1 ?_
  refine lv_iadd hx hb dX6_readPart_42 ?_
  refine lv_iload_n hx hb dX6_readPart_43 rfl (lv_at hl 2 rfl) ?_
  refine q_cvV (As := [.int (x1 + (1 : Int32)), .int x2]) (rest := []) hC hS hl.1 (hqX6_readPart hp) cwX6_97 yvX6_readPart (rcv_30 hC hS) rfl rfl (Nat.le_of_ble_eq_true rfl) (rmk (by omega) (by decide)) dX6_readPart_44 (fun w_1 H locs hp hS => ?_)
  refine lv_iload_n hx hb dX6_readPart_47 rfl (lv_at hl 1 rfl) ?_
  refine lv_iconst hx hb dX6_readPart_48 kI_2 ?_
  refine lv_icmp_ne (tgt := 56) hx hb dX6_readPart_49 (by decide) (fun c_2 => ?_) (fun c_2 => ?_)
  · have hp := hp.1 c_2
    refine lv_bipush hx hb dX6_readPart_56 kB_30 ?_
    exact bX6_readPart_58 hC hR hqX6_readPart hqX6_readNot hqX6_readUnit x1 x2 (30 : Int32) w_1 _ _ _ hp hS (lv_sub hl [0, 1, 2] rfl)
  · have hp := hp.2 c_2
    refine lv_iconst hx hb dX6_readPart_52 kI_1 ?_
    refine lv_goto (tgt := 58) hx hb dX6_readPart_53 (by decide) ?_
    exact bX6_readPart_58 hC hR hqX6_readPart hqX6_readNot hqX6_readUnit x1 x2 (1 : Int32) w_1 _ _ _ hp hS (lv_sub hl [0, 1, 2] rfl)
set_option maxHeartbeats 4000000 in
set_option maxRecDepth 100000 in
theorem rX6_readPart {l : Launch} {g : Gw} {w : Wd} {d : Nat} {qX6_readPart : (Wd → Prop) → Int32 → Int32 → Wd → Prop} {qX6_readNot : (Wd → Prop) → Int32 → Wd → Prop} {qX6_readUnit : (Wd → Prop) → Int32 → Wd → Prop} {post : Wd → Prop}  (hqX6_readPart : ∀ {post : Wd → Prop} {x1 : Int32} {x2 : Int32} {w : Wd}, qX6_readPart post x1 x2 w → MtV tabX l yX6_readPart cX6_readPart 6 none (4 + d) g w [.ref (g.2.2 30), .int x1, .int x2] post) (hqX6_readNot : ∀ {post : Wd → Prop} {x1 : Int32} {w : Wd}, qX6_readNot post x1 w → MtV tabX l yX6_readNot cX6_readNot 2 none (4 + d) g w [.ref (g.2.2 30), .int x1] post) (hqX6_readUnit : ∀ {post : Wd → Prop} {x1 : Int32} {w : Wd}, qX6_readUnit post x1 w → MtV tabX l yX6_readUnit cX6_readUnit 6 none (4 + d) g w [.ref (g.2.2 30), .int x1] post) {x1 : Int32} {x2 : Int32} (hp : pX6_readPart qX6_readPart qX6_readNot qX6_readUnit post x1 x2 w) : MtV tabX l yX6_readPart cX6_readPart 6 none (4 + d + 1) g w [.ref (g.2.2 30), .int x1, .int x2] post := by
  refine q_entV tabX_nd (by decide) rfl (Nat.le_of_ble_eq_true rfl) ?_
  intro p e s m args below meth c A Q ls hC hR hS hl
  have hx := hC.1
  have hb := hC.2.1
  have hl : lv_has ls 6 [(0, .ref (g.2.2 30)), (1, .int x1), (2, .int x2)] := hl
  unfold pX6_readPart at hp
  refine lv_aload_n hx hb dX6_readPart_0 rfl (lv_at hl 0 rfl) ?_
  refine G_30_2 hC hS m383 dX6_readPart_1 ?_
  refine lv_if_eq (tgt := 8) hx hb dX6_readPart_4 (by decide) (fun c_1 => ?_) (fun c_1 => ?_)
  · have hp := hp.1 c_1
    refine lv_iload_n hx hb dX6_readPart_8 rfl (lv_at hl 1 rfl) ?_
    refine lv_iconst hx hb dX6_readPart_9 kI_5 ?_
    refine lv_icmp_lt (tgt := 19) hx hb dX6_readPart_10 (by decide) (fun c_2 => ?_) (fun c_2 => ?_)
    · have hp := hp.1 c_2
      refine lv_iload_n hx hb dX6_readPart_19 rfl (lv_at hl 1 rfl) ?_
      refine lv_iconst hx hb dX6_readPart_20 kI_2 ?_
      refine lv_icmp_ne (tgt := 39) hx hb dX6_readPart_21 (by decide) (fun c_3 => ?_) (fun c_3 => ?_)
      · have hp := hp.1 c_3
        exact bX6_readPart_39 hC hR hqX6_readPart hqX6_readNot hqX6_readUnit x1 x2 w _ _ _ hp hS (lv_sub hl [0, 1, 2] rfl)
      · have hp := hp.2 c_3
        refine lv_aload_n hx hb dX6_readPart_24 rfl (lv_at hl 0 rfl) ?_
        refine G_30_5 hC hS m387 dX6_readPart_25 ?_
        refine lv_bipush hx hb dX6_readPart_28 kB_16 ?_
        refine lv_icmp_ne (tgt := 39) hx hb dX6_readPart_30 (by decide) (fun c_4 => ?_) (fun c_4 => ?_)
        · have hp := hp.1 c_4
          exact bX6_readPart_39 hC hR hqX6_readPart hqX6_readNot hqX6_readUnit x1 x2 w _ _ _ hp hS (lv_sub hl [0, 1, 2] rfl)
        · have hp := hp.2 c_4
          refine lv_aload_n hx hb dX6_readPart_33 rfl (lv_at hl 0 rfl) ?_
          refine lv_iload_n hx hb dX6_readPart_34 rfl (lv_at hl 2 rfl) ?_
          refine q_cvV (As := [.int x2]) (rest := []) hC hS hl.1 (hqX6_readNot hp) cwX6_107 yvX6_readNot (rcv_30 hC hS) rfl rfl (Nat.le_of_ble_eq_true rfl) (rmk (by omega) (by decide)) dX6_readPart_35 (fun w_5 H locs hp hS => ?_)
          exact hR _ _ _ _ _ dX6_readPart_38 hp hS
    · have hp := hp.2 c_2
      refine lv_aload_n hx hb dX6_readPart_13 rfl (lv_at hl 0 rfl) ?_
      refine lv_iload_n hx hb dX6_readPart_14 rfl (lv_at hl 2 rfl) ?_
      refine q_cvV (As := [.int x2]) (rest := []) hC hS hl.1 (hqX6_readUnit hp) cwX6_104 yvX6_readUnit (rcv_30 hC hS) rfl rfl (Nat.le_of_ble_eq_true rfl) (rmk (by omega) (by decide)) dX6_readPart_15 (fun w_6 H locs hp hS => ?_)
      exact hR _ _ _ _ _ dX6_readPart_18 hp hS
  · have hp := hp.2 c_1
    exact hR _ _ _ _ _ dX6_readPart_7 hp hS
def pX6_readNot (qX6_readPart : (Wd → Prop) → Int32 → Int32 → Wd → Prop) (qX6_readNot : (Wd → Prop) → Int32 → Wd → Prop) (qX6_readUnit : (Wd → Prop) → Int32 → Wd → Prop) (post : Wd → Prop) (x1 : Int32) (w : Wd) : Prop := (x1 < (7 : Int32) → (pX6_take (fun w_2 => qX6_readPart (fun w_3 => pX7_addCode (fun w_4 => post w_4) (w_3.2.2.2.2 2) (16 : Int32) w_3) (2 : Int32) (x1 + (1 : Int32)) w_2) w)) ∧ (¬ x1 < (7 : Int32) → (pX6_fail (fun w_5 => post w_5) (2 : Int32) w))
set_option maxHeartbeats 4000000 in
set_option maxRecDepth 100000 in
theorem rX6_readNot {l : Launch} {g : Gw} {w : Wd} {d : Nat} {qX6_readPart : (Wd → Prop) → Int32 → Int32 → Wd → Prop} {qX6_readNot : (Wd → Prop) → Int32 → Wd → Prop} {qX6_readUnit : (Wd → Prop) → Int32 → Wd → Prop} {post : Wd → Prop}  (hqX6_readPart : ∀ {post : Wd → Prop} {x1 : Int32} {x2 : Int32} {w : Wd}, qX6_readPart post x1 x2 w → MtV tabX l yX6_readPart cX6_readPart 6 none (4 + d) g w [.ref (g.2.2 30), .int x1, .int x2] post) (hqX6_readNot : ∀ {post : Wd → Prop} {x1 : Int32} {w : Wd}, qX6_readNot post x1 w → MtV tabX l yX6_readNot cX6_readNot 2 none (4 + d) g w [.ref (g.2.2 30), .int x1] post) (hqX6_readUnit : ∀ {post : Wd → Prop} {x1 : Int32} {w : Wd}, qX6_readUnit post x1 w → MtV tabX l yX6_readUnit cX6_readUnit 6 none (4 + d) g w [.ref (g.2.2 30), .int x1] post) {x1 : Int32} (hp : pX6_readNot qX6_readPart qX6_readNot qX6_readUnit post x1 w) : MtV tabX l yX6_readNot cX6_readNot 2 none (4 + d + 1) g w [.ref (g.2.2 30), .int x1] post := by
  refine q_entV tabX_nd (by decide) rfl (Nat.le_of_ble_eq_true rfl) ?_
  intro p e s m args below meth c A Q ls hC hR hS hl
  have hx := hC.1
  have hb := hC.2.1
  have hl : lv_has ls 2 [(0, .ref (g.2.2 30)), (1, .int x1)] := hl
  unfold pX6_readNot at hp
  refine lv_iload_n hx hb dX6_readNot_0 rfl (lv_at hl 1 rfl) ?_
  refine lv_bipush hx hb dX6_readNot_1 kB_7 ?_
  refine lv_icmp_lt (tgt := 12) hx hb dX6_readNot_3 (by decide) (fun c_1 => ?_) (fun c_1 => ?_)
  · have hp := hp.1 c_1
    refine lv_aload_n hx hb dX6_readNot_12 rfl (lv_at hl 0 rfl) ?_
    refine q_cvV (As := []) (rest := []) hC hS hl.1 (rX6_take hp) cwX6_37 yvX6_take (rcv_30 hC hS) rfl rfl (Nat.le_of_ble_eq_true rfl) (rmk (by omega) (by decide)) dX6_readNot_13 (fun w_2 H locs hp hS => ?_)
    refine lv_aload_n hx hb dX6_readNot_16 rfl (lv_at hl 0 rfl) ?_
    refine lv_iconst hx hb dX6_readNot_17 kI_2 ?_
    refine lv_iload_n hx hb dX6_readNot_18 rfl (lv_at hl 1 rfl) ?_
    refine lv_iconst hx hb dX6_readNot_19 kI_1 ?_
    refine lv_iadd hx hb dX6_readNot_20 ?_
    refine q_cvV (As := [.int (2 : Int32), .int (x1 + (1 : Int32))]) (rest := []) hC hS hl.1 (hqX6_readPart hp) cwX6_97 yvX6_readPart (rcv_30 hC hS) rfl rfl (Nat.le_of_ble_eq_true rfl) (rmk (by omega) (by decide)) dX6_readNot_21 (fun w_3 H locs hp hS => ?_)
    refine lv_aload_n hx hb dX6_readNot_24 rfl (lv_at hl 0 rfl) ?_
    refine G_30_1 hC hS m150 dX6_readNot_25 ?_
    refine lv_bipush hx hb dX6_readNot_28 kB_16 ?_
    refine q_cvV (As := [.int (16 : Int32)]) (rest := []) hC hS hl.1 (rX7_addCode hp) cwX6_116 yvX7_addCode (rcvR hC hS) rfl rfl (Nat.le_of_ble_eq_true rfl) (rmk (by omega) (by decide)) dX6_readNot_30 (fun w_4 H locs hp hS => ?_)
    exact hR _ _ _ _ _ dX6_readNot_33 hp hS
  · have hp := hp.2 c_1
    refine lv_aload_n hx hb dX6_readNot_6 rfl (lv_at hl 0 rfl) ?_
    refine lv_iconst hx hb dX6_readNot_7 kI_2 ?_
    refine q_cvV (As := [.int (2 : Int32)]) (rest := []) hC hS hl.1 (rX6_fail hp) cwX6_50 yvX6_fail (rcv_30 hC hS) rfl rfl (Nat.le_of_ble_eq_true rfl) (rmk (by omega) (by decide)) dX6_readNot_8 (fun w_5 H locs hp hS => ?_)
    exact hR _ _ _ _ _ dX6_readNot_11 hp hS
def pX6_readUnit_57 (qX6_readPart : (Wd → Prop) → Int32 → Int32 → Wd → Prop) (qX6_readNot : (Wd → Prop) → Int32 → Wd → Prop) (qX6_readUnit : (Wd → Prop) → Int32 → Wd → Prop) (post : Wd → Prop) (x1 : Int32) (x2 : Int32) (x3 : Int32) (x4 : Int32) (t0 : Int32) (w : Wd) : Prop := (x4 = 0 → (pX6_fail (fun w_2 => post w_2) (2 : Int32) w)) ∧ (¬ x4 = 0 → ((¬ t0 = 0 → (pX6_fail (fun w_4 => post w_4) (2 : Int32) w)) ∧ (t0 = 0 → (((30 : Int32) ≤ (w.1 30 8) → (pX6_fail (fun w_6 => post w_6) (2 : Int32) w)) ∧ (¬ (30 : Int32) ≤ (w.1 30 8) → (((w.1 (rl (w.2.2.2.2 2)) 5) < (90 : Int32) → (∀ w_8, w_8 = sI w 30 8 ((w.1 30 8) + (1 : Int32)) → ∀ w_9, w_9 = sI w_8 (rl (w_8.2.2.2.2 2)) 5 ((w_8.1 (rl (w_8.2.2.2.2 2)) 5) + (1 : Int32)) → pX6_take (fun w_10 => (¬ x2 = (40 : Int32) → ((¬ x2 = (21 : Int32) → (pX7_addCode (fun w_13 => pX7_addUse (fun w_14 => post w_14) (w_13.2.2.2.2 2) x2 w_13) (w_10.2.2.2.2 2) x2 w_10)) ∧ (x2 = (21 : Int32) → (pX7_addCode (fun w_15 => post w_15) (w_10.2.2.2.2 2) ((128 : Int32) + x3) w_10)))) ∧ (x2 = (40 : Int32) → (qX6_readPart (fun w_16 => pX6_expect (fun w_17 => post w_17) (41 : Int32) w_16) (0 : Int32) (x1 + (1 : Int32)) w_10))) w_9)) ∧ (¬ (w.1 (rl (w.2.2.2.2 2)) 5) < (90 : Int32) → (pX6_fail (fun w_18 => post w_18) (2 : Int32) w))))))))
def pX6_readUnit_56 (qX6_readPart : (Wd → Prop) → Int32 → Int32 → Wd → Prop) (qX6_readNot : (Wd → Prop) → Int32 → Wd → Prop) (qX6_readUnit : (Wd → Prop) → Int32 → Wd → Prop) (post : Wd → Prop) (x1 : Int32) (x2 : Int32) (x3 : Int32) (x4 : Int32) (w : Wd) : Prop := pX6_readUnit_57 qX6_readPart qX6_readNot qX6_readUnit post x1 x2 x3 x4 (0 : Int32) w
def pX6_readUnit_38 (qX6_readPart : (Wd → Prop) → Int32 → Int32 → Wd → Prop) (qX6_readNot : (Wd → Prop) → Int32 → Wd → Prop) (qX6_readUnit : (Wd → Prop) → Int32 → Wd → Prop) (post : Wd → Prop) (x1 : Int32) (x2 : Int32) (x3 : Int32) (t0 : Int32) (w : Wd) : Prop := (¬ x2 = (40 : Int32) → (pX6_readUnit_56 qX6_readPart qX6_readNot qX6_readUnit post x1 x2 x3 t0 w)) ∧ (x2 = (40 : Int32) → ((x1 < (7 : Int32) → (pX6_readUnit_56 qX6_readPart qX6_readNot qX6_readUnit post x1 x2 x3 t0 w)) ∧ (¬ x1 < (7 : Int32) → (pX6_readUnit_57 qX6_readPart qX6_readNot qX6_readUnit post x1 x2 x3 t0 (1 : Int32) w))))
def pX6_readUnit_37 (qX6_readPart : (Wd → Prop) → Int32 → Int32 → Wd → Prop) (qX6_readNot : (Wd → Prop) → Int32 → Wd → Prop) (qX6_readUnit : (Wd → Prop) → Int32 → Wd → Prop) (post : Wd → Prop) (x1 : Int32) (x2 : Int32) (x3 : Int32) (w : Wd) : Prop := pX6_readUnit_38 qX6_readPart qX6_readNot qX6_readUnit post x1 x2 x3 (0 : Int32) w
def pX6_readUnit_33 (qX6_readPart : (Wd → Prop) → Int32 → Int32 → Wd → Prop) (qX6_readNot : (Wd → Prop) → Int32 → Wd → Prop) (qX6_readUnit : (Wd → Prop) → Int32 → Wd → Prop) (post : Wd → Prop) (x1 : Int32) (x2 : Int32) (x3 : Int32) (w : Wd) : Prop := pX6_readUnit_38 qX6_readPart qX6_readNot qX6_readUnit post x1 x2 x3 (1 : Int32) w
def pX6_readUnit (qX6_readPart : (Wd → Prop) → Int32 → Int32 → Wd → Prop) (qX6_readNot : (Wd → Prop) → Int32 → Wd → Prop) (qX6_readUnit : (Wd → Prop) → Int32 → Wd → Prop) (post : Wd → Prop) (x1 : Int32) (w : Wd) : Prop := ∀ x2_1, x2_1 = (w.1 30 5) → ∀ x3_2, x3_2 = ((w.2.2.1 30 6)).toInt32 → (x2_1 = (21 : Int32) → (pX6_readUnit_33 qX6_readPart qX6_readNot qX6_readUnit post x1 x2_1 x3_2 w)) ∧ (¬ x2_1 = (21 : Int32) → ((x2_1 = (40 : Int32) → (pX6_readUnit_33 qX6_readPart qX6_readNot qX6_readUnit post x1 x2_1 x3_2 w)) ∧ (¬ x2_1 = (40 : Int32) → ((x2_1 < 0 → (pX6_readUnit_37 qX6_readPart qX6_readNot qX6_readUnit post x1 x2_1 x3_2 w)) ∧ (¬ x2_1 < 0 → (((8 : Int32) ≤ x2_1 → (pX6_readUnit_37 qX6_readPart qX6_readNot qX6_readUnit post x1 x2_1 x3_2 w)) ∧ (¬ (8 : Int32) ≤ x2_1 → (pX6_readUnit_33 qX6_readPart qX6_readNot qX6_readUnit post x1 x2_1 x3_2 w))))))))
set_option maxHeartbeats 4000000 in
set_option maxRecDepth 100000 in
theorem bX6_readUnit_57 {p : Program} {l : Launch} {e : Env} {s : State} {m : MethodId} {args : Array Value} {below : List Frame} {meth : Method} {c : Code} {Q : State → Prop} {A : Nat → Prop} {g : Gw} {d : Nat} {qX6_readPart : (Wd → Prop) → Int32 → Int32 → Wd → Prop}  {qX6_readNot : (Wd → Prop) → Int32 → Wd → Prop}  {qX6_readUnit : (Wd → Prop) → Int32 → Wd → Prop} {post : Wd → Prop}  (hC : Cx p s m args c cX6_readUnit RX6 6 g) (hR : RtV tabX p l e (rk (4 + d + 1)) s m args below meth c Q cX6_readUnit A g post) (hqX6_readPart : ∀ {post : Wd → Prop} {x1 : Int32} {x2 : Int32} {w : Wd}, qX6_readPart post x1 x2 w → MtV tabX l yX6_readPart cX6_readPart 6 none (4 + d) g w [.ref (g.2.2 30), .int x1, .int x2] post) (hqX6_readNot : ∀ {post : Wd → Prop} {x1 : Int32} {w : Wd}, qX6_readNot post x1 w → MtV tabX l yX6_readNot cX6_readNot 2 none (4 + d) g w [.ref (g.2.2 30), .int x1] post) (hqX6_readUnit : ∀ {post : Wd → Prop} {x1 : Int32} {w : Wd}, qX6_readUnit post x1 w → MtV tabX l yX6_readUnit cX6_readUnit 6 none (4 + d) g w [.ref (g.2.2 30), .int x1] post) : ∀ (x1 : Int32) (x2 : Int32) (x3 : Int32) (x4 : Int32) (t0 : Int32) (w : Wd) (H : Heap) (locs : List Loc) (ls : Array Slot), pX6_readUnit_57 qX6_readPart qX6_readNot qX6_readUnit post x1 x2 x3 x4 t0 w → St tabX A s.heap g w H locs → lv_has ls 6 [(0, .ref (g.2.2 30)), (1, .int x1), (2, .int x2), (3, .int x3), (4, .int x4)] → W p l e (rk (4 + d + 1)) s m args below meth c H locs 0 0 Q (F0 m 57 ls [.int t0]) := by
  have hx := hC.1
  have hb := hC.2.1
  intro x1 x2 x3 x4 t0 w H locs ls hp hS hl
  unfold pX6_readUnit_57 at hp
  refine lv_istore (lv' := [(5, .int t0), (0, .ref (g.2.2 30)), (1, .int x1), (2, .int x2), (3, .int x3), (4, .int x4)]) hx hb dX6_readUnit_57 hl (by decide) rfl (fun ls hl => ?_)
  refine lv_iload hx hb dX6_readUnit_59 (lv_at hl 5 rfl) ?_
  refine lv_if_eq (tgt := 90) hx hb dX6_readUnit_61 (by decide) (fun c_1 => ?_) (fun c_1 => ?_)
  · have hp := hp.1 c_1
    refine lv_aload_n hx hb dX6_readUnit_90 rfl (lv_at hl 1 rfl) ?_
    refine lv_iconst hx hb dX6_readUnit_91 kI_2 ?_
    refine q_cvV (As := [.int (2 : Int32)]) (rest := []) hC hS hl.1 (rX6_fail hp) cwX6_50 yvX6_fail (rcv_30 hC hS) rfl rfl (Nat.le_of_ble_eq_true rfl) (rmk (by omega) (by decide)) dX6_readUnit_92 (fun w_2 H locs hp hS => ?_)
    exact hR _ _ _ _ _ dX6_readUnit_95 hp hS
  · have hp := hp.2 c_1
    refine lv_iload hx hb dX6_readUnit_64 (lv_at hl 0 rfl) ?_
    refine lv_if_ne (tgt := 90) hx hb dX6_readUnit_66 (by decide) (fun c_3 => ?_) (fun c_3 => ?_)
    · have hp := hp.1 c_3
      refine lv_aload_n hx hb dX6_readUnit_90 rfl (lv_at hl 1 rfl) ?_
      refine lv_iconst hx hb dX6_readUnit_91 kI_2 ?_
      refine q_cvV (As := [.int (2 : Int32)]) (rest := []) hC hS hl.1 (rX6_fail hp) cwX6_50 yvX6_fail (rcv_30 hC hS) rfl rfl (Nat.le_of_ble_eq_true rfl) (rmk (by omega) (by decide)) dX6_readUnit_92 (fun w_4 H locs hp hS => ?_)
      exact hR _ _ _ _ _ dX6_readUnit_95 hp hS
    · have hp := hp.2 c_3
      refine lv_aload_n hx hb dX6_readUnit_69 rfl (lv_at hl 1 rfl) ?_
      refine G_30_8 hC hS m427 dX6_readUnit_70 ?_
      refine lv_bipush hx hb dX6_readUnit_73 kB_30 ?_
      refine lv_icmp_ge (tgt := 90) hx hb dX6_readUnit_75 (by decide) (fun c_5 => ?_) (fun c_5 => ?_)
      · have hp := hp.1 c_5
        refine lv_aload_n hx hb dX6_readUnit_90 rfl (lv_at hl 1 rfl) ?_
        refine lv_iconst hx hb dX6_readUnit_91 kI_2 ?_
        refine q_cvV (As := [.int (2 : Int32)]) (rest := []) hC hS hl.1 (rX6_fail hp) cwX6_50 yvX6_fail (rcv_30 hC hS) rfl rfl (Nat.le_of_ble_eq_true rfl) (rmk (by omega) (by decide)) dX6_readUnit_92 (fun w_6 H locs hp hS => ?_)
        exact hR _ _ _ _ _ dX6_readUnit_95 hp hS
      · have hp := hp.2 c_5
        refine lv_aload_n hx hb dX6_readUnit_78 rfl (lv_at hl 1 rfl) ?_
        refine G_30_1 hC hS m150 dX6_readUnit_79 ?_
        refine GR_5 hC hS m457 dX6_readUnit_82 ?_
        refine lv_bipush hx hb dX6_readUnit_85 kB_90 ?_
        refine lv_icmp_lt (tgt := 96) hx hb dX6_readUnit_87 (by decide) (fun c_7 => ?_) (fun c_7 => ?_)
        · have hp := hp.1 c_7
          refine lv_aload_n hx hb dX6_readUnit_96 rfl (lv_at hl 1 rfl) ?_
          refine lv_dup hx hb dX6_readUnit_97 rfl ?_
          refine G_30_8 hC hS m427 dX6_readUnit_98 ?_
          refine lv_iconst hx hb dX6_readUnit_101 kI_1 ?_
          refine lv_iadd hx hb dX6_readUnit_102 ?_
          refine P_30_8 hC hS m427 dX6_readUnit_103 (fun w_8 H locs ew_8 hS => ?_)
          have hp := hp w_8 ew_8
          refine lv_aload_n hx hb dX6_readUnit_106 rfl (lv_at hl 1 rfl) ?_
          refine G_30_1 hC hS m150 dX6_readUnit_107 ?_
          refine lv_dup hx hb dX6_readUnit_110 rfl ?_
          refine GR_5 hC hS m457 dX6_readUnit_111 ?_
          refine lv_iconst hx hb dX6_readUnit_114 kI_1 ?_
          refine lv_iadd hx hb dX6_readUnit_115 ?_
          refine PR_5 hC hS m457 dX6_readUnit_116 (fun w_9 H locs ew_9 hS => ?_)
          have hp := hp w_9 ew_9
          refine lv_aload_n hx hb dX6_readUnit_119 rfl (lv_at hl 1 rfl) ?_
          refine q_cvV (As := []) (rest := []) hC hS hl.1 (rX6_take hp) cwX6_37 yvX6_take (rcv_30 hC hS) rfl rfl (Nat.le_of_ble_eq_true rfl) (rmk (by omega) (by decide)) dX6_readUnit_120 (fun w_10 H locs hp hS => ?_)
          refine lv_iload_n hx hb dX6_readUnit_123 rfl (lv_at hl 3 rfl) ?_
          refine lv_bipush hx hb dX6_readUnit_124 kB_40 ?_
          refine lv_icmp_ne (tgt := 146) hx hb dX6_readUnit_126 (by decide) (fun c_11 => ?_) (fun c_11 => ?_)
          · have hp := hp.1 c_11
            refine lv_iload_n hx hb dX6_readUnit_146 rfl (lv_at hl 3 rfl) ?_
            refine lv_bipush hx hb dX6_readUnit_147 kB_21 ?_
            refine lv_icmp_ne (tgt := 167) hx hb dX6_readUnit_149 (by decide) (fun c_12 => ?_) (fun c_12 => ?_)
            · have hp := hp.1 c_12
              refine lv_aload_n hx hb dX6_readUnit_167 rfl (lv_at hl 1 rfl) ?_
              refine G_30_1 hC hS m150 dX6_readUnit_168 ?_
              refine lv_iload_n hx hb dX6_readUnit_171 rfl (lv_at hl 3 rfl) ?_
              refine q_cvV (As := [.int x2]) (rest := []) hC hS hl.1 (rX7_addCode hp) cwX6_116 yvX7_addCode (rcvR hC hS) rfl rfl (Nat.le_of_ble_eq_true rfl) (rmk (by omega) (by decide)) dX6_readUnit_172 (fun w_13 H locs hp hS => ?_)
              refine lv_aload_n hx hb dX6_readUnit_175 rfl (lv_at hl 1 rfl) ?_
              refine G_30_1 hC hS m150 dX6_readUnit_176 ?_
              refine lv_iload_n hx hb dX6_readUnit_179 rfl (lv_at hl 3 rfl) ?_
              refine q_cvV (As := [.int x2]) (rest := []) hC hS hl.1 (rX7_addUse hp) cwX6_122 yvX7_addUse (rcvR hC hS) rfl rfl (Nat.le_of_ble_eq_true rfl) (rmk (by omega) (by decide)) dX6_readUnit_180 (fun w_14 H locs hp hS => ?_)
              exact hR _ _ _ _ _ dX6_readUnit_183 hp hS
            · have hp := hp.2 c_12
              refine lv_aload_n hx hb dX6_readUnit_152 rfl (lv_at hl 1 rfl) ?_
              refine G_30_1 hC hS m150 dX6_readUnit_153 ?_
              refine lv_sipush hx hb dX6_readUnit_156 kS_128 ?_
              refine lv_iload_n hx hb dX6_readUnit_159 rfl (lv_at hl 4 rfl) ?_
              refine lv_iadd hx hb dX6_readUnit_160 ?_
              refine q_cvV (As := [.int ((128 : Int32) + x3)]) (rest := []) hC hS hl.1 (rX7_addCode hp) cwX6_116 yvX7_addCode (rcvR hC hS) rfl rfl (Nat.le_of_ble_eq_true rfl) (rmk (by omega) (by decide)) dX6_readUnit_161 (fun w_15 H locs hp hS => ?_)
              refine lv_goto (tgt := 183) hx hb dX6_readUnit_164 (by decide) ?_
              exact hR _ _ _ _ _ dX6_readUnit_183 hp hS
          · have hp := hp.2 c_11
            refine lv_aload_n hx hb dX6_readUnit_129 rfl (lv_at hl 1 rfl) ?_
            refine lv_iconst hx hb dX6_readUnit_130 kI_0 ?_
            refine lv_iload_n hx hb dX6_readUnit_131 rfl (lv_at hl 2 rfl) ?_
            refine lv_iconst hx hb dX6_readUnit_132 kI_1 ?_
            refine lv_iadd hx hb dX6_readUnit_133 ?_
            refine q_cvV (As := [.int (0 : Int32), .int (x1 + (1 : Int32))]) (rest := []) hC hS hl.1 (hqX6_readPart hp) cwX6_97 yvX6_readPart (rcv_30 hC hS) rfl rfl (Nat.le_of_ble_eq_true rfl) (rmk (by omega) (by decide)) dX6_readUnit_134 (fun w_16 H locs hp hS => ?_)
            refine lv_aload_n hx hb dX6_readUnit_137 rfl (lv_at hl 1 rfl) ?_
            refine lv_bipush hx hb dX6_readUnit_138 kB_41 ?_
            refine q_cvV (As := [.int (41 : Int32)]) (rest := []) hC hS hl.1 (rX6_expect hp) cwX6_73 yvX6_expect (rcv_30 hC hS) rfl rfl (Nat.le_of_ble_eq_true rfl) (rmk (by omega) (by decide)) dX6_readUnit_140 (fun w_17 H locs hp hS => ?_)
            refine lv_goto (tgt := 183) hx hb dX6_readUnit_143 (by decide) ?_
            exact hR _ _ _ _ _ dX6_readUnit_183 hp hS
        · have hp := hp.2 c_7
          refine lv_aload_n hx hb dX6_readUnit_90 rfl (lv_at hl 1 rfl) ?_
          refine lv_iconst hx hb dX6_readUnit_91 kI_2 ?_
          refine q_cvV (As := [.int (2 : Int32)]) (rest := []) hC hS hl.1 (rX6_fail hp) cwX6_50 yvX6_fail (rcv_30 hC hS) rfl rfl (Nat.le_of_ble_eq_true rfl) (rmk (by omega) (by decide)) dX6_readUnit_92 (fun w_18 H locs hp hS => ?_)
          exact hR _ _ _ _ _ dX6_readUnit_95 hp hS
set_option maxHeartbeats 4000000 in
set_option maxRecDepth 100000 in
theorem bX6_readUnit_56 {p : Program} {l : Launch} {e : Env} {s : State} {m : MethodId} {args : Array Value} {below : List Frame} {meth : Method} {c : Code} {Q : State → Prop} {A : Nat → Prop} {g : Gw} {d : Nat} {qX6_readPart : (Wd → Prop) → Int32 → Int32 → Wd → Prop}  {qX6_readNot : (Wd → Prop) → Int32 → Wd → Prop}  {qX6_readUnit : (Wd → Prop) → Int32 → Wd → Prop} {post : Wd → Prop}  (hC : Cx p s m args c cX6_readUnit RX6 6 g) (hR : RtV tabX p l e (rk (4 + d + 1)) s m args below meth c Q cX6_readUnit A g post) (hqX6_readPart : ∀ {post : Wd → Prop} {x1 : Int32} {x2 : Int32} {w : Wd}, qX6_readPart post x1 x2 w → MtV tabX l yX6_readPart cX6_readPart 6 none (4 + d) g w [.ref (g.2.2 30), .int x1, .int x2] post) (hqX6_readNot : ∀ {post : Wd → Prop} {x1 : Int32} {w : Wd}, qX6_readNot post x1 w → MtV tabX l yX6_readNot cX6_readNot 2 none (4 + d) g w [.ref (g.2.2 30), .int x1] post) (hqX6_readUnit : ∀ {post : Wd → Prop} {x1 : Int32} {w : Wd}, qX6_readUnit post x1 w → MtV tabX l yX6_readUnit cX6_readUnit 6 none (4 + d) g w [.ref (g.2.2 30), .int x1] post) : ∀ (x1 : Int32) (x2 : Int32) (x3 : Int32) (x4 : Int32) (w : Wd) (H : Heap) (locs : List Loc) (ls : Array Slot), pX6_readUnit_56 qX6_readPart qX6_readNot qX6_readUnit post x1 x2 x3 x4 w → St tabX A s.heap g w H locs → lv_has ls 6 [(0, .ref (g.2.2 30)), (1, .int x1), (2, .int x2), (3, .int x3), (4, .int x4)] → W p l e (rk (4 + d + 1)) s m args below meth c H locs 0 0 Q (F0 m 56 ls []) := by
  have hx := hC.1
  have hb := hC.2.1
  intro x1 x2 x3 x4 w H locs ls hp hS hl
  unfold pX6_readUnit_56 at hp
  refine lv_iconst hx hb dX6_readUnit_56 kI_0 ?_
  exact bX6_readUnit_57 hC hR hqX6_readPart hqX6_readNot hqX6_readUnit x1 x2 x3 x4 (0 : Int32) w _ _ _ hp hS (lv_sub hl [0, 1, 2, 3, 4] rfl)
set_option maxHeartbeats 4000000 in
set_option maxRecDepth 100000 in
theorem bX6_readUnit_38 {p : Program} {l : Launch} {e : Env} {s : State} {m : MethodId} {args : Array Value} {below : List Frame} {meth : Method} {c : Code} {Q : State → Prop} {A : Nat → Prop} {g : Gw} {d : Nat} {qX6_readPart : (Wd → Prop) → Int32 → Int32 → Wd → Prop}  {qX6_readNot : (Wd → Prop) → Int32 → Wd → Prop}  {qX6_readUnit : (Wd → Prop) → Int32 → Wd → Prop} {post : Wd → Prop}  (hC : Cx p s m args c cX6_readUnit RX6 6 g) (hR : RtV tabX p l e (rk (4 + d + 1)) s m args below meth c Q cX6_readUnit A g post) (hqX6_readPart : ∀ {post : Wd → Prop} {x1 : Int32} {x2 : Int32} {w : Wd}, qX6_readPart post x1 x2 w → MtV tabX l yX6_readPart cX6_readPart 6 none (4 + d) g w [.ref (g.2.2 30), .int x1, .int x2] post) (hqX6_readNot : ∀ {post : Wd → Prop} {x1 : Int32} {w : Wd}, qX6_readNot post x1 w → MtV tabX l yX6_readNot cX6_readNot 2 none (4 + d) g w [.ref (g.2.2 30), .int x1] post) (hqX6_readUnit : ∀ {post : Wd → Prop} {x1 : Int32} {w : Wd}, qX6_readUnit post x1 w → MtV tabX l yX6_readUnit cX6_readUnit 6 none (4 + d) g w [.ref (g.2.2 30), .int x1] post) : ∀ (x1 : Int32) (x2 : Int32) (x3 : Int32) (t0 : Int32) (w : Wd) (H : Heap) (locs : List Loc) (ls : Array Slot), pX6_readUnit_38 qX6_readPart qX6_readNot qX6_readUnit post x1 x2 x3 t0 w → St tabX A s.heap g w H locs → lv_has ls 6 [(0, .ref (g.2.2 30)), (1, .int x1), (2, .int x2), (3, .int x3)] → W p l e (rk (4 + d + 1)) s m args below meth c H locs 0 0 Q (F0 m 38 ls [.int t0]) := by
  have hx := hC.1
  have hb := hC.2.1
  intro x1 x2 x3 t0 w H locs ls hp hS hl
  unfold pX6_readUnit_38 at hp
  refine lv_istore (lv' := [(4, .int t0), (0, .ref (g.2.2 30)), (1, .int x1), (2, .int x2), (3, .int x3)]) hx hb dX6_readUnit_38 hl (by decide) rfl (fun ls hl => ?_)
  refine lv_iload_n hx hb dX6_readUnit_40 rfl (lv_at hl 3 rfl) ?_
  refine lv_bipush hx hb dX6_readUnit_41 kB_40 ?_
  refine lv_icmp_ne (tgt := 56) hx hb dX6_readUnit_43 (by decide) (fun c_1 => ?_) (fun c_1 => ?_)
  · have hp := hp.1 c_1
    exact bX6_readUnit_56 hC hR hqX6_readPart hqX6_readNot hqX6_readUnit x1 x2 x3 t0 w _ _ _ hp hS (lv_sub hl [1, 2, 3, 4, 0] rfl)
  · have hp := hp.2 c_1
    refine lv_iload_n hx hb dX6_readUnit_46 rfl (lv_at hl 2 rfl) ?_
    refine lv_bipush hx hb dX6_readUnit_47 kB_7 ?_
    refine lv_icmp_lt (tgt := 56) hx hb dX6_readUnit_49 (by decide) (fun c_2 => ?_) (fun c_2 => ?_)
    · have hp := hp.1 c_2
      exact bX6_readUnit_56 hC hR hqX6_readPart hqX6_readNot hqX6_readUnit x1 x2 x3 t0 w _ _ _ hp hS (lv_sub hl [1, 2, 3, 4, 0] rfl)
    · have hp := hp.2 c_2
      refine lv_iconst hx hb dX6_readUnit_52 kI_1 ?_
      refine lv_goto (tgt := 57) hx hb dX6_readUnit_53 (by decide) ?_
      exact bX6_readUnit_57 hC hR hqX6_readPart hqX6_readNot hqX6_readUnit x1 x2 x3 t0 (1 : Int32) w _ _ _ hp hS (lv_sub hl [1, 2, 3, 4, 0] rfl)
set_option maxHeartbeats 4000000 in
set_option maxRecDepth 100000 in
theorem bX6_readUnit_37 {p : Program} {l : Launch} {e : Env} {s : State} {m : MethodId} {args : Array Value} {below : List Frame} {meth : Method} {c : Code} {Q : State → Prop} {A : Nat → Prop} {g : Gw} {d : Nat} {qX6_readPart : (Wd → Prop) → Int32 → Int32 → Wd → Prop}  {qX6_readNot : (Wd → Prop) → Int32 → Wd → Prop}  {qX6_readUnit : (Wd → Prop) → Int32 → Wd → Prop} {post : Wd → Prop}  (hC : Cx p s m args c cX6_readUnit RX6 6 g) (hR : RtV tabX p l e (rk (4 + d + 1)) s m args below meth c Q cX6_readUnit A g post) (hqX6_readPart : ∀ {post : Wd → Prop} {x1 : Int32} {x2 : Int32} {w : Wd}, qX6_readPart post x1 x2 w → MtV tabX l yX6_readPart cX6_readPart 6 none (4 + d) g w [.ref (g.2.2 30), .int x1, .int x2] post) (hqX6_readNot : ∀ {post : Wd → Prop} {x1 : Int32} {w : Wd}, qX6_readNot post x1 w → MtV tabX l yX6_readNot cX6_readNot 2 none (4 + d) g w [.ref (g.2.2 30), .int x1] post) (hqX6_readUnit : ∀ {post : Wd → Prop} {x1 : Int32} {w : Wd}, qX6_readUnit post x1 w → MtV tabX l yX6_readUnit cX6_readUnit 6 none (4 + d) g w [.ref (g.2.2 30), .int x1] post) : ∀ (x1 : Int32) (x2 : Int32) (x3 : Int32) (w : Wd) (H : Heap) (locs : List Loc) (ls : Array Slot), pX6_readUnit_37 qX6_readPart qX6_readNot qX6_readUnit post x1 x2 x3 w → St tabX A s.heap g w H locs → lv_has ls 6 [(0, .ref (g.2.2 30)), (1, .int x1), (2, .int x2), (3, .int x3)] → W p l e (rk (4 + d + 1)) s m args below meth c H locs 0 0 Q (F0 m 37 ls []) := by
  have hx := hC.1
  have hb := hC.2.1
  intro x1 x2 x3 w H locs ls hp hS hl
  unfold pX6_readUnit_37 at hp
  refine lv_iconst hx hb dX6_readUnit_37 kI_0 ?_
  exact bX6_readUnit_38 hC hR hqX6_readPart hqX6_readNot hqX6_readUnit x1 x2 x3 (0 : Int32) w _ _ _ hp hS (lv_sub hl [0, 1, 2, 3] rfl)
set_option maxHeartbeats 4000000 in
set_option maxRecDepth 100000 in
theorem bX6_readUnit_33 {p : Program} {l : Launch} {e : Env} {s : State} {m : MethodId} {args : Array Value} {below : List Frame} {meth : Method} {c : Code} {Q : State → Prop} {A : Nat → Prop} {g : Gw} {d : Nat} {qX6_readPart : (Wd → Prop) → Int32 → Int32 → Wd → Prop}  {qX6_readNot : (Wd → Prop) → Int32 → Wd → Prop}  {qX6_readUnit : (Wd → Prop) → Int32 → Wd → Prop} {post : Wd → Prop}  (hC : Cx p s m args c cX6_readUnit RX6 6 g) (hR : RtV tabX p l e (rk (4 + d + 1)) s m args below meth c Q cX6_readUnit A g post) (hqX6_readPart : ∀ {post : Wd → Prop} {x1 : Int32} {x2 : Int32} {w : Wd}, qX6_readPart post x1 x2 w → MtV tabX l yX6_readPart cX6_readPart 6 none (4 + d) g w [.ref (g.2.2 30), .int x1, .int x2] post) (hqX6_readNot : ∀ {post : Wd → Prop} {x1 : Int32} {w : Wd}, qX6_readNot post x1 w → MtV tabX l yX6_readNot cX6_readNot 2 none (4 + d) g w [.ref (g.2.2 30), .int x1] post) (hqX6_readUnit : ∀ {post : Wd → Prop} {x1 : Int32} {w : Wd}, qX6_readUnit post x1 w → MtV tabX l yX6_readUnit cX6_readUnit 6 none (4 + d) g w [.ref (g.2.2 30), .int x1] post) : ∀ (x1 : Int32) (x2 : Int32) (x3 : Int32) (w : Wd) (H : Heap) (locs : List Loc) (ls : Array Slot), pX6_readUnit_33 qX6_readPart qX6_readNot qX6_readUnit post x1 x2 x3 w → St tabX A s.heap g w H locs → lv_has ls 6 [(0, .ref (g.2.2 30)), (1, .int x1), (2, .int x2), (3, .int x3)] → W p l e (rk (4 + d + 1)) s m args below meth c H locs 0 0 Q (F0 m 33 ls []) := by
  have hx := hC.1
  have hb := hC.2.1
  intro x1 x2 x3 w H locs ls hp hS hl
  unfold pX6_readUnit_33 at hp
  refine lv_iconst hx hb dX6_readUnit_33 kI_1 ?_
  refine lv_goto (tgt := 38) hx hb dX6_readUnit_34 (by decide) ?_
  exact bX6_readUnit_38 hC hR hqX6_readPart hqX6_readNot hqX6_readUnit x1 x2 x3 (1 : Int32) w _ _ _ hp hS (lv_sub hl [0, 1, 2, 3] rfl)
set_option maxHeartbeats 4000000 in
set_option maxRecDepth 100000 in
theorem rX6_readUnit {l : Launch} {g : Gw} {w : Wd} {d : Nat} {qX6_readPart : (Wd → Prop) → Int32 → Int32 → Wd → Prop} {qX6_readNot : (Wd → Prop) → Int32 → Wd → Prop} {qX6_readUnit : (Wd → Prop) → Int32 → Wd → Prop} {post : Wd → Prop}  (hqX6_readPart : ∀ {post : Wd → Prop} {x1 : Int32} {x2 : Int32} {w : Wd}, qX6_readPart post x1 x2 w → MtV tabX l yX6_readPart cX6_readPart 6 none (4 + d) g w [.ref (g.2.2 30), .int x1, .int x2] post) (hqX6_readNot : ∀ {post : Wd → Prop} {x1 : Int32} {w : Wd}, qX6_readNot post x1 w → MtV tabX l yX6_readNot cX6_readNot 2 none (4 + d) g w [.ref (g.2.2 30), .int x1] post) (hqX6_readUnit : ∀ {post : Wd → Prop} {x1 : Int32} {w : Wd}, qX6_readUnit post x1 w → MtV tabX l yX6_readUnit cX6_readUnit 6 none (4 + d) g w [.ref (g.2.2 30), .int x1] post) {x1 : Int32} (hp : pX6_readUnit qX6_readPart qX6_readNot qX6_readUnit post x1 w) : MtV tabX l yX6_readUnit cX6_readUnit 6 none (4 + d + 1) g w [.ref (g.2.2 30), .int x1] post := by
  refine q_entV tabX_nd (by decide) rfl (Nat.le_of_ble_eq_true rfl) ?_
  intro p e s m args below meth c A Q ls hC hR hS hl
  have hx := hC.1
  have hb := hC.2.1
  have hl : lv_has ls 6 [(0, .ref (g.2.2 30)), (1, .int x1)] := hl
  unfold pX6_readUnit at hp
  refine lv_aload_n hx hb dX6_readUnit_0 rfl (lv_at hl 0 rfl) ?_
  refine G_30_5 hC hS m387 dX6_readUnit_1 ?_
  refine lv_topi (fun x2_1 ex2_1 => ?_)
  have hp := hp x2_1 ex2_1
  refine lv_istore_n (lv' := [(2, .int x2_1), (0, .ref (g.2.2 30)), (1, .int x1)]) hx hb dX6_readUnit_4 rfl hl (by decide) rfl (fun ls hl => ?_)
  refine lv_aload_n hx hb dX6_readUnit_5 rfl (lv_at hl 1 rfl) ?_
  refine G_30_6 hC hS m396 dX6_readUnit_6 ?_
  refine lv_l2i hx hb dX6_readUnit_9 rfl ?_
  refine lv_topi (fun x3_2 ex3_2 => ?_)
  have hp := hp x3_2 ex3_2
  refine lv_istore_n (lv' := [(3, .int x3_2), (2, .int x2_1), (0, .ref (g.2.2 30)), (1, .int x1)]) hx hb dX6_readUnit_10 rfl hl (by decide) rfl (fun ls hl => ?_)
  refine lv_iload_n hx hb dX6_readUnit_11 rfl (lv_at hl 1 rfl) ?_
  refine lv_bipush hx hb dX6_readUnit_12 kB_21 ?_
  refine lv_icmp_eq (tgt := 33) hx hb dX6_readUnit_14 (by decide) (fun c_3 => ?_) (fun c_3 => ?_)
  · have hp := hp.1 c_3
    exact bX6_readUnit_33 hC hR hqX6_readPart hqX6_readNot hqX6_readUnit x1 x2_1 x3_2 w _ _ _ hp hS (lv_sub hl [2, 3, 1, 0] rfl)
  · have hp := hp.2 c_3
    refine lv_iload_n hx hb dX6_readUnit_17 rfl (lv_at hl 1 rfl) ?_
    refine lv_bipush hx hb dX6_readUnit_18 kB_40 ?_
    refine lv_icmp_eq (tgt := 33) hx hb dX6_readUnit_20 (by decide) (fun c_4 => ?_) (fun c_4 => ?_)
    · have hp := hp.1 c_4
      exact bX6_readUnit_33 hC hR hqX6_readPart hqX6_readNot hqX6_readUnit x1 x2_1 x3_2 w _ _ _ hp hS (lv_sub hl [2, 3, 1, 0] rfl)
    · have hp := hp.2 c_4
      refine lv_iload_n hx hb dX6_readUnit_23 rfl (lv_at hl 1 rfl) ?_
      refine lv_if_lt (tgt := 37) hx hb dX6_readUnit_24 (by decide) (fun c_5 => ?_) (fun c_5 => ?_)
      · have hp := hp.1 c_5
        exact bX6_readUnit_37 hC hR hqX6_readPart hqX6_readNot hqX6_readUnit x1 x2_1 x3_2 w _ _ _ hp hS (lv_sub hl [2, 3, 1, 0] rfl)
      · have hp := hp.2 c_5
        refine lv_iload_n hx hb dX6_readUnit_27 rfl (lv_at hl 1 rfl) ?_
        refine lv_bipush hx hb dX6_readUnit_28 kB_8 ?_
        refine lv_icmp_ge (tgt := 37) hx hb dX6_readUnit_30 (by decide) (fun c_6 => ?_) (fun c_6 => ?_)
        · have hp := hp.1 c_6
          exact bX6_readUnit_37 hC hR hqX6_readPart hqX6_readNot hqX6_readUnit x1 x2_1 x3_2 w _ _ _ hp hS (lv_sub hl [2, 3, 1, 0] rfl)
        · have hp := hp.2 c_6
          exact bX6_readUnit_33 hC hR hqX6_readPart hqX6_readNot hqX6_readUnit x1 x2_1 x3_2 w _ _ _ hp hS (lv_sub hl [2, 3, 1, 0] rfl)
def d9X6_readPart : Nat → ((Wd → Prop) → Int32 → Int32 → Wd → Prop) × ((Wd → Prop) → Int32 → Wd → Prop) × ((Wd → Prop) → Int32 → Wd → Prop)
  | 0 => ((fun _ _ _ _ => False), (fun _ _ _ => False), (fun _ _ _ => False))
  | d + 1 => ((fun post x1 x2 w => pX6_readPart ((d9X6_readPart d).1) ((d9X6_readPart d).2.1) ((d9X6_readPart d).2.2) post x1 x2 w), (fun post x1 w => pX6_readNot ((d9X6_readPart d).1) ((d9X6_readPart d).2.1) ((d9X6_readPart d).2.2) post x1 w), (fun post x1 w => pX6_readUnit ((d9X6_readPart d).1) ((d9X6_readPart d).2.1) ((d9X6_readPart d).2.2) post x1 w))
def dX6_readPart (d : Nat) : (Wd → Prop) → Int32 → Int32 → Wd → Prop := (d9X6_readPart d).1
def dX6_readNot (d : Nat) : (Wd → Prop) → Int32 → Wd → Prop := (d9X6_readPart d).2.1
def dX6_readUnit (d : Nat) : (Wd → Prop) → Int32 → Wd → Prop := (d9X6_readPart d).2.2
theorem R9X6_readPart {l : Launch} {g : Gw} : ∀ d : Nat, (∀ {post : Wd → Prop} {x1 : Int32} {x2 : Int32} {w : Wd}, dX6_readPart d post x1 x2 w → MtV tabX l yX6_readPart cX6_readPart 6 none (4 + d) g w [.ref (g.2.2 30), .int x1, .int x2] post) ∧ (∀ {post : Wd → Prop} {x1 : Int32} {w : Wd}, dX6_readNot d post x1 w → MtV tabX l yX6_readNot cX6_readNot 2 none (4 + d) g w [.ref (g.2.2 30), .int x1] post) ∧ (∀ {post : Wd → Prop} {x1 : Int32} {w : Wd}, dX6_readUnit d post x1 w → MtV tabX l yX6_readUnit cX6_readUnit 6 none (4 + d) g w [.ref (g.2.2 30), .int x1] post) := by
  intro d
  induction d with
  | zero => exact ⟨fun h => False.elim h, fun h => False.elim h, fun h => False.elim h⟩
  | succ d ih =>
    refine ⟨fun h => ?_, fun h => ?_, fun h => ?_⟩
    · exact rX6_readPart (d := d) ((ih).1) ((ih).2.1) ((ih).2.2) h
    · exact rX6_readNot (d := d) ((ih).1) ((ih).2.1) ((ih).2.2) h
    · exact rX6_readUnit (d := d) ((ih).1) ((ih).2.1) ((ih).2.2) h
theorem RX6_readPart {l : Launch} {g : Gw} {post : Wd → Prop} {x1 : Int32} {x2 : Int32} {w : Wd} (h : dX6_readPart 80 post x1 x2 w) : MtV tabX l yX6_readPart cX6_readPart 6 none 84 g w [.ref (g.2.2 30), .int x1, .int x2] post := (R9X6_readPart 80).1 h
theorem RX6_readNot {l : Launch} {g : Gw} {post : Wd → Prop} {x1 : Int32} {w : Wd} (h : dX6_readNot 80 post x1 w) : MtV tabX l yX6_readNot cX6_readNot 2 none 84 g w [.ref (g.2.2 30), .int x1] post := (R9X6_readPart 80).2.1 h
theorem RX6_readUnit {l : Launch} {g : Gw} {post : Wd → Prop} {x1 : Int32} {w : Wd} (h : dX6_readUnit 80 post x1 w) : MtV tabX l yX6_readUnit cX6_readUnit 6 none 84 g w [.ref (g.2.2 30), .int x1] post := (R9X6_readPart 80).2.2 h
def pX7_addHand (post : Wd → Prop) (b : Bool) (x1 : Int64) (w : Wd) : Prop := ((w.1 (rl b) 2) < 0 → (post w)) ∧ (¬ (w.1 (rl b) 2) < 0 → (((4 : Int32) ≤ (w.1 (rl b) 2) → (post w)) ∧ (¬ (4 : Int32) ≤ (w.1 (rl b) 2) → (vp_in (w.1 (rl b) 2) 4 ∧ ∀ w_3, w_3 = sB w ((rl b) + 7) (w.1 (rl b) 2).toNatClampNeg x1 → vp_in (w_3.1 (rl b) 2) 4 ∧ ∀ w_4, w_4 = sA w_3 ((rl b) + 8) (w_3.1 (rl b) 2).toNatClampNeg (0 : Int32) → ∀ w_5, w_5 = sI w_4 (rl b) 2 ((w_4.1 (rl b) 2) + (1 : Int32)) → post w_5))))
set_option maxHeartbeats 4000000 in
set_option maxRecDepth 100000 in
theorem rX7_addHand {l : Launch} {g : Gw} {w : Wd} {post : Wd → Prop} {b : Bool}  {x1 : Int64} (hp : pX7_addHand post b x1 w) : MtV tabX l yX7_addHand cX7_addHand 3 none 1 g w [.ref (g.2.2 (rl b)), .long x1] post := by
  refine q_entV tabX_nd (by decide) rfl (Nat.le_of_ble_eq_true rfl) ?_
  intro p e s m args below meth c A Q ls hC hR hS hl
  have hx := hC.1
  have hb := hC.2.1
  have hl : lv_has ls 3 [(0, .ref (g.2.2 (rl b))), (1, .long x1)] := hl
  unfold pX7_addHand at hp
  refine lv_aload_n hx hb dX7_addHand_0 rfl (lv_at hl 0 rfl) ?_
  refine GR_2 hC hS m139 dX7_addHand_1 ?_
  refine lv_if_lt (tgt := 49) hx hb dX7_addHand_4 (by decide) (fun c_1 => ?_) (fun c_1 => ?_)
  · have hp := hp.1 c_1
    exact hR _ _ _ _ _ dX7_addHand_49 hp hS
  · have hp := hp.2 c_1
    refine lv_aload_n hx hb dX7_addHand_7 rfl (lv_at hl 0 rfl) ?_
    refine GR_2 hC hS m139 dX7_addHand_8 ?_
    refine lv_aload_n hx hb dX7_addHand_11 rfl (lv_at hl 0 rfl) ?_
    refine GR_6 hC hS m128 dX7_addHand_12 ?_
    refine NaR_6 hC hS dX7_addHand_15 ?_
    refine lv_icmp_ge (tgt := 49) hx hb dX7_addHand_16 (by decide) (fun c_2 => ?_) (fun c_2 => ?_)
    · have hp := hp.1 c_2
      exact hR _ _ _ _ _ dX7_addHand_49 hp hS
    · have hp := hp.2 c_2
      refine lv_aload_n hx hb dX7_addHand_19 rfl (lv_at hl 0 rfl) ?_
      refine GR_6 hC hS m128 dX7_addHand_20 ?_
      refine lv_aload_n hx hb dX7_addHand_23 rfl (lv_at hl 0 rfl) ?_
      refine GR_2 hC hS m139 dX7_addHand_24 ?_
      refine lv_lload_n hx hb dX7_addHand_27 rfl (lv_at hl 1 rfl) ?_
      refine SaR_6 hC hS hp.1 dX7_addHand_28 (fun w_3 H locs ew_3 hS => ?_)
      have hp := hp.2
      have hp := hp w_3 ew_3
      refine lv_aload_n hx hb dX7_addHand_29 rfl (lv_at hl 0 rfl) ?_
      refine GR_7 hC hS m129 dX7_addHand_30 ?_
      refine lv_aload_n hx hb dX7_addHand_33 rfl (lv_at hl 0 rfl) ?_
      refine GR_2 hC hS m139 dX7_addHand_34 ?_
      refine lv_iconst hx hb dX7_addHand_37 kI_0 ?_
      refine SaR_7 hC hS hp.1 dX7_addHand_38 (fun w_4 H locs ew_4 hS => ?_)
      have hp := hp.2
      have hp := hp w_4 ew_4
      refine lv_aload_n hx hb dX7_addHand_39 rfl (lv_at hl 0 rfl) ?_
      refine lv_dup hx hb dX7_addHand_40 rfl ?_
      refine GR_2 hC hS m139 dX7_addHand_41 ?_
      refine lv_iconst hx hb dX7_addHand_44 kI_1 ?_
      refine lv_iadd hx hb dX7_addHand_45 ?_
      refine PR_2 hC hS m139 dX7_addHand_46 (fun w_5 H locs ew_5 hS => ?_)
      have hp := hp w_5 ew_5
      exact hR _ _ _ _ _ dX7_addHand_49 hp hS
def pX7_endFormula (post : Wd → Prop) (b : Bool)  (w : Wd) : Prop := ((w.1 (rl b) 11) < 0 → (post w)) ∧ (¬ (w.1 (rl b) 11) < 0 → ((((9 : Int32) - (1 : Int32)) ≤ (w.1 (rl b) 11) → (post w)) ∧ (¬ ((9 : Int32) - (1 : Int32)) ≤ (w.1 (rl b) 11) → (∀ w_3, w_3 = sI w (rl b) 11 ((w.1 (rl b) 11) + (1 : Int32)) → vp_in (w_3.1 (rl b) 11) 9 ∧ ∀ w_4, w_4 = sA w_3 ((rl b) + 11) (w_3.1 (rl b) 11).toNatClampNeg (w_3.1 (rl b) 9) → post w_4))))
set_option maxHeartbeats 4000000 in
set_option maxRecDepth 100000 in
theorem rX7_endFormula {l : Launch} {g : Gw} {w : Wd} {post : Wd → Prop} {b : Bool}   (hp : pX7_endFormula post b  w) : MtV tabX l yX7_endFormula cX7_endFormula 1 none 1 g w [.ref (g.2.2 (rl b))] post := by
  refine q_entV tabX_nd (by decide) rfl (Nat.le_of_ble_eq_true rfl) ?_
  intro p e s m args below meth c A Q ls hC hR hS hl
  have hx := hC.1
  have hb := hC.2.1
  have hl : lv_has ls 1 [(0, .ref (g.2.2 (rl b)))] := hl
  unfold pX7_endFormula at hp
  refine lv_aload_n hx hb dX7_endFormula_0 rfl (lv_at hl 0 rfl) ?_
  refine GR_11 hC hS m144 dX7_endFormula_1 ?_
  refine lv_if_lt (tgt := 44) hx hb dX7_endFormula_4 (by decide) (fun c_1 => ?_) (fun c_1 => ?_)
  · have hp := hp.1 c_1
    exact hR _ _ _ _ _ dX7_endFormula_44 hp hS
  · have hp := hp.2 c_1
    refine lv_aload_n hx hb dX7_endFormula_7 rfl (lv_at hl 0 rfl) ?_
    refine GR_11 hC hS m144 dX7_endFormula_8 ?_
    refine lv_aload_n hx hb dX7_endFormula_11 rfl (lv_at hl 0 rfl) ?_
    refine GR_10 hC hS m131 dX7_endFormula_12 ?_
    refine NaR_10 hC hS dX7_endFormula_15 ?_
    refine lv_iconst hx hb dX7_endFormula_16 kI_1 ?_
    refine lv_isub hx hb dX7_endFormula_17 ?_
    refine lv_icmp_ge (tgt := 44) hx hb dX7_endFormula_18 (by decide) (fun c_2 => ?_) (fun c_2 => ?_)
    · have hp := hp.1 c_2
      exact hR _ _ _ _ _ dX7_endFormula_44 hp hS
    · have hp := hp.2 c_2
      refine lv_aload_n hx hb dX7_endFormula_21 rfl (lv_at hl 0 rfl) ?_
      refine lv_dup hx hb dX7_endFormula_22 rfl ?_
      refine GR_11 hC hS m144 dX7_endFormula_23 ?_
      refine lv_iconst hx hb dX7_endFormula_26 kI_1 ?_
      refine lv_iadd hx hb dX7_endFormula_27 ?_
      refine PR_11 hC hS m144 dX7_endFormula_28 (fun w_3 H locs ew_3 hS => ?_)
      have hp := hp w_3 ew_3
      refine lv_aload_n hx hb dX7_endFormula_31 rfl (lv_at hl 0 rfl) ?_
      refine GR_10 hC hS m131 dX7_endFormula_32 ?_
      refine lv_aload_n hx hb dX7_endFormula_35 rfl (lv_at hl 0 rfl) ?_
      refine GR_11 hC hS m144 dX7_endFormula_36 ?_
      refine lv_aload_n hx hb dX7_endFormula_39 rfl (lv_at hl 0 rfl) ?_
      refine GR_9 hC hS m143 dX7_endFormula_40 ?_
      refine SaR_10 hC hS hp.1 dX7_endFormula_43 (fun w_4 H locs ew_4 hS => ?_)
      have hp := hp.2
      have hp := hp w_4 ew_4
      exact hR _ _ _ _ _ dX7_endFormula_44 hp hS
