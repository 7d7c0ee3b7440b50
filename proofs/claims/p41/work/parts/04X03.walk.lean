def pX0_add_13 (post : Wd → Prop) (x1 : Int32) (x2 : Int32) (x3 : Int32) (x4 : Int32) (w : Wd) : Prop := ((w.1 50 7) < 0 → (post w)) ∧ (¬ (w.1 50 7) < 0 → (((w.1 50 7) < (40 : Int32) → (vp_in (w.1 50 7) 40 ∧ ∀ w_3, w_3 = sA w 53 (w.1 50 7).toNatClampNeg x1 → vp_in (w_3.1 50 7) 40 ∧ ∀ w_4, w_4 = sA w_3 54 (w_3.1 50 7).toNatClampNeg x2 → vp_in (w_4.1 50 7) 40 ∧ ∀ w_5, w_5 = sA w_4 55 (w_4.1 50 7).toNatClampNeg x3 → vp_in (w_5.1 50 7) 40 ∧ ∀ w_6, w_6 = sA w_5 56 (w_5.1 50 7).toNatClampNeg x4 → vp_in (w_6.1 50 7) 40 ∧ ∀ w_7, w_7 = sA w_6 57 (w_6.1 50 7).toNatClampNeg (w_6.1 160 13) → pX0_perform (fun w_8 => ∀ w_9, w_9 = sI w_8 50 7 ((w_8.1 50 7) + (1 : Int32)) → ∀ w_10, w_10 = sI w_9 50 8 (0 : Int32) → post w_10) (w_7.1 50 7) w_7)) ∧ (¬ (w.1 50 7) < (40 : Int32) → (post w))))
def pX0_add (post : Wd → Prop) (x1 : Int32) (x2 : Int32) (x3 : Int32) (x4 : Int32) (w : Wd) : Prop := ((w.1 50 7) < (40 : Int32) → (pX0_add_13 post x1 x2 x3 x4 w)) ∧ (¬ (w.1 50 7) < (40 : Int32) → (pX0_dropOldest (fun w_2 => pX0_add_13 post x1 x2 x3 x4 w_2) w))
set_option maxHeartbeats 4000000 in
set_option maxRecDepth 100000 in
theorem bX0_add_13 {p : Program} {l : Launch} {e : Env} {s : State} {m : MethodId} {args : Array Value} {below : List Frame} {meth : Method} {c : Code} {Q : State → Prop} {A : Nat → Prop} {g : Gw} {post : Wd → Prop}  (hC : Cx p s m args c cX0_add RX0 5 g) (hR : RtV tabX p l e (rk 7) s m args below meth c Q cX0_add A g post)  : ∀ (x1 : Int32) (x2 : Int32) (x3 : Int32) (x4 : Int32) (w : Wd) (H : Heap) (locs : List Loc) (ls : Array Slot), pX0_add_13 post x1 x2 x3 x4 w → St tabX A s.heap g w H locs → lv_has ls 5 [(0, .ref (g.2.2 50)), (1, .int x1), (2, .int x2), (3, .int x3), (4, .int x4)] → W p l e (rk 7) s m args below meth c H locs 0 0 Q (F0 m 13 ls []) := by
  have hx := hC.1
  have hb := hC.2.1
  intro x1 x2 x3 x4 w H locs ls hp hS hl
  unfold pX0_add_13 at hp
  refine lv_aload_n hx hb dX0_add_13 rfl (lv_at hl 0 rfl) ?_
  refine G_50_7 hC hS m247 dX0_add_14 ?_
  refine lv_if_lt (tgt := 29) hx hb dX0_add_17 (by decide) (fun c_1 => ?_) (fun c_1 => ?_)
  · have hp := hp.1 c_1
    exact hR _ _ _ _ _ dX0_add_29 hp hS
  · have hp := hp.2 c_1
    refine lv_aload_n hx hb dX0_add_20 rfl (lv_at hl 0 rfl) ?_
    refine G_50_7 hC hS m247 dX0_add_21 ?_
    refine lv_bipush hx hb dX0_add_24 kB_40 ?_
    refine lv_icmp_lt (tgt := 30) hx hb dX0_add_26 (by decide) (fun c_2 => ?_) (fun c_2 => ?_)
    · have hp := hp.1 c_2
      refine lv_aload_n hx hb dX0_add_30 rfl (lv_at hl 0 rfl) ?_
      refine G_50_2 hC hS m179 dX0_add_31 ?_
      refine lv_aload_n hx hb dX0_add_34 rfl (lv_at hl 0 rfl) ?_
      refine G_50_7 hC hS m247 dX0_add_35 ?_
      refine lv_iload_n hx hb dX0_add_38 rfl (lv_at hl 1 rfl) ?_
      refine Sa_53 hC hS hp.1 dX0_add_39 (fun w_3 H locs ew_3 hS => ?_)
      have hp := hp.2
      have hp := hp w_3 ew_3
      refine lv_aload_n hx hb dX0_add_40 rfl (lv_at hl 0 rfl) ?_
      refine G_50_3 hC hS m180 dX0_add_41 ?_
      refine lv_aload_n hx hb dX0_add_44 rfl (lv_at hl 0 rfl) ?_
      refine G_50_7 hC hS m247 dX0_add_45 ?_
      refine lv_iload_n hx hb dX0_add_48 rfl (lv_at hl 2 rfl) ?_
      refine Sa_54 hC hS hp.1 dX0_add_49 (fun w_4 H locs ew_4 hS => ?_)
      have hp := hp.2
      have hp := hp w_4 ew_4
      refine lv_aload_n hx hb dX0_add_50 rfl (lv_at hl 0 rfl) ?_
      refine G_50_4 hC hS m181 dX0_add_51 ?_
      refine lv_aload_n hx hb dX0_add_54 rfl (lv_at hl 0 rfl) ?_
      refine G_50_7 hC hS m247 dX0_add_55 ?_
      refine lv_iload_n hx hb dX0_add_58 rfl (lv_at hl 3 rfl) ?_
      refine Sa_55 hC hS hp.1 dX0_add_59 (fun w_5 H locs ew_5 hS => ?_)
      have hp := hp.2
      have hp := hp w_5 ew_5
      refine lv_aload_n hx hb dX0_add_60 rfl (lv_at hl 0 rfl) ?_
      refine G_50_5 hC hS m182 dX0_add_61 ?_
      refine lv_aload_n hx hb dX0_add_64 rfl (lv_at hl 0 rfl) ?_
      refine G_50_7 hC hS m247 dX0_add_65 ?_
      refine lv_iload hx hb dX0_add_68 (lv_at hl 4 rfl) ?_
      refine Sa_56 hC hS hp.1 dX0_add_70 (fun w_6 H locs ew_6 hS => ?_)
      have hp := hp.2
      have hp := hp w_6 ew_6
      refine lv_aload_n hx hb dX0_add_71 rfl (lv_at hl 0 rfl) ?_
      refine G_50_6 hC hS m183 dX0_add_72 ?_
      refine lv_aload_n hx hb dX0_add_75 rfl (lv_at hl 0 rfl) ?_
      refine G_50_7 hC hS m247 dX0_add_76 ?_
      refine lv_aload_n hx hb dX0_add_79 rfl (lv_at hl 0 rfl) ?_
      refine G_50_0 hC hS m177 dX0_add_80 ?_
      refine G_160_13 hC hS m790 dX0_add_83 ?_
      refine Sa_57 hC hS hp.1 dX0_add_86 (fun w_7 H locs ew_7 hS => ?_)
      have hp := hp.2
      have hp := hp w_7 ew_7
      refine lv_aload_n hx hb dX0_add_87 rfl (lv_at hl 0 rfl) ?_
      refine lv_aload_n hx hb dX0_add_88 rfl (lv_at hl 0 rfl) ?_
      refine G_50_7 hC hS m247 dX0_add_89 ?_
      refine q_cvV (As := [.int (w_7.1 50 7)]) (rest := []) hC hS hl.1 (rX0_perform hp) cwX0_50 yvX0_perform (rcv_50 hC hS) rfl rfl (Nat.le_of_ble_eq_true rfl) (rmk (by decide) (by decide)) dX0_add_92 (fun w_8 H locs hp hS => ?_)
      refine lv_aload_n hx hb dX0_add_95 rfl (lv_at hl 0 rfl) ?_
      refine lv_dup hx hb dX0_add_96 rfl ?_
      refine G_50_7 hC hS m247 dX0_add_97 ?_
      refine lv_iconst hx hb dX0_add_100 kI_1 ?_
      refine lv_iadd hx hb dX0_add_101 ?_
      refine P_50_7 hC hS m247 dX0_add_102 (fun w_9 H locs ew_9 hS => ?_)
      have hp := hp w_9 ew_9
      refine lv_aload_n hx hb dX0_add_105 rfl (lv_at hl 0 rfl) ?_
      refine lv_iconst hx hb dX0_add_106 kI_0 ?_
      refine P_50_8 hC hS m248 dX0_add_107 (fun w_10 H locs ew_10 hS => ?_)
      have hp := hp w_10 ew_10
      exact hR _ _ _ _ _ dX0_add_110 hp hS
    · have hp := hp.2 c_2
      exact hR _ _ _ _ _ dX0_add_29 hp hS
set_option maxHeartbeats 4000000 in
set_option maxRecDepth 100000 in
theorem rX0_add {l : Launch} {g : Gw} {w : Wd} {post : Wd → Prop}   {x1 : Int32} {x2 : Int32} {x3 : Int32} {x4 : Int32} (hp : pX0_add post x1 x2 x3 x4 w) : MtV tabX l yX0_add cX0_add 5 none 7 g w [.ref (g.2.2 50), .int x1, .int x2, .int x3, .int x4] post := by
  refine q_entV tabX_nd (by decide) rfl (Nat.le_of_ble_eq_true rfl) ?_
  intro p e s m args below meth c A Q ls hC hR hS hl
  have hx := hC.1
  have hb := hC.2.1
  have hl : lv_has ls 5 [(0, .ref (g.2.2 50)), (1, .int x1), (2, .int x2), (3, .int x3), (4, .int x4)] := hl
  unfold pX0_add at hp
  refine lv_aload_n hx hb dX0_add_0 rfl (lv_at hl 0 rfl) ?_
  refine G_50_7 hC hS m247 dX0_add_1 ?_
  refine lv_bipush hx hb dX0_add_4 kB_40 ?_
  refine lv_icmp_lt (tgt := 13) hx hb dX0_add_6 (by decide) (fun c_1 => ?_) (fun c_1 => ?_)
  · have hp := hp.1 c_1
    exact bX0_add_13 hC hR x1 x2 x3 x4 w _ _ _ hp hS (lv_sub hl [0, 1, 2, 3, 4] rfl)
  · have hp := hp.2 c_1
    refine lv_aload_n hx hb dX0_add_9 rfl (lv_at hl 0 rfl) ?_
    refine q_cvV (As := []) (rest := []) hC hS hl.1 (rX0_dropOldest hp) cwX0_42 yvX0_dropOldest (rcv_50 hC hS) rfl rfl (Nat.le_of_ble_eq_true rfl) (rmk (by decide) (by decide)) dX0_add_10 (fun w_2 H locs hp hS => ?_)
    exact bX0_add_13 hC hR x1 x2 x3 x4 w_2 _ _ _ hp hS (lv_sub hl [0, 1, 2, 3, 4] rfl)
def pX10_canCast (post : Int32 → Wd → Prop) (x1 : Int32) (x2 : Int32) (x3 : Int32) (w : Wd) : Prop := pX10_isSeal (fun r_1 w_2 => (r_1 = 0 → (post (0 : Int32) w_2)) ∧ (¬ r_1 = 0 → (pX10_isHand (fun r_4 w_5 => (r_4 = 0 → (post (0 : Int32) w_5)) ∧ (¬ r_4 = 0 → (pX10_isHeat (fun r_7 w_8 => (r_7 = 0 → (post (0 : Int32) w_8)) ∧ (¬ r_7 = 0 → (post (1 : Int32) w_8))) x3 w_5))) x2 w_2))) x1 w
set_option maxHeartbeats 4000000 in
set_option maxRecDepth 100000 in
theorem rX10_canCast {l : Launch} {g : Gw} {w : Wd} {post : Int32 → Wd → Prop}   {x1 : Int32} {x2 : Int32} {x3 : Int32} (hp : pX10_canCast post x1 x2 x3 w) : MtI tabX l yX10_canCast cX10_canCast 4 (some .boolean) 2 g w [.ref (g.2.2 0), .int x1, .int x2, .int x3] post := by
  refine q_entZ tabX_nd (by decide) rfl (Nat.le_of_ble_eq_true rfl) ?_
  intro p e s m args below meth c A Q ls hC hR hS hl
  have hx := hC.1
  have hb := hC.2.1
  have hl : lv_has ls 4 [(0, .ref (g.2.2 0)), (1, .int x1), (2, .int x2), (3, .int x3)] := hl
  unfold pX10_canCast at hp
  refine lv_aload_n hx hb dX10_canCast_0 rfl (lv_at hl 0 rfl) ?_
  refine lv_iload_n hx hb dX10_canCast_1 rfl (lv_at hl 1 rfl) ?_
  refine q_cvI (As := [.int x1]) (rest := []) hC hS hl.1 (rX10_isSeal hp) cwX10_149 yvX10_isSeal (rcv_0 hC hS) rfl rfl (Nat.le_of_ble_eq_true rfl) (rmk (by decide) (by decide)) dX10_canCast_2 (fun r_1 w_2 H locs hp hS => ?_)
  refine lv_if_eq (tgt := 27) hx hb dX10_canCast_5 (by decide) (fun c_3 => ?_) (fun c_3 => ?_)
  · have hp := hp.1 c_3
    refine lv_iconst hx hb dX10_canCast_27 kI_0 ?_
    exact hR _ _ _ _ _ _ dX10_canCast_28 (by decide) hp hS
  · have hp := hp.2 c_3
    refine lv_aload_n hx hb dX10_canCast_8 rfl (lv_at hl 0 rfl) ?_
    refine lv_iload_n hx hb dX10_canCast_9 rfl (lv_at hl 2 rfl) ?_
    refine q_cvI (As := [.int x2]) (rest := []) hC hS hl.1 (rX10_isHand hp) cwX10_190 yvX10_isHand (rcv_0 hC hS) rfl rfl (Nat.le_of_ble_eq_true rfl) (rmk (by decide) (by decide)) dX10_canCast_10 (fun r_4 w_5 H locs hp hS => ?_)
    refine lv_if_eq (tgt := 27) hx hb dX10_canCast_13 (by decide) (fun c_6 => ?_) (fun c_6 => ?_)
    · have hp := hp.1 c_6
      refine lv_iconst hx hb dX10_canCast_27 kI_0 ?_
      exact hR _ _ _ _ _ _ dX10_canCast_28 (by decide) hp hS
    · have hp := hp.2 c_6
      refine lv_iload_n hx hb dX10_canCast_16 rfl (lv_at hl 3 rfl) ?_
      refine q_csI (As := [.int x3]) (rest := []) hC hS hl.1 (rX10_isHeat hp) cwX10_193 ysX10_isHeat rfl rfl (Nat.le_of_ble_eq_true rfl) (rmk (by decide) (by decide)) dX10_canCast_17 (fun r_7 w_8 H locs hp hS => ?_)
      refine lv_if_eq (tgt := 27) hx hb dX10_canCast_20 (by decide) (fun c_9 => ?_) (fun c_9 => ?_)
      · have hp := hp.1 c_9
        refine lv_iconst hx hb dX10_canCast_27 kI_0 ?_
        exact hR _ _ _ _ _ _ dX10_canCast_28 (by decide) hp hS
      · have hp := hp.2 c_9
        refine lv_iconst hx hb dX10_canCast_23 kI_1 ?_
        refine lv_goto (tgt := 28) hx hb dX10_canCast_24 (by decide) ?_
        exact hR _ _ _ _ _ _ dX10_canCast_28 (by decide) hp hS
def pX10_cast (post : Int32 → Wd → Prop) (x1 : Int32) (x2 : Int32) (x3 : Int32) (w : Wd) : Prop := pX10_canCast (fun r_1 w_2 => (r_1 = 0 → (post (-1 : Int32) w_2)) ∧ (¬ r_1 = 0 → (((24 : Int32) ≤ (w_2.1 160 0) → (post (-1 : Int32) w_2)) ∧ (¬ (24 : Int32) ≤ (w_2.1 160 0) → ((((1 : Int32) + x3) ≤ (w_2.1 160 11) → (pX0_add (fun w_6 => post ((w_6.1 160 0) - (1 : Int32)) w_6) (0 : Int32) x1 x2 x3 w_2)) ∧ (¬ ((1 : Int32) + x3) ≤ (w_2.1 160 11) → (post (-1 : Int32) w_2))))))) x1 x2 x3 w
set_option maxHeartbeats 4000000 in
set_option maxRecDepth 100000 in
theorem rX10_cast {l : Launch} {g : Gw} {w : Wd} {post : Int32 → Wd → Prop}   {x1 : Int32} {x2 : Int32} {x3 : Int32} (hp : pX10_cast post x1 x2 x3 w) : MtI tabX l yX10_cast cX10_cast 4 (some .int) 8 g w [.ref (g.2.2 0), .int x1, .int x2, .int x3] post := by
  refine q_entI tabX_nd (by decide) rfl (Nat.le_of_ble_eq_true rfl) ?_
  intro p e s m args below meth c A Q ls hC hR hS hl
  have hx := hC.1
  have hb := hC.2.1
  have hl : lv_has ls 4 [(0, .ref (g.2.2 0)), (1, .int x1), (2, .int x2), (3, .int x3)] := hl
  unfold pX10_cast at hp
  refine lv_aload_n hx hb dX10_cast_0 rfl (lv_at hl 0 rfl) ?_
  refine lv_iload_n hx hb dX10_cast_1 rfl (lv_at hl 1 rfl) ?_
  refine lv_iload_n hx hb dX10_cast_2 rfl (lv_at hl 2 rfl) ?_
  refine lv_iload_n hx hb dX10_cast_3 rfl (lv_at hl 3 rfl) ?_
  refine q_cvI (As := [.int x1, .int x2, .int x3]) (rest := []) hC hS hl.1 (rX10_canCast hp) cwX10_200 yvX10_canCast (rcv_0 hC hS) rfl rfl (Nat.le_of_ble_eq_true rfl) (rmk (by decide) (by decide)) dX10_cast_4 (fun r_1 w_2 H locs hp hS => ?_)
  refine lv_if_eq (tgt := 35) hx hb dX10_cast_7 (by decide) (fun c_3 => ?_) (fun c_3 => ?_)
  · have hp := hp.1 c_3
    refine lv_iconst hx hb dX10_cast_35 kI_m1 ?_
    exact hR _ _ _ _ _ _ dX10_cast_36 hp hS
  · have hp := hp.2 c_3
    refine lv_aload_n hx hb dX10_cast_10 rfl (lv_at hl 0 rfl) ?_
    refine G_0_3 hC hS m30 dX10_cast_11 ?_
    refine G_160_0 hC hS m622 dX10_cast_14 ?_
    refine lv_bipush hx hb dX10_cast_17 kB_24 ?_
    refine lv_icmp_ge (tgt := 35) hx hb dX10_cast_19 (by decide) (fun c_4 => ?_) (fun c_4 => ?_)
    · have hp := hp.1 c_4
      refine lv_iconst hx hb dX10_cast_35 kI_m1 ?_
      exact hR _ _ _ _ _ _ dX10_cast_36 hp hS
    · have hp := hp.2 c_4
      refine lv_aload_n hx hb dX10_cast_22 rfl (lv_at hl 0 rfl) ?_
      refine G_0_3 hC hS m30 dX10_cast_23 ?_
      refine G_160_11 hC hS m781 dX10_cast_26 ?_
      refine lv_iconst hx hb dX10_cast_29 kI_1 ?_
      refine lv_iload_n hx hb dX10_cast_30 rfl (lv_at hl 3 rfl) ?_
      refine lv_iadd hx hb dX10_cast_31 ?_
      refine lv_icmp_ge (tgt := 37) hx hb dX10_cast_32 (by decide) (fun c_5 => ?_) (fun c_5 => ?_)
      · have hp := hp.1 c_5
        refine lv_aload_n hx hb dX10_cast_37 rfl (lv_at hl 0 rfl) ?_
        refine G_0_5 hC hS m38 dX10_cast_38 ?_
        refine lv_iconst hx hb dX10_cast_41 kI_0 ?_
        refine lv_iload_n hx hb dX10_cast_42 rfl (lv_at hl 1 rfl) ?_
        refine lv_iload_n hx hb dX10_cast_43 rfl (lv_at hl 2 rfl) ?_
        refine lv_iload_n hx hb dX10_cast_44 rfl (lv_at hl 3 rfl) ?_
        refine q_cvV (As := [.int (0 : Int32), .int x1, .int x2, .int x3]) (rest := []) hC hS hl.1 (rX0_add hp) cwX10_210 yvX0_add (rcv_50 hC hS) rfl rfl (Nat.le_of_ble_eq_true rfl) (rmk (by decide) (by decide)) dX10_cast_45 (fun w_6 H locs hp hS => ?_)
        refine lv_aload_n hx hb dX10_cast_48 rfl (lv_at hl 0 rfl) ?_
        refine G_0_3 hC hS m30 dX10_cast_49 ?_
        refine G_160_0 hC hS m622 dX10_cast_52 ?_
        refine lv_iconst hx hb dX10_cast_55 kI_1 ?_
        refine lv_isub hx hb dX10_cast_56 ?_
        exact hR _ _ _ _ _ _ dX10_cast_57 hp hS
      · have hp := hp.2 c_5
        refine lv_iconst hx hb dX10_cast_35 kI_m1 ?_
        exact hR _ _ _ _ _ _ dX10_cast_36 hp hS
def pX10_print (post : Int32 → Wd → Prop) (x1 : Int32) (w : Wd) : Prop := pX10_isSeal (fun r_1 w_2 => (r_1 = 0 → (post (-1 : Int32) w_2)) ∧ (¬ r_1 = 0 → (((40 : Int32) ≤ (w_2.1 160 6) → (post (-1 : Int32) w_2)) ∧ (¬ (40 : Int32) ≤ (w_2.1 160 6) → (((1 : Int32) ≤ (w_2.1 160 11) → (pX0_add (fun w_6 => post ((w_6.1 160 6) - (1 : Int32)) w_6) (1 : Int32) x1 (0 : Int32) (0 : Int32) w_2)) ∧ (¬ (1 : Int32) ≤ (w_2.1 160 11) → (post (-1 : Int32) w_2))))))) x1 w
set_option maxHeartbeats 4000000 in
set_option maxRecDepth 100000 in
theorem rX10_print {l : Launch} {g : Gw} {w : Wd} {post : Int32 → Wd → Prop}   {x1 : Int32} (hp : pX10_print post x1 w) : MtI tabX l yX10_print cX10_print 2 (some .int) 8 g w [.ref (g.2.2 0), .int x1] post := by
  refine q_entI tabX_nd (by decide) rfl (Nat.le_of_ble_eq_true rfl) ?_
  intro p e s m args below meth c A Q ls hC hR hS hl
  have hx := hC.1
  have hb := hC.2.1
  have hl : lv_has ls 2 [(0, .ref (g.2.2 0)), (1, .int x1)] := hl
  unfold pX10_print at hp
  refine lv_aload_n hx hb dX10_print_0 rfl (lv_at hl 0 rfl) ?_
  refine lv_iload_n hx hb dX10_print_1 rfl (lv_at hl 1 rfl) ?_
  refine q_cvI (As := [.int x1]) (rest := []) hC hS hl.1 (rX10_isSeal hp) cwX10_149 yvX10_isSeal (rcv_0 hC hS) rfl rfl (Nat.le_of_ble_eq_true rfl) (rmk (by decide) (by decide)) dX10_print_2 (fun r_1 w_2 H locs hp hS => ?_)
  refine lv_if_eq (tgt := 31) hx hb dX10_print_5 (by decide) (fun c_3 => ?_) (fun c_3 => ?_)
  · have hp := hp.1 c_3
    refine lv_iconst hx hb dX10_print_31 kI_m1 ?_
    exact hR _ _ _ _ _ _ dX10_print_32 hp hS
  · have hp := hp.2 c_3
    refine lv_aload_n hx hb dX10_print_8 rfl (lv_at hl 0 rfl) ?_
    refine G_0_3 hC hS m30 dX10_print_9 ?_
    refine G_160_6 hC hS m642 dX10_print_12 ?_
    refine lv_bipush hx hb dX10_print_15 kB_40 ?_
    refine lv_icmp_ge (tgt := 31) hx hb dX10_print_17 (by decide) (fun c_4 => ?_) (fun c_4 => ?_)
    · have hp := hp.1 c_4
      refine lv_iconst hx hb dX10_print_31 kI_m1 ?_
      exact hR _ _ _ _ _ _ dX10_print_32 hp hS
    · have hp := hp.2 c_4
      refine lv_aload_n hx hb dX10_print_20 rfl (lv_at hl 0 rfl) ?_
      refine G_0_3 hC hS m30 dX10_print_21 ?_
      refine G_160_11 hC hS m781 dX10_print_24 ?_
      refine lv_iconst hx hb dX10_print_27 kI_1 ?_
      refine lv_icmp_ge (tgt := 33) hx hb dX10_print_28 (by decide) (fun c_5 => ?_) (fun c_5 => ?_)
      · have hp := hp.1 c_5
        refine lv_aload_n hx hb dX10_print_33 rfl (lv_at hl 0 rfl) ?_
        refine G_0_5 hC hS m38 dX10_print_34 ?_
        refine lv_iconst hx hb dX10_print_37 kI_1 ?_
        refine lv_iload_n hx hb dX10_print_38 rfl (lv_at hl 1 rfl) ?_
        refine lv_iconst hx hb dX10_print_39 kI_0 ?_
        refine lv_iconst hx hb dX10_print_40 kI_0 ?_
        refine q_cvV (As := [.int (1 : Int32), .int x1, .int (0 : Int32), .int (0 : Int32)]) (rest := []) hC hS hl.1 (rX0_add hp) cwX10_210 yvX0_add (rcv_50 hC hS) rfl rfl (Nat.le_of_ble_eq_true rfl) (rmk (by decide) (by decide)) dX10_print_41 (fun w_6 H locs hp hS => ?_)
        refine lv_aload_n hx hb dX10_print_44 rfl (lv_at hl 0 rfl) ?_
        refine G_0_3 hC hS m30 dX10_print_45 ?_
        refine G_160_6 hC hS m642 dX10_print_48 ?_
        refine lv_iconst hx hb dX10_print_51 kI_1 ?_
        refine lv_isub hx hb dX10_print_52 ?_
        exact hR _ _ _ _ _ _ dX10_print_53 hp hS
      · have hp := hp.2 c_5
        refine lv_iconst hx hb dX10_print_31 kI_m1 ?_
        exact hR _ _ _ _ _ _ dX10_print_32 hp hS
def pX10_isMark (post : Int32 → Wd → Prop) (x1 : Int32) (w : Wd) : Prop := (x1 < 0 → (post (0 : Int32) w)) ∧ (¬ x1 < 0 → (((w.1 (rl (w.2.2.2.2 0)) 0) ≤ x1 → (post (0 : Int32) w)) ∧ (¬ (w.1 (rl (w.2.2.2.2 0)) 0) ≤ x1 → (post (1 : Int32) w))))
set_option maxHeartbeats 4000000 in
set_option maxRecDepth 100000 in
theorem rX10_isMark {l : Launch} {g : Gw} {w : Wd} {post : Int32 → Wd → Prop}   {x1 : Int32} (hp : pX10_isMark post x1 w) : MtI tabX l yX10_isMark cX10_isMark 2 (some .boolean) 1 g w [.ref (g.2.2 0), .int x1] post := by
  refine q_entZ tabX_nd (by decide) rfl (Nat.le_of_ble_eq_true rfl) ?_
  intro p e s m args below meth c A Q ls hC hR hS hl
  have hx := hC.1
  have hb := hC.2.1
  have hl : lv_has ls 2 [(0, .ref (g.2.2 0)), (1, .int x1)] := hl
  unfold pX10_isMark at hp
  refine lv_iload_n hx hb dX10_isMark_0 rfl (lv_at hl 1 rfl) ?_
  refine lv_if_lt (tgt := 19) hx hb dX10_isMark_1 (by decide) (fun c_1 => ?_) (fun c_1 => ?_)
  · have hp := hp.1 c_1
    refine lv_iconst hx hb dX10_isMark_19 kI_0 ?_
    exact hR _ _ _ _ _ _ dX10_isMark_20 (by decide) hp hS
  · have hp := hp.2 c_1
    refine lv_iload_n hx hb dX10_isMark_4 rfl (lv_at hl 1 rfl) ?_
    refine lv_aload_n hx hb dX10_isMark_5 rfl (lv_at hl 0 rfl) ?_
    refine G_0_16 hC hS m21 dX10_isMark_6 ?_
    refine GR_0 hC hS m678 dX10_isMark_9 ?_
    refine lv_icmp_ge (tgt := 19) hx hb dX10_isMark_12 (by decide) (fun c_2 => ?_) (fun c_2 => ?_)
    · have hp := hp.1 c_2
      refine lv_iconst hx hb dX10_isMark_19 kI_0 ?_
      exact hR _ _ _ _ _ _ dX10_isMark_20 (by decide) hp hS
    · have hp := hp.2 c_2
      refine lv_iconst hx hb dX10_isMark_15 kI_1 ?_
      refine lv_goto (tgt := 20) hx hb dX10_isMark_16 (by decide) ?_
      exact hR _ _ _ _ _ _ dX10_isMark_20 (by decide) hp hS
def pX10_sealHas (post : Int32 → Wd → Prop) (x1 : Int32) (x2 : Int32) (w : Wd) : Prop := pX10_isSeal (fun r_1 w_2 => (r_1 = 0 → (post (0 : Int32) w_2)) ∧ (¬ r_1 = 0 → (pX10_isMark (fun r_4 w_5 => (r_4 = 0 → (post (0 : Int32) w_5)) ∧ (¬ r_4 = 0 → (vp_in x1 24 ∧ ((((w_5.2.1 162 x1.toNatClampNeg) >>> (x2 &&& 31)) &&& (1 : Int32)) = 0 → (post (0 : Int32) w_5)) ∧ (¬ (((w_5.2.1 162 x1.toNatClampNeg) >>> (x2 &&& 31)) &&& (1 : Int32)) = 0 → (post (1 : Int32) w_5))))) x2 w_2))) x1 w
set_option maxHeartbeats 4000000 in
set_option maxRecDepth 100000 in
theorem rX10_sealHas {l : Launch} {g : Gw} {w : Wd} {post : Int32 → Wd → Prop}   {x1 : Int32} {x2 : Int32} (hp : pX10_sealHas post x1 x2 w) : MtI tabX l yX10_sealHas cX10_sealHas 3 (some .boolean) 2 g w [.ref (g.2.2 0), .int x1, .int x2] post := by
  refine q_entZ tabX_nd (by decide) rfl (Nat.le_of_ble_eq_true rfl) ?_
  intro p e s m args below meth c A Q ls hC hR hS hl
  have hx := hC.1
  have hb := hC.2.1
  have hl : lv_has ls 3 [(0, .ref (g.2.2 0)), (1, .int x1), (2, .int x2)] := hl
  unfold pX10_sealHas at hp
  refine lv_aload_n hx hb dX10_sealHas_0 rfl (lv_at hl 0 rfl) ?_
  refine lv_iload_n hx hb dX10_sealHas_1 rfl (lv_at hl 1 rfl) ?_
  refine q_cvI (As := [.int x1]) (rest := []) hC hS hl.1 (rX10_isSeal hp) cwX10_149 yvX10_isSeal (rcv_0 hC hS) rfl rfl (Nat.le_of_ble_eq_true rfl) (rmk (by decide) (by decide)) dX10_sealHas_2 (fun r_1 w_2 H locs hp hS => ?_)
  refine lv_if_eq (tgt := 36) hx hb dX10_sealHas_5 (by decide) (fun c_3 => ?_) (fun c_3 => ?_)
  · have hp := hp.1 c_3
    refine lv_iconst hx hb dX10_sealHas_36 kI_0 ?_
    exact hR _ _ _ _ _ _ dX10_sealHas_37 (by decide) hp hS
  · have hp := hp.2 c_3
    refine lv_aload_n hx hb dX10_sealHas_8 rfl (lv_at hl 0 rfl) ?_
    refine lv_iload_n hx hb dX10_sealHas_9 rfl (lv_at hl 2 rfl) ?_
    refine q_cvI (As := [.int x2]) (rest := []) hC hS hl.1 (rX10_isMark hp) cwX10_286 yvX10_isMark (rcv_0 hC hS) rfl rfl (Nat.le_of_ble_eq_true rfl) (rmk (by decide) (by decide)) dX10_sealHas_10 (fun r_4 w_5 H locs hp hS => ?_)
    refine lv_if_eq (tgt := 36) hx hb dX10_sealHas_13 (by decide) (fun c_6 => ?_) (fun c_6 => ?_)
    · have hp := hp.1 c_6
      refine lv_iconst hx hb dX10_sealHas_36 kI_0 ?_
      exact hR _ _ _ _ _ _ dX10_sealHas_37 (by decide) hp hS
    · have hp := hp.2 c_6
      refine lv_aload_n hx hb dX10_sealHas_16 rfl (lv_at hl 0 rfl) ?_
      refine G_0_3 hC hS m30 dX10_sealHas_17 ?_
      refine G_160_1 hC hS m613 dX10_sealHas_20 ?_
      refine lv_iload_n hx hb dX10_sealHas_23 rfl (lv_at hl 1 rfl) ?_
      refine La_162 hC hS hp.1 dX10_sealHas_24 ?_
      have hp := hp.2
      refine lv_iload_n hx hb dX10_sealHas_25 rfl (lv_at hl 2 rfl) ?_
      refine lv_ishr hx hb dX10_sealHas_26 ?_
      refine lv_iconst hx hb dX10_sealHas_27 kI_1 ?_
      refine lv_iand hx hb dX10_sealHas_28 ?_
      refine lv_if_eq (tgt := 36) hx hb dX10_sealHas_29 (by decide) (fun c_7 => ?_) (fun c_7 => ?_)
      · have hp := hp.1 c_7
        refine lv_iconst hx hb dX10_sealHas_36 kI_0 ?_
        exact hR _ _ _ _ _ _ dX10_sealHas_37 (by decide) hp hS
      · have hp := hp.2 c_7
        refine lv_iconst hx hb dX10_sealHas_32 kI_1 ?_
        refine lv_goto (tgt := 37) hx hb dX10_sealHas_33 (by decide) ?_
        exact hR _ _ _ _ _ _ dX10_sealHas_37 (by decide) hp hS
def pX10_crack (post : Int32 → Wd → Prop) (x1 : Int32) (x2 : Int32) (w : Wd) : Prop := pX10_sealHas (fun r_1 w_2 => (¬ r_1 = 0 → (pX0_add (fun w_4 => post (1 : Int32) w_4) (2 : Int32) x1 x2 (0 : Int32) w_2)) ∧ (r_1 = 0 → (post (0 : Int32) w_2))) x1 x2 w
set_option maxHeartbeats 4000000 in
set_option maxRecDepth 100000 in
theorem rX10_crack {l : Launch} {g : Gw} {w : Wd} {post : Int32 → Wd → Prop}   {x1 : Int32} {x2 : Int32} (hp : pX10_crack post x1 x2 w) : MtI tabX l yX10_crack cX10_crack 3 (some .boolean) 8 g w [.ref (g.2.2 0), .int x1, .int x2] post := by
  refine q_entZ tabX_nd (by decide) rfl (Nat.le_of_ble_eq_true rfl) ?_
  intro p e s m args below meth c A Q ls hC hR hS hl
  have hx := hC.1
  have hb := hC.2.1
  have hl : lv_has ls 3 [(0, .ref (g.2.2 0)), (1, .int x1), (2, .int x2)] := hl
  unfold pX10_crack at hp
  refine lv_aload_n hx hb dX10_crack_0 rfl (lv_at hl 0 rfl) ?_
  refine lv_iload_n hx hb dX10_crack_1 rfl (lv_at hl 1 rfl) ?_
  refine lv_iload_n hx hb dX10_crack_2 rfl (lv_at hl 2 rfl) ?_
  refine q_cvI (As := [.int x1, .int x2]) (rest := []) hC hS hl.1 (rX10_sealHas hp) cwX10_214 yvX10_sealHas (rcv_0 hC hS) rfl rfl (Nat.le_of_ble_eq_true rfl) (rmk (by decide) (by decide)) dX10_crack_3 (fun r_1 w_2 H locs hp hS => ?_)
  refine lv_if_ne (tgt := 11) hx hb dX10_crack_6 (by decide) (fun c_3 => ?_) (fun c_3 => ?_)
  · have hp := hp.1 c_3
    refine lv_aload_n hx hb dX10_crack_11 rfl (lv_at hl 0 rfl) ?_
    refine G_0_5 hC hS m38 dX10_crack_12 ?_
    refine lv_iconst hx hb dX10_crack_15 kI_2 ?_
    refine lv_iload_n hx hb dX10_crack_16 rfl (lv_at hl 1 rfl) ?_
    refine lv_iload_n hx hb dX10_crack_17 rfl (lv_at hl 2 rfl) ?_
    refine lv_iconst hx hb dX10_crack_18 kI_0 ?_
    refine q_cvV (As := [.int (2 : Int32), .int x1, .int x2, .int (0 : Int32)]) (rest := []) hC hS hl.1 (rX0_add hp) cwX10_210 yvX0_add (rcv_50 hC hS) rfl rfl (Nat.le_of_ble_eq_true rfl) (rmk (by decide) (by decide)) dX10_crack_19 (fun w_4 H locs hp hS => ?_)
    refine lv_iconst hx hb dX10_crack_22 kI_1 ?_
    exact hR _ _ _ _ _ _ dX10_crack_23 (by decide) hp hS
  · have hp := hp.2 c_3
    refine lv_iconst hx hb dX10_crack_9 kI_0 ?_
    exact hR _ _ _ _ _ _ dX10_crack_10 (by decide) hp hS
def pX10_year (post : Int32 → Wd → Prop)  (w : Wd) : Prop := ((w.1 160 12) < (999 : Int32) → (pX0_add (fun w_2 => post (w_2.1 160 12) w_2) (3 : Int32) (0 : Int32) (0 : Int32) (0 : Int32) w)) ∧ (¬ (w.1 160 12) < (999 : Int32) → (post (-1 : Int32) w))
set_option maxHeartbeats 4000000 in
set_option maxRecDepth 100000 in
theorem rX10_year {l : Launch} {g : Gw} {w : Wd} {post : Int32 → Wd → Prop}    (hp : pX10_year post  w) : MtI tabX l yX10_year cX10_year 1 (some .int) 8 g w [.ref (g.2.2 0)] post := by
  refine q_entI tabX_nd (by decide) rfl (Nat.le_of_ble_eq_true rfl) ?_
  intro p e s m args below meth c A Q ls hC hR hS hl
  have hx := hC.1
  have hb := hC.2.1
  have hl : lv_has ls 1 [(0, .ref (g.2.2 0))] := hl
  unfold pX10_year at hp
  refine lv_aload_n hx hb dX10_year_0 rfl (lv_at hl 0 rfl) ?_
  refine G_0_3 hC hS m30 dX10_year_1 ?_
  refine G_160_12 hC hS m864 dX10_year_4 ?_
  refine lv_sipush hx hb dX10_year_7 kS_999 ?_
  refine lv_icmp_lt (tgt := 15) hx hb dX10_year_10 (by decide) (fun c_1 => ?_) (fun c_1 => ?_)
  · have hp := hp.1 c_1
    refine lv_aload_n hx hb dX10_year_15 rfl (lv_at hl 0 rfl) ?_
    refine G_0_5 hC hS m38 dX10_year_16 ?_
    refine lv_iconst hx hb dX10_year_19 kI_3 ?_
    refine lv_iconst hx hb dX10_year_20 kI_0 ?_
    refine lv_iconst hx hb dX10_year_21 kI_0 ?_
    refine lv_iconst hx hb dX10_year_22 kI_0 ?_
    refine q_cvV (As := [.int (3 : Int32), .int (0 : Int32), .int (0 : Int32), .int (0 : Int32)]) (rest := []) hC hS hl.1 (rX0_add hp) cwX10_210 yvX0_add (rcv_50 hC hS) rfl rfl (Nat.le_of_ble_eq_true rfl) (rmk (by decide) (by decide)) dX10_year_23 (fun w_2 H locs hp hS => ?_)
    refine lv_aload_n hx hb dX10_year_26 rfl (lv_at hl 0 rfl) ?_
    refine G_0_3 hC hS m30 dX10_year_27 ?_
    refine G_160_12 hC hS m864 dX10_year_30 ?_
    exact hR _ _ _ _ _ _ dX10_year_33 hp hS
  · have hp := hp.2 c_1
    refine lv_iconst hx hb dX10_year_13 kI_m1 ?_
    exact hR _ _ _ _ _ _ dX10_year_14 hp hS
def pX0_takeBack (post : Wd → Prop) (x1 : Int32) (w : Wd) : Prop := vp_in x1 40 ∧ ((w.2.1 53 x1.toNatClampNeg).toInt < 0 ∨ 2 < (w.2.1 53 x1.toNatClampNeg).toInt → (∀ w_2, w_2 = sI w 160 12 ((w.1 160 12) - (1 : Int32)) → post w_2)) ∧ ((w.2.1 53 x1.toNatClampNeg).toInt = 0 → (∀ w_3, w_3 = sI w 160 0 ((w.1 160 0) - (1 : Int32)) → vp_in x1 40 ∧ ∀ w_4, w_4 = sI w_3 160 13 (w_3.2.1 57 x1.toNatClampNeg) → vp_in x1 40 ∧ ∀ w_5, w_5 = sI w_4 160 11 ((w_4.1 160 11) + ((1 : Int32) + (w_4.2.1 56 x1.toNatClampNeg))) → post w_5)) ∧ ((w.2.1 53 x1.toNatClampNeg).toInt = 1 → (∀ w_6, w_6 = sI w 160 6 ((w.1 160 6) - (1 : Int32)) → ∀ w_7, w_7 = sI w_6 160 11 ((w_6.1 160 11) + (1 : Int32)) → post w_7)) ∧ ((w.2.1 53 x1.toNatClampNeg).toInt = 2 → (vp_in x1 40 ∧ vp_in x1 40 ∧ pX2_flip (fun w_8 => post w_8) (w.2.1 54 x1.toNatClampNeg) (w.2.1 55 x1.toNatClampNeg) w))
set_option maxHeartbeats 4000000 in
set_option maxRecDepth 100000 in
theorem rX0_takeBack {l : Launch} {g : Gw} {w : Wd} {post : Wd → Prop}   {x1 : Int32} (hp : pX0_takeBack post x1 w) : MtV tabX l yX0_takeBack cX0_takeBack 2 none 2 g w [.ref (g.2.2 50), .int x1] post := by
  refine q_entV tabX_nd (by decide) rfl (Nat.le_of_ble_eq_true rfl) ?_
  intro p e s m args below meth c A Q ls hC hR hS hl
  have hx := hC.1
  have hb := hC.2.1
  have hl : lv_has ls 2 [(0, .ref (g.2.2 50)), (1, .int x1)] := hl
  unfold pX0_takeBack at hp
  refine lv_aload_n hx hb dX0_takeBack_0 rfl (lv_at hl 0 rfl) ?_
  refine G_50_2 hC hS m179 dX0_takeBack_1 ?_
  refine lv_iload_n hx hb dX0_takeBack_4 rfl (lv_at hl 1 rfl) ?_
  refine La_53 hC hS hp.1 dX0_takeBack_5 ?_
  have hp := hp.2
  by_cases c_1 : (w.2.1 53 x1.toNatClampNeg).toInt < 0 ∨ 2 < (w.2.1 53 x1.toNatClampNeg).toInt
  · have hp := hp.1 c_1
    refine lv_tableOut (tgt := 132) hx hb dX0_takeBack_6 c_1 (by decide) ?_
    refine lv_aload_n hx hb dX0_takeBack_132 rfl (lv_at hl 0 rfl) ?_
    refine G_50_0 hC hS m177 dX0_takeBack_133 ?_
    refine lv_dup hx hb dX0_takeBack_136 rfl ?_
    refine G_160_12 hC hS m804 dX0_takeBack_137 ?_
    refine lv_iconst hx hb dX0_takeBack_140 kI_1 ?_
    refine lv_isub hx hb dX0_takeBack_141 ?_
    refine P_160_12 hC hS m804 dX0_takeBack_142 (fun w_2 H locs ew_2 hS => ?_)
    have hp := hp w_2 ew_2
    exact hR _ _ _ _ _ dX0_takeBack_145 hp hS
  · have hp := hp.2
    have c_11 : ¬ (w.2.1 53 x1.toNatClampNeg).toInt < 0 := fun z => c_1 (Or.inl z)
    have c_12 : ¬ 2 < (w.2.1 53 x1.toNatClampNeg).toInt := fun z => c_1 (Or.inr z)
    rcases (show (w.2.1 53 x1.toNatClampNeg).toInt = 0 ∨ (w.2.1 53 x1.toNatClampNeg).toInt = 1 ∨ (w.2.1 53 x1.toNatClampNeg).toInt = 2 by omega) with c_13 | c_13 | c_13
    · have hp := hp.1 c_13
      refine lv_tableIn (tgt := 32) hx hb dX0_takeBack_6 c_11 c_12 (by rw [c_13]; rfl) (by decide) ?_
      refine lv_aload_n hx hb dX0_takeBack_32 rfl (lv_at hl 0 rfl) ?_
      refine G_50_0 hC hS m177 dX0_takeBack_33 ?_
      refine lv_dup hx hb dX0_takeBack_36 rfl ?_
      refine G_160_0 hC hS m809 dX0_takeBack_37 ?_
      refine lv_iconst hx hb dX0_takeBack_40 kI_1 ?_
      refine lv_isub hx hb dX0_takeBack_41 ?_
      refine P_160_0 hC hS m809 dX0_takeBack_42 (fun w_3 H locs ew_3 hS => ?_)
      have hp := hp w_3 ew_3
      refine lv_aload_n hx hb dX0_takeBack_45 rfl (lv_at hl 0 rfl) ?_
      refine G_50_0 hC hS m177 dX0_takeBack_46 ?_
      refine lv_aload_n hx hb dX0_takeBack_49 rfl (lv_at hl 0 rfl) ?_
      refine G_50_6 hC hS m183 dX0_takeBack_50 ?_
      refine lv_iload_n hx hb dX0_takeBack_53 rfl (lv_at hl 1 rfl) ?_
      refine La_57 hC hS hp.1 dX0_takeBack_54 ?_
      have hp := hp.2
      refine P_160_13 hC hS m790 dX0_takeBack_55 (fun w_4 H locs ew_4 hS => ?_)
      have hp := hp w_4 ew_4
      refine lv_aload_n hx hb dX0_takeBack_58 rfl (lv_at hl 0 rfl) ?_
      refine G_50_0 hC hS m177 dX0_takeBack_59 ?_
      refine lv_dup hx hb dX0_takeBack_62 rfl ?_
      refine G_160_11 hC hS m803 dX0_takeBack_63 ?_
      refine lv_iconst hx hb dX0_takeBack_66 kI_1 ?_
      refine lv_aload_n hx hb dX0_takeBack_67 rfl (lv_at hl 0 rfl) ?_
      refine G_50_5 hC hS m182 dX0_takeBack_68 ?_
      refine lv_iload_n hx hb dX0_takeBack_71 rfl (lv_at hl 1 rfl) ?_
      refine La_56 hC hS hp.1 dX0_takeBack_72 ?_
      have hp := hp.2
      refine lv_iadd hx hb dX0_takeBack_73 ?_
      refine lv_iadd hx hb dX0_takeBack_74 ?_
      refine P_160_11 hC hS m803 dX0_takeBack_75 (fun w_5 H locs ew_5 hS => ?_)
      have hp := hp w_5 ew_5
      refine lv_goto (tgt := 145) hx hb dX0_takeBack_78 (by decide) ?_
      exact hR _ _ _ _ _ dX0_takeBack_145 hp hS
    · have hp := hp.2.1 c_13
      refine lv_tableIn (tgt := 81) hx hb dX0_takeBack_6 c_11 c_12 (by rw [c_13]; rfl) (by decide) ?_
      refine lv_aload_n hx hb dX0_takeBack_81 rfl (lv_at hl 0 rfl) ?_
      refine G_50_0 hC hS m177 dX0_takeBack_82 ?_
      refine lv_dup hx hb dX0_takeBack_85 rfl ?_
      refine G_160_6 hC hS m881 dX0_takeBack_86 ?_
      refine lv_iconst hx hb dX0_takeBack_89 kI_1 ?_
      refine lv_isub hx hb dX0_takeBack_90 ?_
      refine P_160_6 hC hS m881 dX0_takeBack_91 (fun w_6 H locs ew_6 hS => ?_)
      have hp := hp w_6 ew_6
      refine lv_aload_n hx hb dX0_takeBack_94 rfl (lv_at hl 0 rfl) ?_
      refine G_50_0 hC hS m177 dX0_takeBack_95 ?_
      refine lv_dup hx hb dX0_takeBack_98 rfl ?_
      refine G_160_11 hC hS m803 dX0_takeBack_99 ?_
      refine lv_iconst hx hb dX0_takeBack_102 kI_1 ?_
      refine lv_iadd hx hb dX0_takeBack_103 ?_
      refine P_160_11 hC hS m803 dX0_takeBack_104 (fun w_7 H locs ew_7 hS => ?_)
      have hp := hp w_7 ew_7
      refine lv_goto (tgt := 145) hx hb dX0_takeBack_107 (by decide) ?_
      exact hR _ _ _ _ _ dX0_takeBack_145 hp hS
    · have hp := hp.2.2 c_13
      refine lv_tableIn (tgt := 110) hx hb dX0_takeBack_6 c_11 c_12 (by rw [c_13]; rfl) (by decide) ?_
      refine lv_aload_n hx hb dX0_takeBack_110 rfl (lv_at hl 0 rfl) ?_
      refine G_50_0 hC hS m177 dX0_takeBack_111 ?_
      refine lv_aload_n hx hb dX0_takeBack_114 rfl (lv_at hl 0 rfl) ?_
      refine G_50_3 hC hS m180 dX0_takeBack_115 ?_
      refine lv_iload_n hx hb dX0_takeBack_118 rfl (lv_at hl 1 rfl) ?_
      refine La_54 hC hS hp.1 dX0_takeBack_119 ?_
      have hp := hp.2
      refine lv_aload_n hx hb dX0_takeBack_120 rfl (lv_at hl 0 rfl) ?_
      refine G_50_4 hC hS m181 dX0_takeBack_121 ?_
      refine lv_iload_n hx hb dX0_takeBack_124 rfl (lv_at hl 1 rfl) ?_
      refine La_55 hC hS hp.1 dX0_takeBack_125 ?_
      have hp := hp.2
      refine q_cvV (As := [.int (w.2.1 54 x1.toNatClampNeg), .int (w.2.1 55 x1.toNatClampNeg)]) (rest := []) hC hS hl.1 (rX2_flip hp) cwX0_73 yvX2_flip (rcv_160 hC hS) rfl rfl (Nat.le_of_ble_eq_true rfl) (rmk (by decide) (by decide)) dX0_takeBack_126 (fun w_8 H locs hp hS => ?_)
      refine lv_goto (tgt := 145) hx hb dX0_takeBack_129 (by decide) ?_
      exact hR _ _ _ _ _ dX0_takeBack_145 hp hS
def pX0_goBack (post : Int32 → Wd → Prop)  (w : Wd) : Prop := ((w.1 50 7) < (1 : Int32) → (post (0 : Int32) w)) ∧ (¬ (w.1 50 7) < (1 : Int32) → (((w.1 50 7) ≤ (40 : Int32) → (∀ w_3, w_3 = sI w 50 7 ((w.1 50 7) - (1 : Int32)) → ∀ w_4, w_4 = sI w_3 50 8 ((w_3.1 50 8) + (1 : Int32)) → pX0_takeBack (fun w_5 => post (1 : Int32) w_5) (w_4.1 50 7) w_4)) ∧ (¬ (w.1 50 7) ≤ (40 : Int32) → (post (0 : Int32) w))))
set_option maxHeartbeats 4000000 in
set_option maxRecDepth 100000 in
theorem rX0_goBack {l : Launch} {g : Gw} {w : Wd} {post : Int32 → Wd → Prop}    (hp : pX0_goBack post  w) : MtI tabX l yX0_goBack cX0_goBack 1 (some .boolean) 3 g w [.ref (g.2.2 50)] post := by
  refine q_entZ tabX_nd (by decide) rfl (Nat.le_of_ble_eq_true rfl) ?_
  intro p e s m args below meth c A Q ls hC hR hS hl
  have hx := hC.1
  have hb := hC.2.1
  have hl : lv_has ls 1 [(0, .ref (g.2.2 50))] := hl
  unfold pX0_goBack at hp
  refine lv_aload_n hx hb dX0_goBack_0 rfl (lv_at hl 0 rfl) ?_
  refine G_50_7 hC hS m247 dX0_goBack_1 ?_
  refine lv_iconst hx hb dX0_goBack_4 kI_1 ?_
  refine lv_icmp_lt (tgt := 17) hx hb dX0_goBack_5 (by decide) (fun c_1 => ?_) (fun c_1 => ?_)
  · have hp := hp.1 c_1
    refine lv_iconst hx hb dX0_goBack_17 kI_0 ?_
    exact hR _ _ _ _ _ _ dX0_goBack_18 (by decide) hp hS
  · have hp := hp.2 c_1
    refine lv_aload_n hx hb dX0_goBack_8 rfl (lv_at hl 0 rfl) ?_
    refine G_50_7 hC hS m247 dX0_goBack_9 ?_
    refine lv_bipush hx hb dX0_goBack_12 kB_40 ?_
    refine lv_icmp_le (tgt := 19) hx hb dX0_goBack_14 (by decide) (fun c_2 => ?_) (fun c_2 => ?_)
    · have hp := hp.1 c_2
      refine lv_aload_n hx hb dX0_goBack_19 rfl (lv_at hl 0 rfl) ?_
      refine lv_dup hx hb dX0_goBack_20 rfl ?_
      refine G_50_7 hC hS m247 dX0_goBack_21 ?_
      refine lv_iconst hx hb dX0_goBack_24 kI_1 ?_
      refine lv_isub hx hb dX0_goBack_25 ?_
      refine P_50_7 hC hS m247 dX0_goBack_26 (fun w_3 H locs ew_3 hS => ?_)
      have hp := hp w_3 ew_3
      refine lv_aload_n hx hb dX0_goBack_29 rfl (lv_at hl 0 rfl) ?_
      refine lv_dup hx hb dX0_goBack_30 rfl ?_
      refine G_50_8 hC hS m248 dX0_goBack_31 ?_
      refine lv_iconst hx hb dX0_goBack_34 kI_1 ?_
      refine lv_iadd hx hb dX0_goBack_35 ?_
      refine P_50_8 hC hS m248 dX0_goBack_36 (fun w_4 H locs ew_4 hS => ?_)
      have hp := hp w_4 ew_4
      refine lv_aload_n hx hb dX0_goBack_39 rfl (lv_at hl 0 rfl) ?_
      refine lv_aload_n hx hb dX0_goBack_40 rfl (lv_at hl 0 rfl) ?_
      refine G_50_7 hC hS m247 dX0_goBack_41 ?_
      refine q_cvV (As := [.int (w_4.1 50 7)]) (rest := []) hC hS hl.1 (rX0_takeBack hp) cwX0_60 yvX0_takeBack (rcv_50 hC hS) rfl rfl (Nat.le_of_ble_eq_true rfl) (rmk (by decide) (by decide)) dX0_goBack_44 (fun w_5 H locs hp hS => ?_)
      refine lv_iconst hx hb dX0_goBack_47 kI_1 ?_
      exact hR _ _ _ _ _ _ dX0_goBack_48 (by decide) hp hS
    · have hp := hp.2 c_2
      refine lv_iconst hx hb dX0_goBack_17 kI_0 ?_
      exact hR _ _ _ _ _ _ dX0_goBack_18 (by decide) hp hS
def pX10_undo (post : Int32 → Wd → Prop)  (w : Wd) : Prop := pX0_goBack (fun r_1 w_2 => r_1 = vp_nar .boolean r_1 ∧ post r_1 w_2) w
set_option maxHeartbeats 4000000 in
set_option maxRecDepth 100000 in
theorem rX10_undo {l : Launch} {g : Gw} {w : Wd} {post : Int32 → Wd → Prop}    (hp : pX10_undo post  w) : MtI tabX l yX10_undo cX10_undo 1 (some .boolean) 4 g w [.ref (g.2.2 0)] post := by
  refine q_entZ tabX_nd (by decide) rfl (Nat.le_of_ble_eq_true rfl) ?_
  intro p e s m args below meth c A Q ls hC hR hS hl
  have hx := hC.1
  have hb := hC.2.1
  have hl : lv_has ls 1 [(0, .ref (g.2.2 0))] := hl
  unfold pX10_undo at hp
  refine lv_aload_n hx hb dX10_undo_0 rfl (lv_at hl 0 rfl) ?_
  refine G_0_5 hC hS m38 dX10_undo_1 ?_
  refine q_cvI (As := []) (rest := []) hC hS hl.1 (rX0_goBack hp) cwX10_221 yvX0_goBack (rcv_50 hC hS) rfl rfl (Nat.le_of_ble_eq_true rfl) (rmk (by decide) (by decide)) dX10_undo_4 (fun r_1 w_2 H locs hp hS => ?_)
  exact hR _ _ _ _ _ _ dX10_undo_7 hp.1 hp.2 hS
def pX0_goOn (post : Int32 → Wd → Prop)  (w : Wd) : Prop := ((w.1 50 8) < (1 : Int32) → (post (0 : Int32) w)) ∧ (¬ (w.1 50 8) < (1 : Int32) → (((w.1 50 7) < 0 → (post (0 : Int32) w)) ∧ (¬ (w.1 50 7) < 0 → (((w.1 50 7) < (40 : Int32) → (pX0_perform (fun w_4 => ∀ w_5, w_5 = sI w_4 50 7 ((w_4.1 50 7) + (1 : Int32)) → ∀ w_6, w_6 = sI w_5 50 8 ((w_5.1 50 8) - (1 : Int32)) → post (1 : Int32) w_6) (w.1 50 7) w)) ∧ (¬ (w.1 50 7) < (40 : Int32) → (post (0 : Int32) w))))))
set_option maxHeartbeats 4000000 in
set_option maxRecDepth 100000 in
theorem rX0_goOn {l : Launch} {g : Gw} {w : Wd} {post : Int32 → Wd → Prop}    (hp : pX0_goOn post  w) : MtI tabX l yX0_goOn cX0_goOn 1 (some .boolean) 7 g w [.ref (g.2.2 50)] post := by
  refine q_entZ tabX_nd (by decide) rfl (Nat.le_of_ble_eq_true rfl) ?_
  intro p e s m args below meth c A Q ls hC hR hS hl
  have hx := hC.1
  have hb := hC.2.1
  have hl : lv_has ls 1 [(0, .ref (g.2.2 50))] := hl
  unfold pX0_goOn at hp
  refine lv_aload_n hx hb dX0_goOn_0 rfl (lv_at hl 0 rfl) ?_
  refine G_50_8 hC hS m248 dX0_goOn_1 ?_
  refine lv_iconst hx hb dX0_goOn_4 kI_1 ?_
  refine lv_icmp_lt (tgt := 24) hx hb dX0_goOn_5 (by decide) (fun c_1 => ?_) (fun c_1 => ?_)
  · have hp := hp.1 c_1
    refine lv_iconst hx hb dX0_goOn_24 kI_0 ?_
    exact hR _ _ _ _ _ _ dX0_goOn_25 (by decide) hp hS
  · have hp := hp.2 c_1
    refine lv_aload_n hx hb dX0_goOn_8 rfl (lv_at hl 0 rfl) ?_
    refine G_50_7 hC hS m247 dX0_goOn_9 ?_
    refine lv_if_lt (tgt := 24) hx hb dX0_goOn_12 (by decide) (fun c_2 => ?_) (fun c_2 => ?_)
    · have hp := hp.1 c_2
      refine lv_iconst hx hb dX0_goOn_24 kI_0 ?_
      exact hR _ _ _ _ _ _ dX0_goOn_25 (by decide) hp hS
    · have hp := hp.2 c_2
      refine lv_aload_n hx hb dX0_goOn_15 rfl (lv_at hl 0 rfl) ?_
      refine G_50_7 hC hS m247 dX0_goOn_16 ?_
      refine lv_bipush hx hb dX0_goOn_19 kB_40 ?_
      refine lv_icmp_lt (tgt := 26) hx hb dX0_goOn_21 (by decide) (fun c_3 => ?_) (fun c_3 => ?_)
      · have hp := hp.1 c_3
        refine lv_aload_n hx hb dX0_goOn_26 rfl (lv_at hl 0 rfl) ?_
        refine lv_aload_n hx hb dX0_goOn_27 rfl (lv_at hl 0 rfl) ?_
        refine G_50_7 hC hS m247 dX0_goOn_28 ?_
        refine q_cvV (As := [.int (w.1 50 7)]) (rest := []) hC hS hl.1 (rX0_perform hp) cwX0_50 yvX0_perform (rcv_50 hC hS) rfl rfl (Nat.le_of_ble_eq_true rfl) (rmk (by decide) (by decide)) dX0_goOn_31 (fun w_4 H locs hp hS => ?_)
        refine lv_aload_n hx hb dX0_goOn_34 rfl (lv_at hl 0 rfl) ?_
        refine lv_dup hx hb dX0_goOn_35 rfl ?_
        refine G_50_7 hC hS m247 dX0_goOn_36 ?_
        refine lv_iconst hx hb dX0_goOn_39 kI_1 ?_
        refine lv_iadd hx hb dX0_goOn_40 ?_
        refine P_50_7 hC hS m247 dX0_goOn_41 (fun w_5 H locs ew_5 hS => ?_)
        have hp := hp w_5 ew_5
        refine lv_aload_n hx hb dX0_goOn_44 rfl (lv_at hl 0 rfl) ?_
        refine lv_dup hx hb dX0_goOn_45 rfl ?_
        refine G_50_8 hC hS m248 dX0_goOn_46 ?_
        refine lv_iconst hx hb dX0_goOn_49 kI_1 ?_
        refine lv_isub hx hb dX0_goOn_50 ?_
        refine P_50_8 hC hS m248 dX0_goOn_51 (fun w_6 H locs ew_6 hS => ?_)
        have hp := hp w_6 ew_6
        refine lv_iconst hx hb dX0_goOn_54 kI_1 ?_
        exact hR _ _ _ _ _ _ dX0_goOn_55 (by decide) hp hS
      · have hp := hp.2 c_3
        refine lv_iconst hx hb dX0_goOn_24 kI_0 ?_
        exact hR _ _ _ _ _ _ dX0_goOn_25 (by decide) hp hS
def pX10_redo (post : Int32 → Wd → Prop)  (w : Wd) : Prop := pX0_goOn (fun r_1 w_2 => r_1 = vp_nar .boolean r_1 ∧ post r_1 w_2) w
set_option maxHeartbeats 4000000 in
set_option maxRecDepth 100000 in
theorem rX10_redo {l : Launch} {g : Gw} {w : Wd} {post : Int32 → Wd → Prop}    (hp : pX10_redo post  w) : MtI tabX l yX10_redo cX10_redo 1 (some .boolean) 8 g w [.ref (g.2.2 0)] post := by
  refine q_entZ tabX_nd (by decide) rfl (Nat.le_of_ble_eq_true rfl) ?_
  intro p e s m args below meth c A Q ls hC hR hS hl
  have hx := hC.1
  have hb := hC.2.1
  have hl : lv_has ls 1 [(0, .ref (g.2.2 0))] := hl
  unfold pX10_redo at hp
  refine lv_aload_n hx hb dX10_redo_0 rfl (lv_at hl 0 rfl) ?_
  refine G_0_5 hC hS m38 dX10_redo_1 ?_
  refine q_cvI (As := []) (rest := []) hC hS hl.1 (rX0_goOn hp) cwX10_225 yvX0_goOn (rcv_50 hC hS) rfl rfl (Nat.le_of_ble_eq_true rfl) (rmk (by decide) (by decide)) dX10_redo_4 (fun r_1 w_2 H locs hp hS => ?_)
  exact hR _ _ _ _ _ _ dX10_redo_7 hp.1 hp.2 hS
def pX10_whose_76 (k31 : Int32 → Int32 → Int32 → Int32 → Int32 → Wd → Prop) (post : Int32 → Wd → Prop) (x1 : Int32) (x2 : Int32) (x3 : Int32) (x4 : Int32) (x5 : Int32) (w : Wd) : Prop := ∀ x5_1, x5_1 = x5 + (1 : Int32) → k31 x1 x2 x3 x4 x5_1 w
def pX10_whose_31 (post : Int32 → Wd → Prop) : Nat → Int32 → Int32 → Int32 → Int32 → Int32 → Wd → Prop
  | 0, _, _, _, _, _, _ => False
  | n + 1, x1, x2, x3, x4, x5, w => ((w.1 (rl (w.2.2.2.2 0)) 2) ≤ x5 → (post x4 w)) ∧ (¬ (w.1 (rl (w.2.2.2.2 0)) 2) ≤ x5 → (vp_in x1 24 ∧ pX1_rowAfter (fun r_2 w_3 => (¬ r_2 = x3 → (pX10_whose_76 (pX10_whose_31 post n) post x1 x2 x3 x4 x5 w_3)) ∧ (r_2 = x3 → (∀ x4_5, x4_5 = (x4 ||| ((1 : Int32) <<< (x5 &&& 31))) → pX10_whose_76 (pX10_whose_31 post n) post x1 x2 x3 x4_5 x5 w_3))) (w.2.1 162 x1.toNatClampNeg) x5 x2 (0 : Int32) w))
def pX10_whose (post : Int32 → Wd → Prop) (x1 : Int32) (x2 : Int32) (x3 : Int32) (w : Wd) : Prop := pX10_isSeal (fun r_1 w_2 => (r_1 = 0 → (post (-1 : Int32) w_2)) ∧ (¬ r_1 = 0 → (pX10_isHeat (fun r_4 w_5 => (r_4 = 0 → (post (-1 : Int32) w_5)) ∧ (¬ r_4 = 0 → (pX10_isRow (fun r_7 w_8 => (¬ r_7 = 0 → (∃ n9, pX10_whose_31 post n9 x1 x2 x3 (0 : Int32) (0 : Int32) w_8)) ∧ (r_7 = 0 → (post (-1 : Int32) w_8))) x3 w_5))) x2 w_2))) x1 w
set_option maxHeartbeats 4000000 in
set_option maxRecDepth 100000 in
theorem bX10_whose_76 {p : Program} {l : Launch} {e : Env} {s : State} {m : MethodId} {args : Array Value} {below : List Frame} {meth : Method} {c : Code} {Q : State → Prop} {A : Nat → Prop} {g : Gw} {post : Int32 → Wd → Prop}  (hC : Cx p s m args c cX10_whose RX10 6 g) (hR : RtI tabX p l e (rk 5) s m args below meth c Q cX10_whose A g post)  {k31 : Int32 → Int32 → Int32 → Int32 → Int32 → Wd → Prop} (hk31 : ∀ (x1 : Int32) (x2 : Int32) (x3 : Int32) (x4 : Int32) (x5 : Int32) (w : Wd) (H : Heap) (locs : List Loc) (ls : Array Slot), k31 x1 x2 x3 x4 x5 w → St tabX A s.heap g w H locs → lv_has ls 6 [(0, .ref (g.2.2 0)), (1, .int x1), (2, .int x2), (3, .int x3), (4, .int x4), (5, .int x5)] → W p l e (rk 5) s m args below meth c H locs 0 0 Q (F0 m 31 ls [])) : ∀ (x1 : Int32) (x2 : Int32) (x3 : Int32) (x4 : Int32) (x5 : Int32) (w : Wd) (H : Heap) (locs : List Loc) (ls : Array Slot), pX10_whose_76 k31 post x1 x2 x3 x4 x5 w → St tabX A s.heap g w H locs → lv_has ls 6 [(0, .ref (g.2.2 0)), (1, .int x1), (2, .int x2), (3, .int x3), (4, .int x4), (5, .int x5)] → W p l e (rk 5) s m args below meth c H locs 0 0 Q (F0 m 76 ls []) := by
  have hx := hC.1
  have hb := hC.2.1
  intro x1 x2 x3 x4 x5 w H locs ls hp hS hl
  unfold pX10_whose_76 at hp
  obtain ⟨x5_1, ex5_1⟩ : ∃ y : Int32, y = x5 + (1 : Int32) := ⟨_, rfl⟩
  have hp := hp x5_1 ex5_1
  refine lv_iinc (v := x5_1) (lv' := [(5, .int x5_1), (0, .ref (g.2.2 0)), (1, .int x1), (2, .int x2), (3, .int x3), (4, .int x4)]) hx hb dX10_whose_76 hl (k := 5) rfl (by rw [ex5_1]; rfl) (by decide) rfl (fun ls hl => ?_)
  refine lv_goto (tgt := 31) hx hb dX10_whose_79 (by decide) ?_
  exact hk31 x1 x2 x3 x4 x5_1 w _ _ _ hp hS (lv_sub hl [1, 2, 3, 4, 5, 0] rfl)
set_option maxHeartbeats 4000000 in
set_option maxRecDepth 100000 in
theorem bX10_whose_31 {p : Program} {l : Launch} {e : Env} {s : State} {m : MethodId} {args : Array Value} {below : List Frame} {meth : Method} {c : Code} {Q : State → Prop} {A : Nat → Prop} {g : Gw} {post : Int32 → Wd → Prop}  (hC : Cx p s m args c cX10_whose RX10 6 g) (hR : RtI tabX p l e (rk 5) s m args below meth c Q cX10_whose A g post)  : ∀ (n : Nat) (x1 : Int32) (x2 : Int32) (x3 : Int32) (x4 : Int32) (x5 : Int32) (w : Wd) (H : Heap) (locs : List Loc) (ls : Array Slot), pX10_whose_31 post n x1 x2 x3 x4 x5 w → St tabX A s.heap g w H locs → lv_has ls 6 [(0, .ref (g.2.2 0)), (1, .int x1), (2, .int x2), (3, .int x3), (4, .int x4), (5, .int x5)] → W p l e (rk 5) s m args below meth c H locs 0 0 Q (F0 m 31 ls []) := by
  have hx := hC.1
  have hb := hC.2.1
  intro n
  induction n with
  | zero =>
    intro x1 x2 x3 x4 x5 w H locs ls hp hS hl
    exact False.elim hp
  | succ n ih =>
    intro x1 x2 x3 x4 x5 w H locs ls hp hS hl
    unfold pX10_whose_31 at hp
    refine lv_iload hx hb dX10_whose_31 (lv_at hl 5 rfl) ?_
    refine lv_aload_n hx hb dX10_whose_33 rfl (lv_at hl 0 rfl) ?_
    refine G_0_16 hC hS m21 dX10_whose_34 ?_
    refine GR_2 hC hS m340 dX10_whose_37 ?_
    refine lv_icmp_ge (tgt := 82) hx hb dX10_whose_40 (by decide) (fun c_1 => ?_) (fun c_1 => ?_)
    · have hp := hp.1 c_1
      refine lv_iload hx hb dX10_whose_82 (lv_at hl 4 rfl) ?_
      exact hR _ _ _ _ _ _ dX10_whose_84 hp hS
    · have hp := hp.2 c_1
      refine lv_aload_n hx hb dX10_whose_43 rfl (lv_at hl 0 rfl) ?_
      refine G_0_4 hC hS m34 dX10_whose_44 ?_
      refine lv_aload_n hx hb dX10_whose_47 rfl (lv_at hl 0 rfl) ?_
      refine G_0_3 hC hS m30 dX10_whose_48 ?_
      refine G_160_1 hC hS m613 dX10_whose_51 ?_
      refine lv_iload_n hx hb dX10_whose_54 rfl (lv_at hl 1 rfl) ?_
      refine La_162 hC hS hp.1 dX10_whose_55 ?_
      have hp := hp.2
      refine lv_iload hx hb dX10_whose_56 (lv_at hl 5 rfl) ?_
      refine lv_iload_n hx hb dX10_whose_58 rfl (lv_at hl 2 rfl) ?_
      refine lv_iconst hx hb dX10_whose_59 kI_0 ?_
      refine q_cvI (As := [.int (w.2.1 162 x1.toNatClampNeg), .int x5, .int x2, .int (0 : Int32)]) (rest := []) hC hS hl.1 (rX1_rowAfter hp) cwX10_196 yvX1_rowAfter (rcv_40 hC hS) rfl rfl (Nat.le_of_ble_eq_true rfl) (rmk (by decide) (by decide)) dX10_whose_60 (fun r_2 w_3 H locs hp hS => ?_)
      refine lv_iload_n hx hb dX10_whose_63 rfl (lv_at hl 3 rfl) ?_
      refine lv_icmp_ne (tgt := 76) hx hb dX10_whose_64 (by decide) (fun c_4 => ?_) (fun c_4 => ?_)
      · have hp := hp.1 c_4
        exact bX10_whose_76 hC hR ih x1 x2 x3 x4 x5 w_3 _ _ _ hp hS (lv_sub hl [0, 1, 2, 3, 4, 5] rfl)
      · have hp := hp.2 c_4
        refine lv_iload hx hb dX10_whose_67 (lv_at hl 4 rfl) ?_
        refine lv_iconst hx hb dX10_whose_69 kI_1 ?_
        refine lv_iload hx hb dX10_whose_70 (lv_at hl 5 rfl) ?_
        refine lv_ishl hx hb dX10_whose_72 ?_
        refine lv_ior hx hb dX10_whose_73 ?_
        refine lv_topi (fun x4_5 ex4_5 => ?_)
        have hp := hp x4_5 ex4_5
        refine lv_istore (lv' := [(4, .int x4_5), (0, .ref (g.2.2 0)), (1, .int x1), (2, .int x2), (3, .int x3), (5, .int x5)]) hx hb dX10_whose_74 hl (by decide) rfl (fun ls hl => ?_)
        exact bX10_whose_76 hC hR ih x1 x2 x3 x4_5 x5 w_3 _ _ _ hp hS (lv_sub hl [1, 2, 3, 4, 0, 5] rfl)
set_option maxHeartbeats 4000000 in
set_option maxRecDepth 100000 in
theorem rX10_whose {l : Launch} {g : Gw} {w : Wd} {post : Int32 → Wd → Prop}   {x1 : Int32} {x2 : Int32} {x3 : Int32} (hp : pX10_whose post x1 x2 x3 w) : MtI tabX l yX10_whose cX10_whose 6 (some .int) 5 g w [.ref (g.2.2 0), .int x1, .int x2, .int x3] post := by
  refine q_entI tabX_nd (by decide) rfl (Nat.le_of_ble_eq_true rfl) ?_
  intro p e s m args below meth c A Q ls hC hR hS hl
  have hx := hC.1
  have hb := hC.2.1
  have hl : lv_has ls 6 [(0, .ref (g.2.2 0)), (1, .int x1), (2, .int x2), (3, .int x3)] := hl
  unfold pX10_whose at hp
  refine lv_aload_n hx hb dX10_whose_0 rfl (lv_at hl 0 rfl) ?_
  refine lv_iload_n hx hb dX10_whose_1 rfl (lv_at hl 1 rfl) ?_
  refine q_cvI (As := [.int x1]) (rest := []) hC hS hl.1 (rX10_isSeal hp) cwX10_149 yvX10_isSeal (rcv_0 hC hS) rfl rfl (Nat.le_of_ble_eq_true rfl) (rmk (by decide) (by decide)) dX10_whose_2 (fun r_1 w_2 H locs hp hS => ?_)
  refine lv_if_eq (tgt := 23) hx hb dX10_whose_5 (by decide) (fun c_3 => ?_) (fun c_3 => ?_)
  · have hp := hp.1 c_3
    refine lv_iconst hx hb dX10_whose_23 kI_m1 ?_
    exact hR _ _ _ _ _ _ dX10_whose_24 hp hS
  · have hp := hp.2 c_3
    refine lv_iload_n hx hb dX10_whose_8 rfl (lv_at hl 2 rfl) ?_
    refine q_csI (As := [.int x2]) (rest := []) hC hS hl.1 (rX10_isHeat hp) cwX10_193 ysX10_isHeat rfl rfl (Nat.le_of_ble_eq_true rfl) (rmk (by decide) (by decide)) dX10_whose_9 (fun r_4 w_5 H locs hp hS => ?_)
    refine lv_if_eq (tgt := 23) hx hb dX10_whose_12 (by decide) (fun c_6 => ?_) (fun c_6 => ?_)
    · have hp := hp.1 c_6
      refine lv_iconst hx hb dX10_whose_23 kI_m1 ?_
      exact hR _ _ _ _ _ _ dX10_whose_24 hp hS
    · have hp := hp.2 c_6
      refine lv_aload_n hx hb dX10_whose_15 rfl (lv_at hl 0 rfl) ?_
      refine lv_iload_n hx hb dX10_whose_16 rfl (lv_at hl 3 rfl) ?_
      refine q_cvI (As := [.int x3]) (rest := []) hC hS hl.1 (rX10_isRow hp) cwX10_180 yvX10_isRow (rcv_0 hC hS) rfl rfl (Nat.le_of_ble_eq_true rfl) (rmk (by decide) (by decide)) dX10_whose_17 (fun r_7 w_8 H locs hp hS => ?_)
      refine lv_if_ne (tgt := 25) hx hb dX10_whose_20 (by decide) (fun c_9 => ?_) (fun c_9 => ?_)
      · have hp := hp.1 c_9
        refine lv_iconst hx hb dX10_whose_25 kI_0 ?_
        refine lv_istore (lv' := [(4, .int (0 : Int32)), (0, .ref (g.2.2 0)), (1, .int x1), (2, .int x2), (3, .int x3)]) hx hb dX10_whose_26 hl (by decide) rfl (fun ls hl => ?_)
        refine lv_iconst hx hb dX10_whose_28 kI_0 ?_
        refine lv_istore (lv' := [(5, .int (0 : Int32)), (4, .int (0 : Int32)), (0, .ref (g.2.2 0)), (1, .int x1), (2, .int x2), (3, .int x3)]) hx hb dX10_whose_29 hl (by decide) rfl (fun ls hl => ?_)
        obtain ⟨n9, hp⟩ := hp
        exact bX10_whose_31 hC hR n9 x1 x2 x3 (0 : Int32) (0 : Int32) w_8 _ _ _ hp hS (lv_sub hl [2, 3, 4, 5, 1, 0] rfl)
      · have hp := hp.2 c_9
        refine lv_iconst hx hb dX10_whose_23 kI_m1 ?_
        exact hR _ _ _ _ _ _ dX10_whose_24 hp hS
def pX10_printOf (post : Int32 → Wd → Prop) (x1 : Int32) (w : Wd) : Prop := pX10_isSeal (fun r_1 w_2 => (r_1 = 0 → (post (0 : Int32) w_2)) ∧ (¬ r_1 = 0 → (vp_in x1 24 ∧ pX10_turn (fun r_4 w_5 => post r_4 w_5) (w_2.2.1 162 x1.toNatClampNeg) (w_2.1 (rl (w_2.2.2.2.2 0)) 0) w_2))) x1 w
set_option maxHeartbeats 4000000 in
set_option maxRecDepth 100000 in
theorem rX10_printOf {l : Launch} {g : Gw} {w : Wd} {post : Int32 → Wd → Prop}   {x1 : Int32} (hp : pX10_printOf post x1 w) : MtI tabX l yX10_printOf cX10_printOf 2 (some .int) 2 g w [.ref (g.2.2 0), .int x1] post := by
  refine q_entI tabX_nd (by decide) rfl (Nat.le_of_ble_eq_true rfl) ?_
  intro p e s m args below meth c A Q ls hC hR hS hl
  have hx := hC.1
  have hb := hC.2.1
  have hl : lv_has ls 2 [(0, .ref (g.2.2 0)), (1, .int x1)] := hl
  unfold pX10_printOf at hp
  refine lv_aload_n hx hb dX10_printOf_0 rfl (lv_at hl 0 rfl) ?_
  refine lv_iload_n hx hb dX10_printOf_1 rfl (lv_at hl 1 rfl) ?_
  refine q_cvI (As := [.int x1]) (rest := []) hC hS hl.1 (rX10_isSeal hp) cwX10_149 yvX10_isSeal (rcv_0 hC hS) rfl rfl (Nat.le_of_ble_eq_true rfl) (rmk (by decide) (by decide)) dX10_printOf_2 (fun r_1 w_2 H locs hp hS => ?_)
  refine lv_if_eq (tgt := 30) hx hb dX10_printOf_5 (by decide) (fun c_3 => ?_) (fun c_3 => ?_)
  · have hp := hp.1 c_3
    refine lv_iconst hx hb dX10_printOf_30 kI_0 ?_
    exact hR _ _ _ _ _ _ dX10_printOf_31 hp hS
  · have hp := hp.2 c_3
    refine lv_aload_n hx hb dX10_printOf_8 rfl (lv_at hl 0 rfl) ?_
    refine G_0_3 hC hS m30 dX10_printOf_9 ?_
    refine G_160_1 hC hS m613 dX10_printOf_12 ?_
    refine lv_iload_n hx hb dX10_printOf_15 rfl (lv_at hl 1 rfl) ?_
    refine La_162 hC hS hp.1 dX10_printOf_16 ?_
    have hp := hp.2
    refine lv_aload_n hx hb dX10_printOf_17 rfl (lv_at hl 0 rfl) ?_
    refine G_0_16 hC hS m21 dX10_printOf_18 ?_
    refine GR_0 hC hS m678 dX10_printOf_21 ?_
    refine q_csI (As := [.int (w_2.2.1 162 x1.toNatClampNeg), .int (w_2.1 (rl (w_2.2.2.2.2 0)) 0)]) (rest := []) hC hS hl.1 (rX10_turn hp) cwX10_186 ysX10_turn rfl rfl (Nat.le_of_ble_eq_true rfl) (rmk (by decide) (by decide)) dX10_printOf_24 (fun r_4 w_5 H locs hp hS => ?_)
    refine lv_goto (tgt := 31) hx hb dX10_printOf_27 (by decide) ?_
    exact hR _ _ _ _ _ _ dX10_printOf_31 hp hS
def pX10_made_74 (k25 : Int32 → Int32 → Int32 → Int32 → Wd → Prop) (post : Int32 → Wd → Prop) (x1 : Int32) (x2 : Int32) (x3 : Int32) (x4 : Int32) (w : Wd) : Prop := ∀ x4_1, x4_1 = x4 + (1 : Int32) → k25 x1 x2 x3 x4_1 w
def pX10_made_25 (post : Int32 → Wd → Prop) : Nat → Int32 → Int32 → Int32 → Int32 → Wd → Prop
  | 0, _, _, _, _, _ => False
  | n + 1, x1, x2, x3, x4, w => ((w.1 160 0) ≤ x4 → (post x3 w)) ∧ (¬ (w.1 160 0) ≤ x4 → (pX10_printOf (fun r_2 w_3 => (¬ (x1 &&& (r_2 ^^^ (-1 : Int32))) = 0 → (pX10_made_74 (pX10_made_25 post n) post x1 x2 x3 x4 w_3)) ∧ ((x1 &&& (r_2 ^^^ (-1 : Int32))) = 0 → (pJ6_bitCount_0f7a4 (fun r_5 w_6 => (x2 < r_5 → (pX10_made_74 (pX10_made_25 post n) post x1 x2 x3 x4 w_6)) ∧ (¬ x2 < r_5 → (∀ x3_8, x3_8 = (x3 ||| ((1 : Int32) <<< (x4 &&& 31))) → pX10_made_74 (pX10_made_25 post n) post x1 x2 x3_8 x4 w_6))) (r_2 &&& (x1 ^^^ (-1 : Int32))) w_3))) x4 w))
def pX10_made (post : Int32 → Wd → Prop) (x1 : Int32) (x2 : Int32) (w : Wd) : Prop := pX10_isRow (fun r_1 w_2 => (r_1 = 0 → (post (-1 : Int32) w_2)) ∧ (¬ r_1 = 0 → ((x2 < 0 → (post (-1 : Int32) w_2)) ∧ (¬ x2 < 0 → ((x2 ≤ (12 : Int32) → (∃ n9, pX10_made_25 post n9 x1 x2 (0 : Int32) (0 : Int32) w_2)) ∧ (¬ x2 ≤ (12 : Int32) → (post (-1 : Int32) w_2))))))) x1 w
set_option maxHeartbeats 4000000 in
set_option maxRecDepth 100000 in
theorem bX10_made_74 {p : Program} {l : Launch} {e : Env} {s : State} {m : MethodId} {args : Array Value} {below : List Frame} {meth : Method} {c : Code} {Q : State → Prop} {A : Nat → Prop} {g : Gw} {post : Int32 → Wd → Prop}  (hC : Cx p s m args c cX10_made RX10 6 g) (hR : RtI tabX p l e (rk 3) s m args below meth c Q cX10_made A g post)  {k25 : Int32 → Int32 → Int32 → Int32 → Wd → Prop} (hk25 : ∀ (x1 : Int32) (x2 : Int32) (x3 : Int32) (x4 : Int32) (w : Wd) (H : Heap) (locs : List Loc) (ls : Array Slot), k25 x1 x2 x3 x4 w → St tabX A s.heap g w H locs → lv_has ls 6 [(0, .ref (g.2.2 0)), (1, .int x1), (2, .int x2), (3, .int x3), (4, .int x4)] → W p l e (rk 3) s m args below meth c H locs 0 0 Q (F0 m 25 ls [])) : ∀ (x1 : Int32) (x2 : Int32) (x3 : Int32) (x4 : Int32) (w : Wd) (H : Heap) (locs : List Loc) (ls : Array Slot), pX10_made_74 k25 post x1 x2 x3 x4 w → St tabX A s.heap g w H locs → lv_has ls 6 [(0, .ref (g.2.2 0)), (1, .int x1), (2, .int x2), (3, .int x3), (4, .int x4)] → W p l e (rk 3) s m args below meth c H locs 0 0 Q (F0 m 74 ls []) := by
  have hx := hC.1
  have hb := hC.2.1
  intro x1 x2 x3 x4 w H locs ls hp hS hl
  unfold pX10_made_74 at hp
  obtain ⟨x4_1, ex4_1⟩ : ∃ y : Int32, y = x4 + (1 : Int32) := ⟨_, rfl⟩
  have hp := hp x4_1 ex4_1
  refine lv_iinc (v := x4_1) (lv' := [(4, .int x4_1), (0, .ref (g.2.2 0)), (1, .int x1), (2, .int x2), (3, .int x3)]) hx hb dX10_made_74 hl (k := 4) rfl (by rw [ex4_1]; rfl) (by decide) rfl (fun ls hl => ?_)
  refine lv_goto (tgt := 25) hx hb dX10_made_77 (by decide) ?_
  exact hk25 x1 x2 x3 x4_1 w _ _ _ hp hS (lv_sub hl [1, 2, 3, 4, 0] rfl)
set_option maxHeartbeats 4000000 in
set_option maxRecDepth 100000 in
theorem bX10_made_25 {p : Program} {l : Launch} {e : Env} {s : State} {m : MethodId} {args : Array Value} {below : List Frame} {meth : Method} {c : Code} {Q : State → Prop} {A : Nat → Prop} {g : Gw} {post : Int32 → Wd → Prop}  (hC : Cx p s m args c cX10_made RX10 6 g) (hR : RtI tabX p l e (rk 3) s m args below meth c Q cX10_made A g post)  : ∀ (n : Nat) (x1 : Int32) (x2 : Int32) (x3 : Int32) (x4 : Int32) (w : Wd) (H : Heap) (locs : List Loc) (ls : Array Slot), pX10_made_25 post n x1 x2 x3 x4 w → St tabX A s.heap g w H locs → lv_has ls 6 [(0, .ref (g.2.2 0)), (1, .int x1), (2, .int x2), (3, .int x3), (4, .int x4)] → W p l e (rk 3) s m args below meth c H locs 0 0 Q (F0 m 25 ls []) := by
  have hx := hC.1
  have hb := hC.2.1
  intro n
  induction n with
  | zero =>
    intro x1 x2 x3 x4 w H locs ls hp hS hl
    exact False.elim hp
  | succ n ih =>
    intro x1 x2 x3 x4 w H locs ls hp hS hl
    unfold pX10_made_25 at hp
    refine lv_iload hx hb dX10_made_25 (lv_at hl 4 rfl) ?_
    refine lv_aload_n hx hb dX10_made_27 rfl (lv_at hl 0 rfl) ?_
    refine G_0_3 hC hS m30 dX10_made_28 ?_
    refine G_160_0 hC hS m622 dX10_made_31 ?_
    refine lv_icmp_ge (tgt := 80) hx hb dX10_made_34 (by decide) (fun c_1 => ?_) (fun c_1 => ?_)
    · have hp := hp.1 c_1
      refine lv_iload_n hx hb dX10_made_80 rfl (lv_at hl 3 rfl) ?_
      exact hR _ _ _ _ _ _ dX10_made_81 hp hS
    · have hp := hp.2 c_1
      refine lv_aload_n hx hb dX10_made_37 rfl (lv_at hl 0 rfl) ?_
      refine lv_iload hx hb dX10_made_38 (lv_at hl 4 rfl) ?_
      refine q_cvI (As := [.int x4]) (rest := []) hC hS hl.1 (rX10_printOf hp) cwX10_228 yvX10_printOf (rcv_0 hC hS) rfl rfl (Nat.le_of_ble_eq_true rfl) (rmk (by decide) (by decide)) dX10_made_40 (fun r_2 w_3 H locs hp hS => ?_)
      refine lv_istore (lv' := [(5, .int r_2), (0, .ref (g.2.2 0)), (1, .int x1), (2, .int x2), (3, .int x3), (4, .int x4)]) hx hb dX10_made_43 hl (by decide) rfl (fun ls hl => ?_)
      refine lv_iload_n hx hb dX10_made_45 rfl (lv_at hl 2 rfl) ?_
      refine lv_iload hx hb dX10_made_46 (lv_at hl 0 rfl) ?_
      refine lv_iconst hx hb dX10_made_48 kI_m1 ?_
      refine lv_ixor hx hb dX10_made_49 ?_
      refine lv_iand hx hb dX10_made_50 ?_
      refine lv_if_ne (tgt := 74) hx hb dX10_made_51 (by decide) (fun c_4 => ?_) (fun c_4 => ?_)
      · have hp := hp.1 c_4
        exact bX10_made_74 hC hR ih x1 x2 x3 x4 w_3 _ _ _ hp hS (lv_sub hl [1, 2, 3, 4, 5] rfl)
      · have hp := hp.2 c_4
        refine lv_iload hx hb dX10_made_54 (lv_at hl 0 rfl) ?_
        refine lv_iload_n hx hb dX10_made_56 rfl (lv_at hl 2 rfl) ?_
        refine lv_iconst hx hb dX10_made_57 kI_m1 ?_
        refine lv_ixor hx hb dX10_made_58 ?_
        refine lv_iand hx hb dX10_made_59 ?_
        refine q_csI (As := [.int (r_2 &&& (x1 ^^^ (-1 : Int32)))]) (rest := []) hC hS hl.1 (rJ6_bitCount_0f7a4 hp) cwX10_232 ysJ6_bitCount_0f7a4 rfl rfl (Nat.le_of_ble_eq_true rfl) (rmk (by decide) (by decide)) dX10_made_60 (fun r_5 w_6 H locs hp hS => ?_)
        refine lv_iload_n hx hb dX10_made_63 rfl (lv_at hl 3 rfl) ?_
        refine lv_icmp_gt (tgt := 74) hx hb dX10_made_64 (by decide) (fun c_7 => ?_) (fun c_7 => ?_)
        · have hp := hp.1 c_7
          exact bX10_made_74 hC hR ih x1 x2 x3 x4 w_6 _ _ _ hp hS (lv_sub hl [1, 2, 3, 4, 5] rfl)
        · have hp := hp.2 c_7
          refine lv_iload_n hx hb dX10_made_67 rfl (lv_at hl 4 rfl) ?_
          refine lv_iconst hx hb dX10_made_68 kI_1 ?_
          refine lv_iload hx hb dX10_made_69 (lv_at hl 5 rfl) ?_
          refine lv_ishl hx hb dX10_made_71 ?_
          refine lv_ior hx hb dX10_made_72 ?_
          refine lv_topi (fun x3_8 ex3_8 => ?_)
          have hp := hp x3_8 ex3_8
          refine lv_istore_n (lv' := [(3, .int x3_8), (5, .int r_2), (0, .ref (g.2.2 0)), (1, .int x1), (2, .int x2), (4, .int x4)]) hx hb dX10_made_73 rfl hl (by decide) rfl (fun ls hl => ?_)
          exact bX10_made_74 hC hR ih x1 x2 x3_8 x4 w_6 _ _ _ hp hS (lv_sub hl [2, 3, 4, 0, 5] rfl)
set_option maxHeartbeats 4000000 in
set_option maxRecDepth 100000 in
theorem rX10_made {l : Launch} {g : Gw} {w : Wd} {post : Int32 → Wd → Prop}   {x1 : Int32} {x2 : Int32} (hp : pX10_made post x1 x2 w) : MtI tabX l yX10_made cX10_made 6 (some .int) 3 g w [.ref (g.2.2 0), .int x1, .int x2] post := by
  refine q_entI tabX_nd (by decide) rfl (Nat.le_of_ble_eq_true rfl) ?_
  intro p e s m args below meth c A Q ls hC hR hS hl
  have hx := hC.1
  have hb := hC.2.1
  have hl : lv_has ls 6 [(0, .ref (g.2.2 0)), (1, .int x1), (2, .int x2)] := hl
  unfold pX10_made at hp
  refine lv_aload_n hx hb dX10_made_0 rfl (lv_at hl 0 rfl) ?_
  refine lv_iload_n hx hb dX10_made_1 rfl (lv_at hl 1 rfl) ?_
  refine q_cvI (As := [.int x1]) (rest := []) hC hS hl.1 (rX10_isRow hp) cwX10_180 yvX10_isRow (rcv_0 hC hS) rfl rfl (Nat.le_of_ble_eq_true rfl) (rmk (by decide) (by decide)) dX10_made_2 (fun r_1 w_2 H locs hp hS => ?_)
  refine lv_if_eq (tgt := 18) hx hb dX10_made_5 (by decide) (fun c_3 => ?_) (fun c_3 => ?_)
  · have hp := hp.1 c_3
    refine lv_iconst hx hb dX10_made_18 kI_m1 ?_
    exact hR _ _ _ _ _ _ dX10_made_19 hp hS
  · have hp := hp.2 c_3
    refine lv_iload_n hx hb dX10_made_8 rfl (lv_at hl 2 rfl) ?_
    refine lv_if_lt (tgt := 18) hx hb dX10_made_9 (by decide) (fun c_4 => ?_) (fun c_4 => ?_)
    · have hp := hp.1 c_4
      refine lv_iconst hx hb dX10_made_18 kI_m1 ?_
      exact hR _ _ _ _ _ _ dX10_made_19 hp hS
    · have hp := hp.2 c_4
      refine lv_iload_n hx hb dX10_made_12 rfl (lv_at hl 2 rfl) ?_
      refine lv_bipush hx hb dX10_made_13 kB_12 ?_
      refine lv_icmp_le (tgt := 20) hx hb dX10_made_15 (by decide) (fun c_5 => ?_) (fun c_5 => ?_)
      · have hp := hp.1 c_5
        refine lv_iconst hx hb dX10_made_20 kI_0 ?_
        refine lv_istore_n (lv' := [(3, .int (0 : Int32)), (0, .ref (g.2.2 0)), (1, .int x1), (2, .int x2)]) hx hb dX10_made_21 rfl hl (by decide) rfl (fun ls hl => ?_)
        refine lv_iconst hx hb dX10_made_22 kI_0 ?_
        refine lv_istore (lv' := [(4, .int (0 : Int32)), (3, .int (0 : Int32)), (0, .ref (g.2.2 0)), (1, .int x1), (2, .int x2)]) hx hb dX10_made_23 hl (by decide) rfl (fun ls hl => ?_)
        obtain ⟨n9, hp⟩ := hp
        exact bX10_made_25 hC hR n9 x1 x2 (0 : Int32) (0 : Int32) w_2 _ _ _ hp hS (lv_sub hl [2, 3, 4, 1, 0] rfl)
      · have hp := hp.2 c_5
        refine lv_iconst hx hb dX10_made_18 kI_m1 ?_
        exact hR _ _ _ _ _ _ dX10_made_19 hp hS
def pX10_apart_39 (post : Int32 → Wd → Prop) (x1 : Int32) (t0 : Int32) (w : Wd) : Prop := vp_in x1 24 ∧ pJ6_bitCount_0f7a4 (fun r_1 w_2 => post r_1 w_2) ((w.2.1 162 x1.toNatClampNeg) ^^^ t0) w
def pX10_apart (post : Int32 → Wd → Prop) (x1 : Int32) (x2 : Int32) (x3 : Int32) (w : Wd) : Prop := pX10_isSeal (fun r_1 w_2 => (r_1 = 0 → (post (-1 : Int32) w_2)) ∧ (¬ r_1 = 0 → (pX10_isSeal (fun r_4 w_5 => (¬ r_4 = 0 → ((x3 = 0 → (vp_in x2 24 ∧ pX10_apart_39 post x1 (w_5.2.1 162 x2.toNatClampNeg) w_5)) ∧ (¬ x3 = 0 → (pX10_printOf (fun r_8 w_9 => pX10_apart_39 post x1 r_8 w_9) x2 w_5)))) ∧ (r_4 = 0 → (post (-1 : Int32) w_5))) x2 w_2))) x1 w
set_option maxHeartbeats 4000000 in
set_option maxRecDepth 100000 in
theorem bX10_apart_39 {p : Program} {l : Launch} {e : Env} {s : State} {m : MethodId} {args : Array Value} {below : List Frame} {meth : Method} {c : Code} {Q : State → Prop} {A : Nat → Prop} {g : Gw} {post : Int32 → Wd → Prop}  (hC : Cx p s m args c cX10_apart RX10 5 g) (hR : RtI tabX p l e (rk 3) s m args below meth c Q cX10_apart A g post)  : ∀ (x1 : Int32) (t0 : Int32) (w : Wd) (H : Heap) (locs : List Loc) (ls : Array Slot), pX10_apart_39 post x1 t0 w → St tabX A s.heap g w H locs → lv_has ls 5 [(0, .ref (g.2.2 0)), (1, .int x1)] → W p l e (rk 3) s m args below meth c H locs 0 0 Q (F0 m 39 ls [.int t0]) := by
  have hx := hC.1
  have hb := hC.2.1
  intro x1 t0 w H locs ls hp hS hl
  unfold pX10_apart_39 at hp
  refine lv_istore (lv' := [(4, .int t0), (0, .ref (g.2.2 0)), (1, .int x1)]) hx hb dX10_apart_39 hl (by decide) rfl (fun ls hl => ?_)
  refine lv_aload_n hx hb dX10_apart_41 rfl (lv_at hl 1 rfl) ?_
  refine G_0_3 hC hS m30 dX10_apart_42 ?_
  refine G_160_1 hC hS m613 dX10_apart_45 ?_
  refine lv_iload_n hx hb dX10_apart_48 rfl (lv_at hl 2 rfl) ?_
  refine La_162 hC hS hp.1 dX10_apart_49 ?_
  have hp := hp.2
  refine lv_iload hx hb dX10_apart_50 (lv_at hl 0 rfl) ?_
  refine lv_ixor hx hb dX10_apart_52 ?_
  refine q_csI (As := [.int ((w.2.1 162 x1.toNatClampNeg) ^^^ t0)]) (rest := []) hC hS hl.1 (rJ6_bitCount_0f7a4 hp) cwX10_232 ysJ6_bitCount_0f7a4 rfl rfl (Nat.le_of_ble_eq_true rfl) (rmk (by decide) (by decide)) dX10_apart_53 (fun r_1 w_2 H locs hp hS => ?_)
  exact hR _ _ _ _ _ _ dX10_apart_56 hp hS
set_option maxHeartbeats 4000000 in
set_option maxRecDepth 100000 in
theorem rX10_apart {l : Launch} {g : Gw} {w : Wd} {post : Int32 → Wd → Prop}   {x1 : Int32} {x2 : Int32} {x3 : Int32} (hp : pX10_apart post x1 x2 x3 w) : MtI tabX l yX10_apart cX10_apart 5 (some .int) 3 g w [.ref (g.2.2 0), .int x1, .int x2, .int x3] post := by
  refine q_entI tabX_nd (by decide) rfl (Nat.le_of_ble_eq_true rfl) ?_
  intro p e s m args below meth c A Q ls hC hR hS hl
  have hx := hC.1
  have hb := hC.2.1
  have hl : lv_has ls 5 [(0, .ref (g.2.2 0)), (1, .int x1), (2, .int x2), (3, .int x3)] := hl
  unfold pX10_apart at hp
  refine lv_aload_n hx hb dX10_apart_0 rfl (lv_at hl 0 rfl) ?_
  refine lv_iload_n hx hb dX10_apart_1 rfl (lv_at hl 1 rfl) ?_
  refine q_cvI (As := [.int x1]) (rest := []) hC hS hl.1 (rX10_isSeal hp) cwX10_149 yvX10_isSeal (rcv_0 hC hS) rfl rfl (Nat.le_of_ble_eq_true rfl) (rmk (by decide) (by decide)) dX10_apart_2 (fun r_1 w_2 H locs hp hS => ?_)
  refine lv_if_eq (tgt := 16) hx hb dX10_apart_5 (by decide) (fun c_3 => ?_) (fun c_3 => ?_)
  · have hp := hp.1 c_3
    refine lv_iconst hx hb dX10_apart_16 kI_m1 ?_
    exact hR _ _ _ _ _ _ dX10_apart_17 hp hS
  · have hp := hp.2 c_3
    refine lv_aload_n hx hb dX10_apart_8 rfl (lv_at hl 0 rfl) ?_
    refine lv_iload_n hx hb dX10_apart_9 rfl (lv_at hl 2 rfl) ?_
    refine q_cvI (As := [.int x2]) (rest := []) hC hS hl.1 (rX10_isSeal hp) cwX10_149 yvX10_isSeal (rcv_0 hC hS) rfl rfl (Nat.le_of_ble_eq_true rfl) (rmk (by decide) (by decide)) dX10_apart_10 (fun r_4 w_5 H locs hp hS => ?_)
    refine lv_if_ne (tgt := 18) hx hb dX10_apart_13 (by decide) (fun c_6 => ?_) (fun c_6 => ?_)
    · have hp := hp.1 c_6
      refine lv_iload_n hx hb dX10_apart_18 rfl (lv_at hl 3 rfl) ?_
      refine lv_if_eq (tgt := 30) hx hb dX10_apart_19 (by decide) (fun c_7 => ?_) (fun c_7 => ?_)
      · have hp := hp.1 c_7
        refine lv_aload_n hx hb dX10_apart_30 rfl (lv_at hl 0 rfl) ?_
        refine G_0_3 hC hS m30 dX10_apart_31 ?_
        refine G_160_1 hC hS m613 dX10_apart_34 ?_
        refine lv_iload_n hx hb dX10_apart_37 rfl (lv_at hl 2 rfl) ?_
        refine La_162 hC hS hp.1 dX10_apart_38 ?_
        have hp := hp.2
        exact bX10_apart_39 hC hR x1 (w_5.2.1 162 x2.toNatClampNeg) w_5 _ _ _ hp hS (lv_sub hl [0, 1] rfl)
      · have hp := hp.2 c_7
        refine lv_aload_n hx hb dX10_apart_22 rfl (lv_at hl 0 rfl) ?_
        refine lv_iload_n hx hb dX10_apart_23 rfl (lv_at hl 2 rfl) ?_
        refine q_cvI (As := [.int x2]) (rest := []) hC hS hl.1 (rX10_printOf hp) cwX10_228 yvX10_printOf (rcv_0 hC hS) rfl rfl (Nat.le_of_ble_eq_true rfl) (rmk (by decide) (by decide)) dX10_apart_24 (fun r_8 w_9 H locs hp hS => ?_)
        refine lv_goto (tgt := 39) hx hb dX10_apart_27 (by decide) ?_
        exact bX10_apart_39 hC hR x1 r_8 w_9 _ _ _ hp hS (lv_sub hl [0, 1] rfl)
    · have hp := hp.2 c_6
      refine lv_iconst hx hb dX10_apart_16 kI_m1 ?_
      exact hR _ _ _ _ _ _ dX10_apart_17 hp hS
def pX10_heats_72 (k32 : Int32 → Int32 → Int32 → Int32 → Int32 → Wd → Prop) (post : Int32 → Wd → Prop) (x1 : Int32) (x2 : Int32) (x3 : Int32) (x4 : Int32) (x5 : Int32) (w : Wd) : Prop := ∀ x5_1, x5_1 = x5 + (1 : Int32) → k32 x1 x2 x3 x4 x5_1 w
def pX10_heats_32 (post : Int32 → Wd → Prop) : Nat → Int32 → Int32 → Int32 → Int32 → Int32 → Wd → Prop
  | 0, _, _, _, _, _, _ => False
  | n + 1, x1, x2, x3, x4, x5, w => ((10 : Int32) ≤ x5 → (post x4 w)) ∧ (¬ (10 : Int32) ≤ x5 → (vp_in x1 24 ∧ pX1_rowAfter (fun r_2 w_3 => (¬ r_2 = x3 → (pX10_heats_72 (pX10_heats_32 post n) post x1 x2 x3 x4 x5 w_3)) ∧ (r_2 = x3 → (∀ x4_5, x4_5 = (x4 ||| ((1 : Int32) <<< (x5 &&& 31))) → pX10_heats_72 (pX10_heats_32 post n) post x1 x2 x3 x4_5 x5 w_3))) (w.2.1 162 x1.toNatClampNeg) x2 x5 (0 : Int32) w))
def pX10_heats (post : Int32 → Wd → Prop) (x1 : Int32) (x2 : Int32) (x3 : Int32) (w : Wd) : Prop := pX10_isSeal (fun r_1 w_2 => (r_1 = 0 → (post (-1 : Int32) w_2)) ∧ (¬ r_1 = 0 → (pX10_isHand (fun r_4 w_5 => (r_4 = 0 → (post (-1 : Int32) w_5)) ∧ (¬ r_4 = 0 → (pX10_isRow (fun r_7 w_8 => (¬ r_7 = 0 → (∃ n9, pX10_heats_32 post n9 x1 x2 x3 (0 : Int32) (0 : Int32) w_8)) ∧ (r_7 = 0 → (post (-1 : Int32) w_8))) x3 w_5))) x2 w_2))) x1 w
set_option maxHeartbeats 4000000 in
set_option maxRecDepth 100000 in
theorem bX10_heats_72 {p : Program} {l : Launch} {e : Env} {s : State} {m : MethodId} {args : Array Value} {below : List Frame} {meth : Method} {c : Code} {Q : State → Prop} {A : Nat → Prop} {g : Gw} {post : Int32 → Wd → Prop}  (hC : Cx p s m args c cX10_heats RX10 6 g) (hR : RtI tabX p l e (rk 5) s m args below meth c Q cX10_heats A g post)  {k32 : Int32 → Int32 → Int32 → Int32 → Int32 → Wd → Prop} (hk32 : ∀ (x1 : Int32) (x2 : Int32) (x3 : Int32) (x4 : Int32) (x5 : Int32) (w : Wd) (H : Heap) (locs : List Loc) (ls : Array Slot), k32 x1 x2 x3 x4 x5 w → St tabX A s.heap g w H locs → lv_has ls 6 [(0, .ref (g.2.2 0)), (1, .int x1), (2, .int x2), (3, .int x3), (4, .int x4), (5, .int x5)] → W p l e (rk 5) s m args below meth c H locs 0 0 Q (F0 m 32 ls [])) : ∀ (x1 : Int32) (x2 : Int32) (x3 : Int32) (x4 : Int32) (x5 : Int32) (w : Wd) (H : Heap) (locs : List Loc) (ls : Array Slot), pX10_heats_72 k32 post x1 x2 x3 x4 x5 w → St tabX A s.heap g w H locs → lv_has ls 6 [(0, .ref (g.2.2 0)), (1, .int x1), (2, .int x2), (3, .int x3), (4, .int x4), (5, .int x5)] → W p l e (rk 5) s m args below meth c H locs 0 0 Q (F0 m 72 ls []) := by
  have hx := hC.1
  have hb := hC.2.1
  intro x1 x2 x3 x4 x5 w H locs ls hp hS hl
  unfold pX10_heats_72 at hp
  obtain ⟨x5_1, ex5_1⟩ : ∃ y : Int32, y = x5 + (1 : Int32) := ⟨_, rfl⟩
  have hp := hp x5_1 ex5_1
  refine lv_iinc (v := x5_1) (lv' := [(5, .int x5_1), (0, .ref (g.2.2 0)), (1, .int x1), (2, .int x2), (3, .int x3), (4, .int x4)]) hx hb dX10_heats_72 hl (k := 5) rfl (by rw [ex5_1]; rfl) (by decide) rfl (fun ls hl => ?_)
  refine lv_goto (tgt := 32) hx hb dX10_heats_75 (by decide) ?_
  exact hk32 x1 x2 x3 x4 x5_1 w _ _ _ hp hS (lv_sub hl [1, 2, 3, 4, 5, 0] rfl)
set_option maxHeartbeats 4000000 in
set_option maxRecDepth 100000 in
theorem bX10_heats_32 {p : Program} {l : Launch} {e : Env} {s : State} {m : MethodId} {args : Array Value} {below : List Frame} {meth : Method} {c : Code} {Q : State → Prop} {A : Nat → Prop} {g : Gw} {post : Int32 → Wd → Prop}  (hC : Cx p s m args c cX10_heats RX10 6 g) (hR : RtI tabX p l e (rk 5) s m args below meth c Q cX10_heats A g post)  : ∀ (n : Nat) (x1 : Int32) (x2 : Int32) (x3 : Int32) (x4 : Int32) (x5 : Int32) (w : Wd) (H : Heap) (locs : List Loc) (ls : Array Slot), pX10_heats_32 post n x1 x2 x3 x4 x5 w → St tabX A s.heap g w H locs → lv_has ls 6 [(0, .ref (g.2.2 0)), (1, .int x1), (2, .int x2), (3, .int x3), (4, .int x4), (5, .int x5)] → W p l e (rk 5) s m args below meth c H locs 0 0 Q (F0 m 32 ls []) := by
  have hx := hC.1
  have hb := hC.2.1
  intro n
  induction n with
  | zero =>
    intro x1 x2 x3 x4 x5 w H locs ls hp hS hl
    exact False.elim hp
  | succ n ih =>
    intro x1 x2 x3 x4 x5 w H locs ls hp hS hl
    unfold pX10_heats_32 at hp
    refine lv_iload hx hb dX10_heats_32 (lv_at hl 5 rfl) ?_
    refine lv_bipush hx hb dX10_heats_34 kB_10 ?_
    refine lv_icmp_ge (tgt := 78) hx hb dX10_heats_36 (by decide) (fun c_1 => ?_) (fun c_1 => ?_)
    · have hp := hp.1 c_1
      refine lv_iload hx hb dX10_heats_78 (lv_at hl 4 rfl) ?_
      exact hR _ _ _ _ _ _ dX10_heats_80 hp hS
    · have hp := hp.2 c_1
      refine lv_aload_n hx hb dX10_heats_39 rfl (lv_at hl 0 rfl) ?_
      refine G_0_4 hC hS m34 dX10_heats_40 ?_
      refine lv_aload_n hx hb dX10_heats_43 rfl (lv_at hl 0 rfl) ?_
      refine G_0_3 hC hS m30 dX10_heats_44 ?_
      refine G_160_1 hC hS m613 dX10_heats_47 ?_
      refine lv_iload_n hx hb dX10_heats_50 rfl (lv_at hl 1 rfl) ?_
      refine La_162 hC hS hp.1 dX10_heats_51 ?_
      have hp := hp.2
      refine lv_iload_n hx hb dX10_heats_52 rfl (lv_at hl 2 rfl) ?_
      refine lv_iload hx hb dX10_heats_53 (lv_at hl 5 rfl) ?_
      refine lv_iconst hx hb dX10_heats_55 kI_0 ?_
      refine q_cvI (As := [.int (w.2.1 162 x1.toNatClampNeg), .int x2, .int x5, .int (0 : Int32)]) (rest := []) hC hS hl.1 (rX1_rowAfter hp) cwX10_196 yvX1_rowAfter (rcv_40 hC hS) rfl rfl (Nat.le_of_ble_eq_true rfl) (rmk (by decide) (by decide)) dX10_heats_56 (fun r_2 w_3 H locs hp hS => ?_)
      refine lv_iload_n hx hb dX10_heats_59 rfl (lv_at hl 3 rfl) ?_
      refine lv_icmp_ne (tgt := 72) hx hb dX10_heats_60 (by decide) (fun c_4 => ?_) (fun c_4 => ?_)
      · have hp := hp.1 c_4
        exact bX10_heats_72 hC hR ih x1 x2 x3 x4 x5 w_3 _ _ _ hp hS (lv_sub hl [0, 1, 2, 3, 4, 5] rfl)
      · have hp := hp.2 c_4
        refine lv_iload hx hb dX10_heats_63 (lv_at hl 4 rfl) ?_
        refine lv_iconst hx hb dX10_heats_65 kI_1 ?_
        refine lv_iload hx hb dX10_heats_66 (lv_at hl 5 rfl) ?_
        refine lv_ishl hx hb dX10_heats_68 ?_
        refine lv_ior hx hb dX10_heats_69 ?_
        refine lv_topi (fun x4_5 ex4_5 => ?_)
        have hp := hp x4_5 ex4_5
        refine lv_istore (lv' := [(4, .int x4_5), (0, .ref (g.2.2 0)), (1, .int x1), (2, .int x2), (3, .int x3), (5, .int x5)]) hx hb dX10_heats_70 hl (by decide) rfl (fun ls hl => ?_)
        exact bX10_heats_72 hC hR ih x1 x2 x3 x4_5 x5 w_3 _ _ _ hp hS (lv_sub hl [1, 2, 3, 4, 0, 5] rfl)
set_option maxHeartbeats 4000000 in
set_option maxRecDepth 100000 in
theorem rX10_heats {l : Launch} {g : Gw} {w : Wd} {post : Int32 → Wd → Prop}   {x1 : Int32} {x2 : Int32} {x3 : Int32} (hp : pX10_heats post x1 x2 x3 w) : MtI tabX l yX10_heats cX10_heats 6 (some .int) 5 g w [.ref (g.2.2 0), .int x1, .int x2, .int x3] post := by
  refine q_entI tabX_nd (by decide) rfl (Nat.le_of_ble_eq_true rfl) ?_
  intro p e s m args below meth c A Q ls hC hR hS hl
  have hx := hC.1
  have hb := hC.2.1
  have hl : lv_has ls 6 [(0, .ref (g.2.2 0)), (1, .int x1), (2, .int x2), (3, .int x3)] := hl
  unfold pX10_heats at hp
  refine lv_aload_n hx hb dX10_heats_0 rfl (lv_at hl 0 rfl) ?_
  refine lv_iload_n hx hb dX10_heats_1 rfl (lv_at hl 1 rfl) ?_
  refine q_cvI (As := [.int x1]) (rest := []) hC hS hl.1 (rX10_isSeal hp) cwX10_149 yvX10_isSeal (rcv_0 hC hS) rfl rfl (Nat.le_of_ble_eq_true rfl) (rmk (by decide) (by decide)) dX10_heats_2 (fun r_1 w_2 H locs hp hS => ?_)
  refine lv_if_eq (tgt := 24) hx hb dX10_heats_5 (by decide) (fun c_3 => ?_) (fun c_3 => ?_)
  · have hp := hp.1 c_3
    refine lv_iconst hx hb dX10_heats_24 kI_m1 ?_
    exact hR _ _ _ _ _ _ dX10_heats_25 hp hS
  · have hp := hp.2 c_3
    refine lv_aload_n hx hb dX10_heats_8 rfl (lv_at hl 0 rfl) ?_
    refine lv_iload_n hx hb dX10_heats_9 rfl (lv_at hl 2 rfl) ?_
    refine q_cvI (As := [.int x2]) (rest := []) hC hS hl.1 (rX10_isHand hp) cwX10_190 yvX10_isHand (rcv_0 hC hS) rfl rfl (Nat.le_of_ble_eq_true rfl) (rmk (by decide) (by decide)) dX10_heats_10 (fun r_4 w_5 H locs hp hS => ?_)
    refine lv_if_eq (tgt := 24) hx hb dX10_heats_13 (by decide) (fun c_6 => ?_) (fun c_6 => ?_)
    · have hp := hp.1 c_6
      refine lv_iconst hx hb dX10_heats_24 kI_m1 ?_
      exact hR _ _ _ _ _ _ dX10_heats_25 hp hS
    · have hp := hp.2 c_6
      refine lv_aload_n hx hb dX10_heats_16 rfl (lv_at hl 0 rfl) ?_
      refine lv_iload_n hx hb dX10_heats_17 rfl (lv_at hl 3 rfl) ?_
      refine q_cvI (As := [.int x3]) (rest := []) hC hS hl.1 (rX10_isRow hp) cwX10_180 yvX10_isRow (rcv_0 hC hS) rfl rfl (Nat.le_of_ble_eq_true rfl) (rmk (by decide) (by decide)) dX10_heats_18 (fun r_7 w_8 H locs hp hS => ?_)
      refine lv_if_ne (tgt := 26) hx hb dX10_heats_21 (by decide) (fun c_9 => ?_) (fun c_9 => ?_)
      · have hp := hp.1 c_9
        refine lv_iconst hx hb dX10_heats_26 kI_0 ?_
        refine lv_istore (lv' := [(4, .int (0 : Int32)), (0, .ref (g.2.2 0)), (1, .int x1), (2, .int x2), (3, .int x3)]) hx hb dX10_heats_27 hl (by decide) rfl (fun ls hl => ?_)
        refine lv_iconst hx hb dX10_heats_29 kI_0 ?_
        refine lv_istore (lv' := [(5, .int (0 : Int32)), (4, .int (0 : Int32)), (0, .ref (g.2.2 0)), (1, .int x1), (2, .int x2), (3, .int x3)]) hx hb dX10_heats_30 hl (by decide) rfl (fun ls hl => ?_)
        obtain ⟨n9, hp⟩ := hp
        exact bX10_heats_32 hC hR n9 x1 x2 x3 (0 : Int32) (0 : Int32) w_8 _ _ _ hp hS (lv_sub hl [2, 3, 4, 5, 1, 0] rfl)
      · have hp := hp.2 c_9
        refine lv_iconst hx hb dX10_heats_24 kI_m1 ?_
        exact hR _ _ _ _ _ _ dX10_heats_25 hp hS
def pX10_luck_62 (k27 : Int32 → Int32 → Int32 → Int32 → Int32 → Int32 → Wd → Prop) (post : Int32 → Wd → Prop) (x1 : Int32) (x2 : Int32) (x3 : Int32) (x4 : Int32) (x5 : Int32) (x6 : Int32) (w : Wd) : Prop := ∀ x6_1, x6_1 = x6 + (1 : Int32) → k27 x1 x2 x3 x4 x5 x6_1 w
def pX10_luck_27 (post : Int32 → Wd → Prop) : Nat → Int32 → Int32 → Int32 → Int32 → Int32 → Int32 → Wd → Prop
  | 0, _, _, _, _, _, _, _ => False
  | n + 1, x1, x2, x3, x4, x5, x6, w => ((100 : Int32) ≤ x6 → (post x5 w)) ∧ (¬ (100 : Int32) ≤ x6 → (vp_in x1 24 ∧ pX1_rowAfter (fun r_2 w_3 => (¬ r_2 = x4 → (pX10_luck_62 (pX10_luck_27 post n) post x1 x2 x3 x4 x5 x6 w_3)) ∧ (r_2 = x4 → (∀ x5_5, x5_5 = x5 + (1 : Int32) → pX10_luck_62 (pX10_luck_27 post n) post x1 x2 x3 x4 x5_5 x6 w_3))) (w.2.1 162 x1.toNatClampNeg) x2 x3 x6 w))
def pX10_luck (post : Int32 → Wd → Prop) (x1 : Int32) (x2 : Int32) (x3 : Int32) (x4 : Int32) (w : Wd) : Prop := pX10_canCast (fun r_1 w_2 => (r_1 = 0 → (post (-1 : Int32) w_2)) ∧ (¬ r_1 = 0 → (pX10_isRow (fun r_4 w_5 => (¬ r_4 = 0 → (∃ n9, pX10_luck_27 post n9 x1 x2 x3 x4 (0 : Int32) (0 : Int32) w_5)) ∧ (r_4 = 0 → (post (-1 : Int32) w_5))) x4 w_2))) x1 x2 x3 w
set_option maxHeartbeats 4000000 in
set_option maxRecDepth 100000 in
theorem bX10_luck_62 {p : Program} {l : Launch} {e : Env} {s : State} {m : MethodId} {args : Array Value} {below : List Frame} {meth : Method} {c : Code} {Q : State → Prop} {A : Nat → Prop} {g : Gw} {post : Int32 → Wd → Prop}  (hC : Cx p s m args c cX10_luck RX10 7 g) (hR : RtI tabX p l e (rk 5) s m args below meth c Q cX10_luck A g post)  {k27 : Int32 → Int32 → Int32 → Int32 → Int32 → Int32 → Wd → Prop} (hk27 : ∀ (x1 : Int32) (x2 : Int32) (x3 : Int32) (x4 : Int32) (x5 : Int32) (x6 : Int32) (w : Wd) (H : Heap) (locs : List Loc) (ls : Array Slot), k27 x1 x2 x3 x4 x5 x6 w → St tabX A s.heap g w H locs → lv_has ls 7 [(0, .ref (g.2.2 0)), (1, .int x1), (2, .int x2), (3, .int x3), (4, .int x4), (5, .int x5), (6, .int x6)] → W p l e (rk 5) s m args below meth c H locs 0 0 Q (F0 m 27 ls [])) : ∀ (x1 : Int32) (x2 : Int32) (x3 : Int32) (x4 : Int32) (x5 : Int32) (x6 : Int32) (w : Wd) (H : Heap) (locs : List Loc) (ls : Array Slot), pX10_luck_62 k27 post x1 x2 x3 x4 x5 x6 w → St tabX A s.heap g w H locs → lv_has ls 7 [(0, .ref (g.2.2 0)), (1, .int x1), (2, .int x2), (3, .int x3), (4, .int x4), (5, .int x5), (6, .int x6)] → W p l e (rk 5) s m args below meth c H locs 0 0 Q (F0 m 62 ls []) := by
  have hx := hC.1
  have hb := hC.2.1
  intro x1 x2 x3 x4 x5 x6 w H locs ls hp hS hl
  unfold pX10_luck_62 at hp
  obtain ⟨x6_1, ex6_1⟩ : ∃ y : Int32, y = x6 + (1 : Int32) := ⟨_, rfl⟩
  have hp := hp x6_1 ex6_1
  refine lv_iinc (v := x6_1) (lv' := [(6, .int x6_1), (0, .ref (g.2.2 0)), (1, .int x1), (2, .int x2), (3, .int x3), (4, .int x4), (5, .int x5)]) hx hb dX10_luck_62 hl (k := 6) rfl (by rw [ex6_1]; rfl) (by decide) rfl (fun ls hl => ?_)
  refine lv_goto (tgt := 27) hx hb dX10_luck_65 (by decide) ?_
  exact hk27 x1 x2 x3 x4 x5 x6_1 w _ _ _ hp hS (lv_sub hl [1, 2, 3, 4, 5, 6, 0] rfl)
set_option maxHeartbeats 4000000 in
set_option maxRecDepth 100000 in
theorem bX10_luck_27 {p : Program} {l : Launch} {e : Env} {s : State} {m : MethodId} {args : Array Value} {below : List Frame} {meth : Method} {c : Code} {Q : State → Prop} {A : Nat → Prop} {g : Gw} {post : Int32 → Wd → Prop}  (hC : Cx p s m args c cX10_luck RX10 7 g) (hR : RtI tabX p l e (rk 5) s m args below meth c Q cX10_luck A g post)  : ∀ (n : Nat) (x1 : Int32) (x2 : Int32) (x3 : Int32) (x4 : Int32) (x5 : Int32) (x6 : Int32) (w : Wd) (H : Heap) (locs : List Loc) (ls : Array Slot), pX10_luck_27 post n x1 x2 x3 x4 x5 x6 w → St tabX A s.heap g w H locs → lv_has ls 7 [(0, .ref (g.2.2 0)), (1, .int x1), (2, .int x2), (3, .int x3), (4, .int x4), (5, .int x5), (6, .int x6)] → W p l e (rk 5) s m args below meth c H locs 0 0 Q (F0 m 27 ls []) := by
  have hx := hC.1
  have hb := hC.2.1
  intro n
  induction n with
  | zero =>
    intro x1 x2 x3 x4 x5 x6 w H locs ls hp hS hl
    exact False.elim hp
  | succ n ih =>
    intro x1 x2 x3 x4 x5 x6 w H locs ls hp hS hl
    unfold pX10_luck_27 at hp
    refine lv_iload hx hb dX10_luck_27 (lv_at hl 6 rfl) ?_
    refine lv_bipush hx hb dX10_luck_29 kB_100 ?_
    refine lv_icmp_ge (tgt := 68) hx hb dX10_luck_31 (by decide) (fun c_1 => ?_) (fun c_1 => ?_)
    · have hp := hp.1 c_1
      refine lv_iload hx hb dX10_luck_68 (lv_at hl 5 rfl) ?_
      exact hR _ _ _ _ _ _ dX10_luck_70 hp hS
    · have hp := hp.2 c_1
      refine lv_aload_n hx hb dX10_luck_34 rfl (lv_at hl 0 rfl) ?_
      refine G_0_4 hC hS m34 dX10_luck_35 ?_
      refine lv_aload_n hx hb dX10_luck_38 rfl (lv_at hl 0 rfl) ?_
      refine G_0_3 hC hS m30 dX10_luck_39 ?_
      refine G_160_1 hC hS m613 dX10_luck_42 ?_
      refine lv_iload_n hx hb dX10_luck_45 rfl (lv_at hl 1 rfl) ?_
      refine La_162 hC hS hp.1 dX10_luck_46 ?_
      have hp := hp.2
      refine lv_iload_n hx hb dX10_luck_47 rfl (lv_at hl 2 rfl) ?_
      refine lv_iload_n hx hb dX10_luck_48 rfl (lv_at hl 3 rfl) ?_
      refine lv_iload hx hb dX10_luck_49 (lv_at hl 6 rfl) ?_
      refine q_cvI (As := [.int (w.2.1 162 x1.toNatClampNeg), .int x2, .int x3, .int x6]) (rest := []) hC hS hl.1 (rX1_rowAfter hp) cwX10_196 yvX1_rowAfter (rcv_40 hC hS) rfl rfl (Nat.le_of_ble_eq_true rfl) (rmk (by decide) (by decide)) dX10_luck_51 (fun r_2 w_3 H locs hp hS => ?_)
      refine lv_iload hx hb dX10_luck_54 (lv_at hl 4 rfl) ?_
      refine lv_icmp_ne (tgt := 62) hx hb dX10_luck_56 (by decide) (fun c_4 => ?_) (fun c_4 => ?_)
      · have hp := hp.1 c_4
        exact bX10_luck_62 hC hR ih x1 x2 x3 x4 x5 x6 w_3 _ _ _ hp hS (lv_sub hl [0, 1, 2, 3, 4, 5, 6] rfl)
      · have hp := hp.2 c_4
        obtain ⟨x5_5, ex5_5⟩ : ∃ y : Int32, y = x5 + (1 : Int32) := ⟨_, rfl⟩
        have hp := hp x5_5 ex5_5
        refine lv_iinc (v := x5_5) (lv' := [(5, .int x5_5), (0, .ref (g.2.2 0)), (1, .int x1), (2, .int x2), (3, .int x3), (4, .int x4), (6, .int x6)]) hx hb dX10_luck_59 hl (k := 5) rfl (by rw [ex5_5]; rfl) (by decide) rfl (fun ls hl => ?_)
        exact bX10_luck_62 hC hR ih x1 x2 x3 x4 x5_5 x6 w_3 _ _ _ hp hS (lv_sub hl [1, 2, 3, 4, 5, 0, 6] rfl)
set_option maxHeartbeats 4000000 in
set_option maxRecDepth 100000 in
theorem rX10_luck {l : Launch} {g : Gw} {w : Wd} {post : Int32 → Wd → Prop}   {x1 : Int32} {x2 : Int32} {x3 : Int32} {x4 : Int32} (hp : pX10_luck post x1 x2 x3 x4 w) : MtI tabX l yX10_luck cX10_luck 7 (some .int) 5 g w [.ref (g.2.2 0), .int x1, .int x2, .int x3, .int x4] post := by
  refine q_entI tabX_nd (by decide) rfl (Nat.le_of_ble_eq_true rfl) ?_
  intro p e s m args below meth c A Q ls hC hR hS hl
  have hx := hC.1
  have hb := hC.2.1
  have hl : lv_has ls 7 [(0, .ref (g.2.2 0)), (1, .int x1), (2, .int x2), (3, .int x3), (4, .int x4)] := hl
  unfold pX10_luck at hp
  refine lv_aload_n hx hb dX10_luck_0 rfl (lv_at hl 0 rfl) ?_
  refine lv_iload_n hx hb dX10_luck_1 rfl (lv_at hl 1 rfl) ?_
  refine lv_iload_n hx hb dX10_luck_2 rfl (lv_at hl 2 rfl) ?_
  refine lv_iload_n hx hb dX10_luck_3 rfl (lv_at hl 3 rfl) ?_
  refine q_cvI (As := [.int x1, .int x2, .int x3]) (rest := []) hC hS hl.1 (rX10_canCast hp) cwX10_200 yvX10_canCast (rcv_0 hC hS) rfl rfl (Nat.le_of_ble_eq_true rfl) (rmk (by decide) (by decide)) dX10_luck_4 (fun r_1 w_2 H locs hp hS => ?_)
  refine lv_if_eq (tgt := 19) hx hb dX10_luck_7 (by decide) (fun c_3 => ?_) (fun c_3 => ?_)
  · have hp := hp.1 c_3
    refine lv_iconst hx hb dX10_luck_19 kI_m1 ?_
    exact hR _ _ _ _ _ _ dX10_luck_20 hp hS
  · have hp := hp.2 c_3
    refine lv_aload_n hx hb dX10_luck_10 rfl (lv_at hl 0 rfl) ?_
    refine lv_iload hx hb dX10_luck_11 (lv_at hl 4 rfl) ?_
    refine q_cvI (As := [.int x4]) (rest := []) hC hS hl.1 (rX10_isRow hp) cwX10_180 yvX10_isRow (rcv_0 hC hS) rfl rfl (Nat.le_of_ble_eq_true rfl) (rmk (by decide) (by decide)) dX10_luck_13 (fun r_4 w_5 H locs hp hS => ?_)
    refine lv_if_ne (tgt := 21) hx hb dX10_luck_16 (by decide) (fun c_6 => ?_) (fun c_6 => ?_)
    · have hp := hp.1 c_6
      refine lv_iconst hx hb dX10_luck_21 kI_0 ?_
      refine lv_istore (lv' := [(5, .int (0 : Int32)), (0, .ref (g.2.2 0)), (1, .int x1), (2, .int x2), (3, .int x3), (4, .int x4)]) hx hb dX10_luck_22 hl (by decide) rfl (fun ls hl => ?_)
      refine lv_iconst hx hb dX10_luck_24 kI_0 ?_
      refine lv_istore (lv' := [(6, .int (0 : Int32)), (5, .int (0 : Int32)), (0, .ref (g.2.2 0)), (1, .int x1), (2, .int x2), (3, .int x3), (4, .int x4)]) hx hb dX10_luck_25 hl (by decide) rfl (fun ls hl => ?_)
      obtain ⟨n9, hp⟩ := hp
      exact bX10_luck_27 hC hR n9 x1 x2 x3 x4 (0 : Int32) (0 : Int32) w_5 _ _ _ hp hS (lv_sub hl [2, 3, 4, 5, 6, 1, 0] rfl)
    · have hp := hp.2 c_6
      refine lv_iconst hx hb dX10_luck_19 kI_m1 ?_
      exact hR _ _ _ _ _ _ dX10_luck_20 hp hS
def pX10_clearByRow_2 (post : Wd → Prop) : Nat → Int32 → Wd → Prop
  | 0, _, _ => False
  | n + 1, x1, w => pX7_rows (fun r_1 w_2 => (r_1 ≤ x1 → (post w_2)) ∧ (¬ r_1 ≤ x1 → (vp_in x1 4096 ∧ ∀ w_4, w_4 = sA w_2 13 x1.toNatClampNeg (0 : Int32) → ∀ x1_5, x1_5 = x1 + (1 : Int32) → pX10_clearByRow_2 post n x1_5 w_4))) (w.2.2.2.2 0) w
def pX10_clearByRow (post : Wd → Prop)  (w : Wd) : Prop := ∃ n9, pX10_clearByRow_2 post n9 (0 : Int32) w
set_option maxHeartbeats 4000000 in
set_option maxRecDepth 100000 in
theorem bX10_clearByRow_2 {p : Program} {l : Launch} {e : Env} {s : State} {m : MethodId} {args : Array Value} {below : List Frame} {meth : Method} {c : Code} {Q : State → Prop} {A : Nat → Prop} {g : Gw} {post : Wd → Prop}  (hC : Cx p s m args c cX10_clearByRow RX10 2 g) (hR : RtV tabX p l e (rk 2) s m args below meth c Q cX10_clearByRow A g post)  : ∀ (n : Nat) (x1 : Int32) (w : Wd) (H : Heap) (locs : List Loc) (ls : Array Slot), pX10_clearByRow_2 post n x1 w → St tabX A s.heap g w H locs → lv_has ls 2 [(0, .ref (g.2.2 0)), (1, .int x1)] → W p l e (rk 2) s m args below meth c H locs 0 0 Q (F0 m 2 ls []) := by
  have hx := hC.1
  have hb := hC.2.1
  intro n
  induction n with
  | zero =>
    intro x1 w H locs ls hp hS hl
    exact False.elim hp
  | succ n ih =>
    intro x1 w H locs ls hp hS hl
    unfold pX10_clearByRow_2 at hp
    refine lv_iload_n hx hb dX10_clearByRow_2 rfl (lv_at hl 1 rfl) ?_
    refine lv_aload_n hx hb dX10_clearByRow_3 rfl (lv_at hl 0 rfl) ?_
    refine G_0_16 hC hS m21 dX10_clearByRow_4 ?_
    refine q_cvI (As := []) (rest := [.int x1]) hC hS hl.1 (rX7_rows hp) cwX10_240 yvX7_rows (rcvR hC hS) rfl rfl (Nat.le_of_ble_eq_true rfl) (rmk (by decide) (by decide)) dX10_clearByRow_7 (fun r_1 w_2 H locs hp hS => ?_)
    refine lv_icmp_ge (tgt := 26) hx hb dX10_clearByRow_10 (by decide) (fun c_3 => ?_) (fun c_3 => ?_)
    · have hp := hp.1 c_3
      exact hR _ _ _ _ _ dX10_clearByRow_26 hp hS
    · have hp := hp.2 c_3
      refine lv_aload_n hx hb dX10_clearByRow_13 rfl (lv_at hl 0 rfl) ?_
      refine G_0_12 hC hS m59 dX10_clearByRow_14 ?_
      refine lv_iload_n hx hb dX10_clearByRow_17 rfl (lv_at hl 1 rfl) ?_
      refine lv_iconst hx hb dX10_clearByRow_18 kI_0 ?_
      refine Sa_13 hC hS hp.1 dX10_clearByRow_19 (fun w_4 H locs ew_4 hS => ?_)
      have hp := hp.2
      have hp := hp w_4 ew_4
      obtain ⟨x1_5, ex1_5⟩ : ∃ y : Int32, y = x1 + (1 : Int32) := ⟨_, rfl⟩
      have hp := hp x1_5 ex1_5
      refine lv_iinc (v := x1_5) (lv' := [(1, .int x1_5), (0, .ref (g.2.2 0))]) hx hb dX10_clearByRow_20 hl (k := 1) rfl (by rw [ex1_5]; rfl) (by decide) rfl (fun ls hl => ?_)
      refine lv_goto (tgt := 2) hx hb dX10_clearByRow_23 (by decide) ?_
      exact ih x1_5 w_4 _ _ _ hp hS (lv_sub hl [1, 0] rfl)
set_option maxHeartbeats 4000000 in
set_option maxRecDepth 100000 in
theorem rX10_clearByRow {l : Launch} {g : Gw} {w : Wd} {post : Wd → Prop}    (hp : pX10_clearByRow post  w) : MtV tabX l yX10_clearByRow cX10_clearByRow 2 none 2 g w [.ref (g.2.2 0)] post := by
  refine q_entV tabX_nd (by decide) rfl (Nat.le_of_ble_eq_true rfl) ?_
  intro p e s m args below meth c A Q ls hC hR hS hl
  have hx := hC.1
  have hb := hC.2.1
  have hl : lv_has ls 2 [(0, .ref (g.2.2 0))] := hl
  unfold pX10_clearByRow at hp
  refine lv_iconst hx hb dX10_clearByRow_0 kI_0 ?_
  refine lv_istore_n (lv' := [(1, .int (0 : Int32)), (0, .ref (g.2.2 0))]) hx hb dX10_clearByRow_1 rfl hl (by decide) rfl (fun ls hl => ?_)
  obtain ⟨n9, hp⟩ := hp
  exact bX10_clearByRow_2 hC hR n9 (0 : Int32) w _ _ _ hp hS (lv_sub hl [1, 0] rfl)
def pX10_likely_124 (k91 : Int32 → Int32 → Int32 → Wd → Prop) (post : Int32 → Wd → Prop) (x4 : Int32) (x5 : Int32) (x6 : Int32) (w : Wd) : Prop := ∀ x6_1, x6_1 = x6 + (1 : Int32) → k91 x4 x5 x6_1 w
def pX10_likely_91 (post : Int32 → Wd → Prop) : Nat → Int32 → Int32 → Int32 → Wd → Prop
  | 0, _, _, _, _ => False
  | n + 1, x4, x5, x6, w => pX7_rows (fun r_1 w_2 => (r_1 ≤ x6 → ((¬ x4 = 0 → (vp_in x5 4096 ∧ post (w_2.2.1 13 x5.toNatClampNeg) w_2)) ∧ (x4 = 0 → (post x5 w_2)))) ∧ (¬ r_1 ≤ x6 → (vp_in x6 4096 ∧ vp_in x5 4096 ∧ ((w_2.2.1 13 x6.toNatClampNeg) ≤ (w_2.2.1 13 x5.toNatClampNeg) → (pX10_likely_124 (pX10_likely_91 post n) post x4 x5 x6 w_2)) ∧ (¬ (w_2.2.1 13 x6.toNatClampNeg) ≤ (w_2.2.1 13 x5.toNatClampNeg) → (pX10_likely_124 (pX10_likely_91 post n) post x4 x6 x6 w_2))))) (w.2.2.2.2 0) w
def pX10_likely_79 (k30 : Int32 → Int32 → Int32 → Int32 → Int32 → Wd → Prop) (post : Int32 → Wd → Prop) (x1 : Int32) (x2 : Int32) (x3 : Int32) (x4 : Int32) (x5 : Int32) (w : Wd) : Prop := ∀ x5_1, x5_1 = x5 + (1 : Int32) → k30 x1 x2 x3 x4 x5_1 w
def pX10_likely_30 (post : Int32 → Wd → Prop) : Nat → Int32 → Int32 → Int32 → Int32 → Int32 → Wd → Prop
  | 0, _, _, _, _, _, _ => False
  | n + 1, x1, x2, x3, x4, x5, w => ((100 : Int32) ≤ x5 → (∃ n9, pX10_likely_91 post n9 x4 (0 : Int32) (1 : Int32) w)) ∧ (¬ (100 : Int32) ≤ x5 → (vp_in x1 24 ∧ pX1_rowAfter (fun r_2 w_3 => pX10_isRow (fun r_4 w_5 => (r_4 = 0 → (pX10_likely_79 (pX10_likely_30 post n) post x1 x2 x3 x4 x5 w_5)) ∧ (¬ r_4 = 0 → (vp_in r_2 4096 ∧ vp_in r_2 4096 ∧ ∀ w_7, w_7 = sA w_5 13 r_2.toNatClampNeg ((w_5.2.1 13 r_2.toNatClampNeg) + (1 : Int32)) → pX10_likely_79 (pX10_likely_30 post n) post x1 x2 x3 x4 x5 w_7))) r_2 w_3) (w.2.1 162 x1.toNatClampNeg) x2 x3 x5 w))
def pX10_likely (post : Int32 → Wd → Prop) (x1 : Int32) (x2 : Int32) (x3 : Int32) (x4 : Int32) (w : Wd) : Prop := pX10_canCast (fun r_1 w_2 => (r_1 = 0 → (post (-1 : Int32) w_2)) ∧ (¬ r_1 = 0 → ((x4 < 0 → (post (-1 : Int32) w_2)) ∧ (¬ x4 < 0 → ((x4 ≤ (1 : Int32) → (pX10_clearByRow (fun w_6 => ∃ n9, pX10_likely_30 post n9 x1 x2 x3 x4 (0 : Int32) w_6) w_2)) ∧ (¬ x4 ≤ (1 : Int32) → (post (-1 : Int32) w_2))))))) x1 x2 x3 w
set_option maxHeartbeats 4000000 in
set_option maxRecDepth 100000 in
theorem bX10_likely_124 {p : Program} {l : Launch} {e : Env} {s : State} {m : MethodId} {args : Array Value} {below : List Frame} {meth : Method} {c : Code} {Q : State → Prop} {A : Nat → Prop} {g : Gw} {post : Int32 → Wd → Prop}  (hC : Cx p s m args c cX10_likely RX10 7 g) (hR : RtI tabX p l e (rk 5) s m args below meth c Q cX10_likely A g post)  {k91 : Int32 → Int32 → Int32 → Wd → Prop} (hk91 : ∀ (x4 : Int32) (x5 : Int32) (x6 : Int32) (w : Wd) (H : Heap) (locs : List Loc) (ls : Array Slot), k91 x4 x5 x6 w → St tabX A s.heap g w H locs → lv_has ls 7 [(0, .ref (g.2.2 0)), (4, .int x4), (5, .int x5), (6, .int x6)] → W p l e (rk 5) s m args below meth c H locs 0 0 Q (F0 m 91 ls [])) : ∀ (x4 : Int32) (x5 : Int32) (x6 : Int32) (w : Wd) (H : Heap) (locs : List Loc) (ls : Array Slot), pX10_likely_124 k91 post x4 x5 x6 w → St tabX A s.heap g w H locs → lv_has ls 7 [(0, .ref (g.2.2 0)), (4, .int x4), (5, .int x5), (6, .int x6)] → W p l e (rk 5) s m args below meth c H locs 0 0 Q (F0 m 124 ls []) := by
  have hx := hC.1
  have hb := hC.2.1
  intro x4 x5 x6 w H locs ls hp hS hl
  unfold pX10_likely_124 at hp
  obtain ⟨x6_1, ex6_1⟩ : ∃ y : Int32, y = x6 + (1 : Int32) := ⟨_, rfl⟩
  have hp := hp x6_1 ex6_1
  refine lv_iinc (v := x6_1) (lv' := [(6, .int x6_1), (0, .ref (g.2.2 0)), (4, .int x4), (5, .int x5)]) hx hb dX10_likely_124 hl (k := 3) rfl (by rw [ex6_1]; rfl) (by decide) rfl (fun ls hl => ?_)
  refine lv_goto (tgt := 91) hx hb dX10_likely_127 (by decide) ?_
  exact hk91 x4 x5 x6_1 w _ _ _ hp hS (lv_sub hl [1, 2, 3, 0] rfl)
set_option maxHeartbeats 4000000 in
set_option maxRecDepth 100000 in
theorem bX10_likely_91 {p : Program} {l : Launch} {e : Env} {s : State} {m : MethodId} {args : Array Value} {below : List Frame} {meth : Method} {c : Code} {Q : State → Prop} {A : Nat → Prop} {g : Gw} {post : Int32 → Wd → Prop}  (hC : Cx p s m args c cX10_likely RX10 7 g) (hR : RtI tabX p l e (rk 5) s m args below meth c Q cX10_likely A g post)  : ∀ (n : Nat) (x4 : Int32) (x5 : Int32) (x6 : Int32) (w : Wd) (H : Heap) (locs : List Loc) (ls : Array Slot), pX10_likely_91 post n x4 x5 x6 w → St tabX A s.heap g w H locs → lv_has ls 7 [(0, .ref (g.2.2 0)), (4, .int x4), (5, .int x5), (6, .int x6)] → W p l e (rk 5) s m args below meth c H locs 0 0 Q (F0 m 91 ls []) := by
  have hx := hC.1
  have hb := hC.2.1
  intro n
  induction n with
  | zero =>
    intro x4 x5 x6 w H locs ls hp hS hl
    exact False.elim hp
  | succ n ih =>
    intro x4 x5 x6 w H locs ls hp hS hl
    unfold pX10_likely_91 at hp
    refine lv_iload hx hb dX10_likely_91 (lv_at hl 3 rfl) ?_
    refine lv_aload_n hx hb dX10_likely_93 rfl (lv_at hl 0 rfl) ?_
    refine G_0_16 hC hS m21 dX10_likely_94 ?_
    refine q_cvI (As := []) (rest := [.int x6]) hC hS hl.1 (rX7_rows hp) cwX10_240 yvX7_rows (rcvR hC hS) rfl rfl (Nat.le_of_ble_eq_true rfl) (rmk (by decide) (by decide)) dX10_likely_97 (fun r_1 w_2 H locs hp hS => ?_)
    refine lv_icmp_ge (tgt := 130) hx hb dX10_likely_100 (by decide) (fun c_3 => ?_) (fun c_3 => ?_)
    · have hp := hp.1 c_3
      refine lv_iload hx hb dX10_likely_130 (lv_at hl 1 rfl) ?_
      refine lv_if_ne (tgt := 140) hx hb dX10_likely_132 (by decide) (fun c_4 => ?_) (fun c_4 => ?_)
      · have hp := hp.1 c_4
        refine lv_aload_n hx hb dX10_likely_140 rfl (lv_at hl 0 rfl) ?_
        refine G_0_12 hC hS m59 dX10_likely_141 ?_
        refine lv_iload hx hb dX10_likely_144 (lv_at hl 2 rfl) ?_
        refine La_13 hC hS hp.1 dX10_likely_146 ?_
        have hp := hp.2
        exact hR _ _ _ _ _ _ dX10_likely_147 hp hS
      · have hp := hp.2 c_4
        refine lv_iload hx hb dX10_likely_135 (lv_at hl 2 rfl) ?_
        refine lv_goto (tgt := 147) hx hb dX10_likely_137 (by decide) ?_
        exact hR _ _ _ _ _ _ dX10_likely_147 hp hS
    · have hp := hp.2 c_3
      refine lv_aload_n hx hb dX10_likely_103 rfl (lv_at hl 0 rfl) ?_
      refine G_0_12 hC hS m59 dX10_likely_104 ?_
      refine lv_iload hx hb dX10_likely_107 (lv_at hl 3 rfl) ?_
      refine La_13 hC hS hp.1 dX10_likely_109 ?_
      have hp := hp.2
      refine lv_aload_n hx hb dX10_likely_110 rfl (lv_at hl 0 rfl) ?_
      refine G_0_12 hC hS m59 dX10_likely_111 ?_
      refine lv_iload hx hb dX10_likely_114 (lv_at hl 2 rfl) ?_
      refine La_13 hC hS hp.1 dX10_likely_116 ?_
      have hp := hp.2
      refine lv_icmp_le (tgt := 124) hx hb dX10_likely_117 (by decide) (fun c_5 => ?_) (fun c_5 => ?_)
      · have hp := hp.1 c_5
        exact bX10_likely_124 hC hR ih x4 x5 x6 w_2 _ _ _ hp hS (lv_sub hl [0, 1, 2, 3] rfl)
      · have hp := hp.2 c_5
        refine lv_iload hx hb dX10_likely_120 (lv_at hl 3 rfl) ?_
        refine lv_istore (lv' := [(5, .int x6), (0, .ref (g.2.2 0)), (4, .int x4), (6, .int x6)]) hx hb dX10_likely_122 hl (by decide) rfl (fun ls hl => ?_)
        exact bX10_likely_124 hC hR ih x4 x6 x6 w_2 _ _ _ hp hS (lv_sub hl [1, 2, 0, 3] rfl)
set_option maxHeartbeats 4000000 in
set_option maxRecDepth 100000 in
theorem bX10_likely_79 {p : Program} {l : Launch} {e : Env} {s : State} {m : MethodId} {args : Array Value} {below : List Frame} {meth : Method} {c : Code} {Q : State → Prop} {A : Nat → Prop} {g : Gw} {post : Int32 → Wd → Prop}  (hC : Cx p s m args c cX10_likely RX10 7 g) (hR : RtI tabX p l e (rk 5) s m args below meth c Q cX10_likely A g post)  {k30 : Int32 → Int32 → Int32 → Int32 → Int32 → Wd → Prop} (hk30 : ∀ (x1 : Int32) (x2 : Int32) (x3 : Int32) (x4 : Int32) (x5 : Int32) (w : Wd) (H : Heap) (locs : List Loc) (ls : Array Slot), k30 x1 x2 x3 x4 x5 w → St tabX A s.heap g w H locs → lv_has ls 7 [(0, .ref (g.2.2 0)), (1, .int x1), (2, .int x2), (3, .int x3), (4, .int x4), (5, .int x5)] → W p l e (rk 5) s m args below meth c H locs 0 0 Q (F0 m 30 ls [])) : ∀ (x1 : Int32) (x2 : Int32) (x3 : Int32) (x4 : Int32) (x5 : Int32) (w : Wd) (H : Heap) (locs : List Loc) (ls : Array Slot), pX10_likely_79 k30 post x1 x2 x3 x4 x5 w → St tabX A s.heap g w H locs → lv_has ls 7 [(0, .ref (g.2.2 0)), (1, .int x1), (2, .int x2), (3, .int x3), (4, .int x4), (5, .int x5)] → W p l e (rk 5) s m args below meth c H locs 0 0 Q (F0 m 79 ls []) := by
  have hx := hC.1
  have hb := hC.2.1
  intro x1 x2 x3 x4 x5 w H locs ls hp hS hl
  unfold pX10_likely_79 at hp
  obtain ⟨x5_1, ex5_1⟩ : ∃ y : Int32, y = x5 + (1 : Int32) := ⟨_, rfl⟩
  have hp := hp x5_1 ex5_1
  refine lv_iinc (v := x5_1) (lv' := [(5, .int x5_1), (0, .ref (g.2.2 0)), (1, .int x1), (2, .int x2), (3, .int x3), (4, .int x4)]) hx hb dX10_likely_79 hl (k := 5) rfl (by rw [ex5_1]; rfl) (by decide) rfl (fun ls hl => ?_)
  refine lv_goto (tgt := 30) hx hb dX10_likely_82 (by decide) ?_
  exact hk30 x1 x2 x3 x4 x5_1 w _ _ _ hp hS (lv_sub hl [1, 2, 3, 4, 5, 0] rfl)
set_option maxHeartbeats 4000000 in
set_option maxRecDepth 100000 in
theorem bX10_likely_30 {p : Program} {l : Launch} {e : Env} {s : State} {m : MethodId} {args : Array Value} {below : List Frame} {meth : Method} {c : Code} {Q : State → Prop} {A : Nat → Prop} {g : Gw} {post : Int32 → Wd → Prop}  (hC : Cx p s m args c cX10_likely RX10 7 g) (hR : RtI tabX p l e (rk 5) s m args below meth c Q cX10_likely A g post)  : ∀ (n : Nat) (x1 : Int32) (x2 : Int32) (x3 : Int32) (x4 : Int32) (x5 : Int32) (w : Wd) (H : Heap) (locs : List Loc) (ls : Array Slot), pX10_likely_30 post n x1 x2 x3 x4 x5 w → St tabX A s.heap g w H locs → lv_has ls 7 [(0, .ref (g.2.2 0)), (1, .int x1), (2, .int x2), (3, .int x3), (4, .int x4), (5, .int x5)] → W p l e (rk 5) s m args below meth c H locs 0 0 Q (F0 m 30 ls []) := by
  have hx := hC.1
  have hb := hC.2.1
  intro n
  induction n with
  | zero =>
    intro x1 x2 x3 x4 x5 w H locs ls hp hS hl
    exact False.elim hp
  | succ n ih =>
    intro x1 x2 x3 x4 x5 w H locs ls hp hS hl
    unfold pX10_likely_30 at hp
    refine lv_iload hx hb dX10_likely_30 (lv_at hl 5 rfl) ?_
    refine lv_bipush hx hb dX10_likely_32 kB_100 ?_
    refine lv_icmp_ge (tgt := 85) hx hb dX10_likely_34 (by decide) (fun c_1 => ?_) (fun c_1 => ?_)
    · have hp := hp.1 c_1
      refine lv_iconst hx hb dX10_likely_85 kI_0 ?_
      refine lv_istore (lv' := [(5, .int (0 : Int32)), (0, .ref (g.2.2 0)), (1, .int x1), (2, .int x2), (3, .int x3), (4, .int x4)]) hx hb dX10_likely_86 hl (by decide) rfl (fun ls hl => ?_)
      refine lv_iconst hx hb dX10_likely_88 kI_1 ?_
      refine lv_istore (lv' := [(6, .int (1 : Int32)), (5, .int (0 : Int32)), (0, .ref (g.2.2 0)), (1, .int x1), (2, .int x2), (3, .int x3), (4, .int x4)]) hx hb dX10_likely_89 hl (by decide) rfl (fun ls hl => ?_)
      obtain ⟨n9, hp⟩ := hp
      exact bX10_likely_91 hC hR n9 x4 (0 : Int32) (1 : Int32) w _ _ _ hp hS (lv_sub hl [2, 6, 1, 0] rfl)
    · have hp := hp.2 c_1
      refine lv_aload_n hx hb dX10_likely_37 rfl (lv_at hl 0 rfl) ?_
      refine G_0_4 hC hS m34 dX10_likely_38 ?_
      refine lv_aload_n hx hb dX10_likely_41 rfl (lv_at hl 0 rfl) ?_
      refine G_0_3 hC hS m30 dX10_likely_42 ?_
      refine G_160_1 hC hS m613 dX10_likely_45 ?_
      refine lv_iload_n hx hb dX10_likely_48 rfl (lv_at hl 1 rfl) ?_
      refine La_162 hC hS hp.1 dX10_likely_49 ?_
      have hp := hp.2
      refine lv_iload_n hx hb dX10_likely_50 rfl (lv_at hl 2 rfl) ?_
      refine lv_iload_n hx hb dX10_likely_51 rfl (lv_at hl 3 rfl) ?_
      refine lv_iload hx hb dX10_likely_52 (lv_at hl 5 rfl) ?_
      refine q_cvI (As := [.int (w.2.1 162 x1.toNatClampNeg), .int x2, .int x3, .int x5]) (rest := []) hC hS hl.1 (rX1_rowAfter hp) cwX10_196 yvX1_rowAfter (rcv_40 hC hS) rfl rfl (Nat.le_of_ble_eq_true rfl) (rmk (by decide) (by decide)) dX10_likely_54 (fun r_2 w_3 H locs hp hS => ?_)
      refine lv_istore (lv' := [(6, .int r_2), (0, .ref (g.2.2 0)), (1, .int x1), (2, .int x2), (3, .int x3), (4, .int x4), (5, .int x5)]) hx hb dX10_likely_57 hl (by decide) rfl (fun ls hl => ?_)
      refine lv_aload_n hx hb dX10_likely_59 rfl (lv_at hl 1 rfl) ?_
      refine lv_iload hx hb dX10_likely_60 (lv_at hl 0 rfl) ?_
      refine q_cvI (As := [.int r_2]) (rest := []) hC hS hl.1 (rX10_isRow hp) cwX10_180 yvX10_isRow (rcv_0 hC hS) rfl rfl (Nat.le_of_ble_eq_true rfl) (rmk (by decide) (by decide)) dX10_likely_62 (fun r_4 w_5 H locs hp hS => ?_)
      refine lv_if_eq (tgt := 79) hx hb dX10_likely_65 (by decide) (fun c_6 => ?_) (fun c_6 => ?_)
      · have hp := hp.1 c_6
        exact bX10_likely_79 hC hR ih x1 x2 x3 x4 x5 w_5 _ _ _ hp hS (lv_sub hl [1, 2, 3, 4, 5, 6] rfl)
      · have hp := hp.2 c_6
        refine lv_aload_n hx hb dX10_likely_68 rfl (lv_at hl 1 rfl) ?_
        refine G_0_12 hC hS m59 dX10_likely_69 ?_
        refine lv_iload hx hb dX10_likely_72 (lv_at hl 0 rfl) ?_
        refine lv_dup2_11 hx hb dX10_likely_74 rfl rfl ?_
        refine La_13 hC hS hp.1 dX10_likely_75 ?_
        have hp := hp.2
        refine lv_iconst hx hb dX10_likely_76 kI_1 ?_
        refine lv_iadd hx hb dX10_likely_77 ?_
        refine Sa_13 hC hS hp.1 dX10_likely_78 (fun w_7 H locs ew_7 hS => ?_)
        have hp := hp.2
        have hp := hp w_7 ew_7
        exact bX10_likely_79 hC hR ih x1 x2 x3 x4 x5 w_7 _ _ _ hp hS (lv_sub hl [1, 2, 3, 4, 5, 6] rfl)
set_option maxHeartbeats 4000000 in
set_option maxRecDepth 100000 in
theorem rX10_likely {l : Launch} {g : Gw} {w : Wd} {post : Int32 → Wd → Prop}   {x1 : Int32} {x2 : Int32} {x3 : Int32} {x4 : Int32} (hp : pX10_likely post x1 x2 x3 x4 w) : MtI tabX l yX10_likely cX10_likely 7 (some .int) 5 g w [.ref (g.2.2 0), .int x1, .int x2, .int x3, .int x4] post := by
  refine q_entI tabX_nd (by decide) rfl (Nat.le_of_ble_eq_true rfl) ?_
  intro p e s m args below meth c A Q ls hC hR hS hl
  have hx := hC.1
  have hb := hC.2.1
  have hl : lv_has ls 7 [(0, .ref (g.2.2 0)), (1, .int x1), (2, .int x2), (3, .int x3), (4, .int x4)] := hl
  unfold pX10_likely at hp
  refine lv_aload_n hx hb dX10_likely_0 rfl (lv_at hl 0 rfl) ?_
  refine lv_iload_n hx hb dX10_likely_1 rfl (lv_at hl 1 rfl) ?_
  refine lv_iload_n hx hb dX10_likely_2 rfl (lv_at hl 2 rfl) ?_
  refine lv_iload_n hx hb dX10_likely_3 rfl (lv_at hl 3 rfl) ?_
  refine q_cvI (As := [.int x1, .int x2, .int x3]) (rest := []) hC hS hl.1 (rX10_canCast hp) cwX10_200 yvX10_canCast (rcv_0 hC hS) rfl rfl (Nat.le_of_ble_eq_true rfl) (rmk (by decide) (by decide)) dX10_likely_4 (fun r_1 w_2 H locs hp hS => ?_)
  refine lv_if_eq (tgt := 21) hx hb dX10_likely_7 (by decide) (fun c_3 => ?_) (fun c_3 => ?_)
  · have hp := hp.1 c_3
    refine lv_iconst hx hb dX10_likely_21 kI_m1 ?_
    exact hR _ _ _ _ _ _ dX10_likely_22 hp hS
  · have hp := hp.2 c_3
    refine lv_iload hx hb dX10_likely_10 (lv_at hl 4 rfl) ?_
    refine lv_if_lt (tgt := 21) hx hb dX10_likely_12 (by decide) (fun c_4 => ?_) (fun c_4 => ?_)
    · have hp := hp.1 c_4
      refine lv_iconst hx hb dX10_likely_21 kI_m1 ?_
      exact hR _ _ _ _ _ _ dX10_likely_22 hp hS
    · have hp := hp.2 c_4
      refine lv_iload hx hb dX10_likely_15 (lv_at hl 4 rfl) ?_
      refine lv_iconst hx hb dX10_likely_17 kI_1 ?_
      refine lv_icmp_le (tgt := 23) hx hb dX10_likely_18 (by decide) (fun c_5 => ?_) (fun c_5 => ?_)
      · have hp := hp.1 c_5
        refine lv_aload_n hx hb dX10_likely_23 rfl (lv_at hl 0 rfl) ?_
        refine q_cvV (As := []) (rest := []) hC hS hl.1 (rX10_clearByRow hp) cwX10_237 yvX10_clearByRow (rcv_0 hC hS) rfl rfl (Nat.le_of_ble_eq_true rfl) (rmk (by decide) (by decide)) dX10_likely_24 (fun w_6 H locs hp hS => ?_)
        refine lv_iconst hx hb dX10_likely_27 kI_0 ?_
        refine lv_istore (lv' := [(5, .int (0 : Int32)), (0, .ref (g.2.2 0)), (1, .int x1), (2, .int x2), (3, .int x3), (4, .int x4)]) hx hb dX10_likely_28 hl (by decide) rfl (fun ls hl => ?_)
        obtain ⟨n9, hp⟩ := hp
        exact bX10_likely_30 hC hR n9 x1 x2 x3 x4 (0 : Int32) w_6 _ _ _ hp hS (lv_sub hl [1, 2, 3, 4, 5, 0] rfl)
      · have hp := hp.2 c_5
        refine lv_iconst hx hb dX10_likely_21 kI_m1 ?_
        exact hR _ _ _ _ _ _ dX10_likely_22 hp hS
def pX10_goRound_10 (post : Int32 → Wd → Prop) : Nat → Int32 → Int32 → Int32 → Int32 → Wd → Prop
  | 0, _, _, _, _, _ => False
  | n + 1, x2, x3, x4, x5, w => pX7_rows (fun r_1 w_2 => (r_1 < x5 → (post x4 w_2)) ∧ (¬ r_1 < x5 → (pX10_isRow (fun r_4 w_5 => (r_4 = 0 → (post x4 w_5)) ∧ (¬ r_4 = 0 → (vp_in x4 4096 ∧ (¬ (w_5.2.1 13 x4.toNatClampNeg) = 0 → (post x4 w_5)) ∧ ((w_5.2.1 13 x4.toNatClampNeg) = 0 → (vp_in x4 4096 ∧ ∀ w_8, w_8 = sA w_5 13 x4.toNatClampNeg x5 → pX1_rowAfter (fun r_9 w_10 => ∀ x5_11, x5_11 = x5 + (1 : Int32) → pX10_goRound_10 post n x2 x3 r_9 x5_11 w_10) x4 x2 x3 (0 : Int32) w_8))))) x4 w_2))) (w.2.2.2.2 0) w
def pX10_goRound (post : Int32 → Wd → Prop) (x1 : Int32) (x2 : Int32) (x3 : Int32) (w : Wd) : Prop := pX10_clearByRow (fun w_1 => ∃ n9, pX10_goRound_10 post n9 x2 x3 x1 (1 : Int32) w_1) w
set_option maxHeartbeats 4000000 in
set_option maxRecDepth 100000 in
theorem bX10_goRound_10 {p : Program} {l : Launch} {e : Env} {s : State} {m : MethodId} {args : Array Value} {below : List Frame} {meth : Method} {c : Code} {Q : State → Prop} {A : Nat → Prop} {g : Gw} {post : Int32 → Wd → Prop}  (hC : Cx p s m args c cX10_goRound RX10 6 g) (hR : RtI tabX p l e (rk 5) s m args below meth c Q cX10_goRound A g post)  : ∀ (n : Nat) (x2 : Int32) (x3 : Int32) (x4 : Int32) (x5 : Int32) (w : Wd) (H : Heap) (locs : List Loc) (ls : Array Slot), pX10_goRound_10 post n x2 x3 x4 x5 w → St tabX A s.heap g w H locs → lv_has ls 6 [(0, .ref (g.2.2 0)), (2, .int x2), (3, .int x3), (4, .int x4), (5, .int x5)] → W p l e (rk 5) s m args below meth c H locs 0 0 Q (F0 m 10 ls []) := by
  have hx := hC.1
  have hb := hC.2.1
  intro n
  induction n with
  | zero =>
    intro x2 x3 x4 x5 w H locs ls hp hS hl
    exact False.elim hp
  | succ n ih =>
    intro x2 x3 x4 x5 w H locs ls hp hS hl
    unfold pX10_goRound_10 at hp
    refine lv_iload hx hb dX10_goRound_10 (lv_at hl 4 rfl) ?_
    refine lv_aload_n hx hb dX10_goRound_12 rfl (lv_at hl 0 rfl) ?_
    refine G_0_16 hC hS m21 dX10_goRound_13 ?_
    refine q_cvI (As := []) (rest := [.int x5]) hC hS hl.1 (rX7_rows hp) cwX10_240 yvX7_rows (rcvR hC hS) rfl rfl (Nat.le_of_ble_eq_true rfl) (rmk (by decide) (by decide)) dX10_goRound_16 (fun r_1 w_2 H locs hp hS => ?_)
    refine lv_icmp_gt (tgt := 70) hx hb dX10_goRound_19 (by decide) (fun c_3 => ?_) (fun c_3 => ?_)
    · have hp := hp.1 c_3
      refine lv_iload hx hb dX10_goRound_70 (lv_at hl 3 rfl) ?_
      exact hR _ _ _ _ _ _ dX10_goRound_72 hp hS
    · have hp := hp.2 c_3
      refine lv_aload_n hx hb dX10_goRound_22 rfl (lv_at hl 0 rfl) ?_
      refine lv_iload hx hb dX10_goRound_23 (lv_at hl 3 rfl) ?_
      refine q_cvI (As := [.int x4]) (rest := []) hC hS hl.1 (rX10_isRow hp) cwX10_180 yvX10_isRow (rcv_0 hC hS) rfl rfl (Nat.le_of_ble_eq_true rfl) (rmk (by decide) (by decide)) dX10_goRound_25 (fun r_4 w_5 H locs hp hS => ?_)
      refine lv_if_eq (tgt := 70) hx hb dX10_goRound_28 (by decide) (fun c_6 => ?_) (fun c_6 => ?_)
      · have hp := hp.1 c_6
        refine lv_iload hx hb dX10_goRound_70 (lv_at hl 3 rfl) ?_
        exact hR _ _ _ _ _ _ dX10_goRound_72 hp hS
      · have hp := hp.2 c_6
        refine lv_aload_n hx hb dX10_goRound_31 rfl (lv_at hl 0 rfl) ?_
        refine G_0_12 hC hS m59 dX10_goRound_32 ?_
        refine lv_iload hx hb dX10_goRound_35 (lv_at hl 3 rfl) ?_
        refine La_13 hC hS hp.1 dX10_goRound_37 ?_
        have hp := hp.2
        refine lv_if_ne (tgt := 70) hx hb dX10_goRound_38 (by decide) (fun c_7 => ?_) (fun c_7 => ?_)
        · have hp := hp.1 c_7
          refine lv_iload hx hb dX10_goRound_70 (lv_at hl 3 rfl) ?_
          exact hR _ _ _ _ _ _ dX10_goRound_72 hp hS
        · have hp := hp.2 c_7
          refine lv_aload_n hx hb dX10_goRound_41 rfl (lv_at hl 0 rfl) ?_
          refine G_0_12 hC hS m59 dX10_goRound_42 ?_
          refine lv_iload hx hb dX10_goRound_45 (lv_at hl 3 rfl) ?_
          refine lv_iload hx hb dX10_goRound_47 (lv_at hl 4 rfl) ?_
          refine Sa_13 hC hS hp.1 dX10_goRound_49 (fun w_8 H locs ew_8 hS => ?_)
          have hp := hp.2
          have hp := hp w_8 ew_8
          refine lv_aload_n hx hb dX10_goRound_50 rfl (lv_at hl 0 rfl) ?_
          refine G_0_4 hC hS m34 dX10_goRound_51 ?_
          refine lv_iload hx hb dX10_goRound_54 (lv_at hl 3 rfl) ?_
          refine lv_iload_n hx hb dX10_goRound_56 rfl (lv_at hl 1 rfl) ?_
          refine lv_iload_n hx hb dX10_goRound_57 rfl (lv_at hl 2 rfl) ?_
          refine lv_iconst hx hb dX10_goRound_58 kI_0 ?_
          refine q_cvI (As := [.int x4, .int x2, .int x3, .int (0 : Int32)]) (rest := []) hC hS hl.1 (rX1_rowAfter hp) cwX10_196 yvX1_rowAfter (rcv_40 hC hS) rfl rfl (Nat.le_of_ble_eq_true rfl) (rmk (by decide) (by decide)) dX10_goRound_59 (fun r_9 w_10 H locs hp hS => ?_)
          refine lv_istore (lv' := [(4, .int r_9), (0, .ref (g.2.2 0)), (2, .int x2), (3, .int x3), (5, .int x5)]) hx hb dX10_goRound_62 hl (by decide) rfl (fun ls hl => ?_)
          obtain ⟨x5_11, ex5_11⟩ : ∃ y : Int32, y = x5 + (1 : Int32) := ⟨_, rfl⟩
          have hp := hp x5_11 ex5_11
          refine lv_iinc (v := x5_11) (lv' := [(5, .int x5_11), (4, .int r_9), (0, .ref (g.2.2 0)), (2, .int x2), (3, .int x3)]) hx hb dX10_goRound_64 hl (k := 4) rfl (by rw [ex5_11]; rfl) (by decide) rfl (fun ls hl => ?_)
          refine lv_goto (tgt := 10) hx hb dX10_goRound_67 (by decide) ?_
          exact ih x2 x3 r_9 x5_11 w_10 _ _ _ hp hS (lv_sub hl [2, 3, 4, 1, 0] rfl)
set_option maxHeartbeats 4000000 in
set_option maxRecDepth 100000 in
theorem rX10_goRound {l : Launch} {g : Gw} {w : Wd} {post : Int32 → Wd → Prop}   {x1 : Int32} {x2 : Int32} {x3 : Int32} (hp : pX10_goRound post x1 x2 x3 w) : MtI tabX l yX10_goRound cX10_goRound 6 (some .int) 5 g w [.ref (g.2.2 0), .int x1, .int x2, .int x3] post := by
  refine q_entI tabX_nd (by decide) rfl (Nat.le_of_ble_eq_true rfl) ?_
  intro p e s m args below meth c A Q ls hC hR hS hl
  have hx := hC.1
  have hb := hC.2.1
  have hl : lv_has ls 6 [(0, .ref (g.2.2 0)), (1, .int x1), (2, .int x2), (3, .int x3)] := hl
  unfold pX10_goRound at hp
  refine lv_aload_n hx hb dX10_goRound_0 rfl (lv_at hl 0 rfl) ?_
  refine q_cvV (As := []) (rest := []) hC hS hl.1 (rX10_clearByRow hp) cwX10_237 yvX10_clearByRow (rcv_0 hC hS) rfl rfl (Nat.le_of_ble_eq_true rfl) (rmk (by decide) (by decide)) dX10_goRound_1 (fun w_1 H locs hp hS => ?_)
  refine lv_iload_n hx hb dX10_goRound_4 rfl (lv_at hl 1 rfl) ?_
  refine lv_istore (lv' := [(4, .int x1), (0, .ref (g.2.2 0)), (1, .int x1), (2, .int x2), (3, .int x3)]) hx hb dX10_goRound_5 hl (by decide) rfl (fun ls hl => ?_)
  refine lv_iconst hx hb dX10_goRound_7 kI_1 ?_
  refine lv_istore (lv' := [(5, .int (1 : Int32)), (4, .int x1), (0, .ref (g.2.2 0)), (1, .int x1), (2, .int x2), (3, .int x3)]) hx hb dX10_goRound_8 hl (by decide) rfl (fun ls hl => ?_)
  obtain ⟨n9, hp⟩ := hp
  exact bX10_goRound_10 hC hR n9 x2 x3 x1 (1 : Int32) w_1 _ _ _ hp hS (lv_sub hl [2, 4, 5, 1, 0] rfl)
def pX10_fades (post : Int32 → Wd → Prop) (x1 : Int32) (x2 : Int32) (x3 : Int32) (w : Wd) : Prop := pX10_canCast (fun r_1 w_2 => (¬ r_1 = 0 → (vp_in x1 24 ∧ pX10_goRound (fun r_4 w_5 => post ((w_5.2.1 13 (0 : Int32).toNatClampNeg) - (1 : Int32)) w_5) (w_2.2.1 162 x1.toNatClampNeg) x2 x3 w_2)) ∧ (r_1 = 0 → (post (-1 : Int32) w_2))) x1 x2 x3 w
set_option maxHeartbeats 4000000 in
set_option maxRecDepth 100000 in
theorem rX10_fades {l : Launch} {g : Gw} {w : Wd} {post : Int32 → Wd → Prop}   {x1 : Int32} {x2 : Int32} {x3 : Int32} (hp : pX10_fades post x1 x2 x3 w) : MtI tabX l yX10_fades cX10_fades 4 (some .int) 6 g w [.ref (g.2.2 0), .int x1, .int x2, .int x3] post := by
  refine q_entI tabX_nd (by decide) rfl (Nat.le_of_ble_eq_true rfl) ?_
  intro p e s m args below meth c A Q ls hC hR hS hl
  have hx := hC.1
  have hb := hC.2.1
  have hl : lv_has ls 4 [(0, .ref (g.2.2 0)), (1, .int x1), (2, .int x2), (3, .int x3)] := hl
  unfold pX10_fades at hp
  refine lv_aload_n hx hb dX10_fades_0 rfl (lv_at hl 0 rfl) ?_
  refine lv_iload_n hx hb dX10_fades_1 rfl (lv_at hl 1 rfl) ?_
  refine lv_iload_n hx hb dX10_fades_2 rfl (lv_at hl 2 rfl) ?_
  refine lv_iload_n hx hb dX10_fades_3 rfl (lv_at hl 3 rfl) ?_
  refine q_cvI (As := [.int x1, .int x2, .int x3]) (rest := []) hC hS hl.1 (rX10_canCast hp) cwX10_200 yvX10_canCast (rcv_0 hC hS) rfl rfl (Nat.le_of_ble_eq_true rfl) (rmk (by decide) (by decide)) dX10_fades_4 (fun r_1 w_2 H locs hp hS => ?_)
  refine lv_if_ne (tgt := 12) hx hb dX10_fades_7 (by decide) (fun c_3 => ?_) (fun c_3 => ?_)
  · have hp := hp.1 c_3
    refine lv_aload_n hx hb dX10_fades_12 rfl (lv_at hl 0 rfl) ?_
    refine lv_aload_n hx hb dX10_fades_13 rfl (lv_at hl 0 rfl) ?_
    refine G_0_3 hC hS m30 dX10_fades_14 ?_
    refine G_160_1 hC hS m613 dX10_fades_17 ?_
    refine lv_iload_n hx hb dX10_fades_20 rfl (lv_at hl 1 rfl) ?_
    refine La_162 hC hS hp.1 dX10_fades_21 ?_
    have hp := hp.2
    refine lv_iload_n hx hb dX10_fades_22 rfl (lv_at hl 2 rfl) ?_
    refine lv_iload_n hx hb dX10_fades_23 rfl (lv_at hl 3 rfl) ?_
    refine q_cvI (As := [.int (w_2.2.1 162 x1.toNatClampNeg), .int x2, .int x3]) (rest := []) hC hS hl.1 (rX10_goRound hp) cwX10_244 yvX10_goRound (rcv_0 hC hS) rfl rfl (Nat.le_of_ble_eq_true rfl) (rmk (by decide) (by decide)) dX10_fades_24 (fun r_4 w_5 H locs hp hS => ?_)
    refine lv_pop hx hb dX10_fades_27 rfl ?_
    refine lv_aload_n hx hb dX10_fades_28 rfl (lv_at hl 0 rfl) ?_
    refine G_0_12 hC hS m59 dX10_fades_29 ?_
    refine lv_iconst hx hb dX10_fades_32 kI_0 ?_
    refine La_13 hC hS (by unfold vp_in; decide) dX10_fades_33 ?_
    refine lv_iconst hx hb dX10_fades_34 kI_1 ?_
    refine lv_isub hx hb dX10_fades_35 ?_
    exact hR _ _ _ _ _ _ dX10_fades_36 hp hS
  · have hp := hp.2 c_3
    refine lv_iconst hx hb dX10_fades_10 kI_m1 ?_
    exact hR _ _ _ _ _ _ dX10_fades_11 hp hS
