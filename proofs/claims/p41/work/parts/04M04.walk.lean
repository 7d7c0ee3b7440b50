def pX11_kinOf_5 (post : Int32 → Wd → Prop) : Nat → Int32 → Int32 → Wd → Prop
  | 0, _, _, _ => False
  | n + 1, x3, x4, w => (x3 = x4 → (post x3 w)) ∧ (¬ x3 = x4 → ((x3 ≤ x4 → (vp_in (((4 : Int32) * x4) + (1 : Int32)) 221 ∧ ∀ x4_3, x4_3 = (w.2.1 341 (((4 : Int32) * x4) + (1 : Int32)).toNatClampNeg) → pX11_kinOf_5 post n x3 x4_3 w)) ∧ (¬ x3 ≤ x4 → (vp_in (((4 : Int32) * x3) + (1 : Int32)) 221 ∧ ∀ x3_4, x3_4 = (w.2.1 341 (((4 : Int32) * x3) + (1 : Int32)).toNatClampNeg) → pX11_kinOf_5 post n x3_4 x4 w))))
def pX11_kinOf (post : Int32 → Wd → Prop) (x1 : Int32) (x2 : Int32) (w : Wd) : Prop := ∃ n9, pX11_kinOf_5 post n9 x1 x2 w
set_option maxHeartbeats 4000000 in
set_option maxRecDepth 100000 in
theorem bX11_kinOf_5 {p : Program} {l : Launch} {e : Env} {s : State} {m : MethodId} {args : Array Value} {below : List Frame} {meth : Method} {c : Code} {Q : State → Prop} {A : Nat → Prop} {g : Gw} {post : Int32 → Wd → Prop}  (hC : Cx p s m args c cX11_kinOf RX11 5 g) (hR : RtI tabM p l e (rk 1) s m args below meth c Q cX11_kinOf A g post)  : ∀ (n : Nat) (x3 : Int32) (x4 : Int32) (w : Wd) (H : Heap) (locs : List Loc) (ls : Array Slot), pX11_kinOf_5 post n x3 x4 w → St tabM A s.heap g w H locs → lv_has ls 5 [(0, .ref (g.2.2 300)), (3, .int x3), (4, .int x4)] → W p l e (rk 1) s m args below meth c H locs 0 0 Q (F0 m 5 ls []) := by
  have hx := hC.1
  have hb := hC.2.1
  intro n
  induction n with
  | zero =>
    intro x3 x4 w H locs ls hp hS hl
    exact False.elim hp
  | succ n ih =>
    intro x3 x4 w H locs ls hp hS hl
    unfold pX11_kinOf_5 at hp
    refine lv_iload_n hx hb dX11_kinOf_5 rfl (lv_at hl 1 rfl) ?_
    refine lv_iload hx hb dX11_kinOf_6 (lv_at hl 2 rfl) ?_
    refine lv_icmp_eq (tgt := 47) hx hb dX11_kinOf_8 (by decide) (fun c_1 => ?_) (fun c_1 => ?_)
    · have hp := hp.1 c_1
      refine lv_iload_n hx hb dX11_kinOf_47 rfl (lv_at hl 1 rfl) ?_
      exact hR _ _ _ _ _ _ dX11_kinOf_48 hp hS
    · have hp := hp.2 c_1
      refine lv_iload_n hx hb dX11_kinOf_11 rfl (lv_at hl 1 rfl) ?_
      refine lv_iload hx hb dX11_kinOf_12 (lv_at hl 2 rfl) ?_
      refine lv_icmp_le (tgt := 31) hx hb dX11_kinOf_14 (by decide) (fun c_2 => ?_) (fun c_2 => ?_)
      · have hp := hp.1 c_2
        refine lv_aload_n hx hb dX11_kinOf_31 rfl (lv_at hl 0 rfl) ?_
        refine G_300_40 hC hS m274 dX11_kinOf_32 ?_
        refine lv_iconst hx hb dX11_kinOf_35 kI_4 ?_
        refine lv_iload hx hb dX11_kinOf_36 (lv_at hl 2 rfl) ?_
        refine lv_imul hx hb dX11_kinOf_38 ?_
        refine lv_iconst hx hb dX11_kinOf_39 kI_1 ?_
        refine lv_iadd hx hb dX11_kinOf_40 ?_
        refine La_341 hC hS hp.1 dX11_kinOf_41 ?_
        have hp := hp.2
        refine lv_topi (fun x4_3 ex4_3 => ?_)
        have hp := hp x4_3 ex4_3
        refine lv_istore (lv' := [(4, .int x4_3), (0, .ref (g.2.2 300)), (3, .int x3)]) hx hb dX11_kinOf_42 hl (by decide) rfl (fun ls hl => ?_)
        refine lv_goto (tgt := 5) hx hb dX11_kinOf_44 (by decide) ?_
        exact ih x3 x4_3 w _ _ _ hp hS (lv_sub hl [1, 2, 0] rfl)
      · have hp := hp.2 c_2
        refine lv_aload_n hx hb dX11_kinOf_17 rfl (lv_at hl 0 rfl) ?_
        refine G_300_40 hC hS m274 dX11_kinOf_18 ?_
        refine lv_iconst hx hb dX11_kinOf_21 kI_4 ?_
        refine lv_iload_n hx hb dX11_kinOf_22 rfl (lv_at hl 1 rfl) ?_
        refine lv_imul hx hb dX11_kinOf_23 ?_
        refine lv_iconst hx hb dX11_kinOf_24 kI_1 ?_
        refine lv_iadd hx hb dX11_kinOf_25 ?_
        refine La_341 hC hS hp.1 dX11_kinOf_26 ?_
        have hp := hp.2
        refine lv_topi (fun x3_4 ex3_4 => ?_)
        have hp := hp x3_4 ex3_4
        refine lv_istore_n (lv' := [(3, .int x3_4), (0, .ref (g.2.2 300)), (4, .int x4)]) hx hb dX11_kinOf_27 rfl hl (by decide) rfl (fun ls hl => ?_)
        refine lv_goto (tgt := 5) hx hb dX11_kinOf_28 (by decide) ?_
        exact ih x3_4 x4 w _ _ _ hp hS (lv_sub hl [1, 0, 2] rfl)
set_option maxHeartbeats 4000000 in
set_option maxRecDepth 100000 in
theorem rX11_kinOf {l : Launch} {g : Gw} {w : Wd} {post : Int32 → Wd → Prop}   {x1 : Int32} {x2 : Int32} (hp : pX11_kinOf post x1 x2 w) : MtI tabM l yX11_kinOf cX11_kinOf 5 (some .int) 1 g w [.ref (g.2.2 300), .int x1, .int x2] post := by
  refine q_entI tabM_nd (by decide) rfl (Nat.le_of_ble_eq_true rfl) ?_
  intro p e s m args below meth c A Q ls hC hR hS hl
  have hx := hC.1
  have hb := hC.2.1
  have hl : lv_has ls 5 [(0, .ref (g.2.2 300)), (1, .int x1), (2, .int x2)] := hl
  unfold pX11_kinOf at hp
  refine lv_iload_n hx hb dX11_kinOf_0 rfl (lv_at hl 1 rfl) ?_
  refine lv_istore_n (lv' := [(3, .int x1), (0, .ref (g.2.2 300)), (1, .int x1), (2, .int x2)]) hx hb dX11_kinOf_1 rfl hl (by decide) rfl (fun ls hl => ?_)
  refine lv_iload_n hx hb dX11_kinOf_2 rfl (lv_at hl 3 rfl) ?_
  refine lv_istore (lv' := [(4, .int x2), (3, .int x1), (0, .ref (g.2.2 300)), (1, .int x1), (2, .int x2)]) hx hb dX11_kinOf_3 hl (by decide) rfl (fun ls hl => ?_)
  obtain ⟨n9, hp⟩ := hp
  exact bX11_kinOf_5 hC hR n9 x1 x2 w _ _ _ hp hS (lv_sub hl [2, 1, 0] rfl)
def pX11_kin (post : Int32 → Wd → Prop) (x1 : Int32) (x2 : Int32) (x3 : Int32) (w : Wd) : Prop := pX11_isSeal (fun r_1 w_2 => (r_1 = 0 → (post (-1 : Int32) w_2)) ∧ (¬ r_1 = 0 → (pX11_isSeal (fun r_4 w_5 => (r_4 = 0 → (post (-1 : Int32) w_5)) ∧ (¬ r_4 = 0 → (pX11_isIn (fun r_7 w_8 => (¬ r_7 = 0 → (pX11_kinOf (fun r_10 w_11 => (¬ x3 = 0 → (pX11_deep (fun r_13 w_14 => pX11_deep (fun r_15 w_16 => pX11_deep (fun r_17 w_18 => post ((r_13 + r_15) - ((2 : Int32) * r_17)) w_18) r_10 w_16) x2 w_14) x1 w_11)) ∧ (x3 = 0 → (post r_10 w_11))) x1 x2 w_8)) ∧ (r_7 = 0 → (post (-1 : Int32) w_8))) x3 (0 : Int32) (1 : Int32) w_5))) x2 w_2))) x1 w
set_option maxHeartbeats 4000000 in
set_option maxRecDepth 100000 in
theorem rX11_kin {l : Launch} {g : Gw} {w : Wd} {post : Int32 → Wd → Prop}   {x1 : Int32} {x2 : Int32} {x3 : Int32} (hp : pX11_kin post x1 x2 x3 w) : MtI tabM l yX11_kin cX11_kin 5 (some .int) 3 g w [.ref (g.2.2 300), .int x1, .int x2, .int x3] post := by
  refine q_entI tabM_nd (by decide) rfl (Nat.le_of_ble_eq_true rfl) ?_
  intro p e s m args below meth c A Q ls hC hR hS hl
  have hx := hC.1
  have hb := hC.2.1
  have hl : lv_has ls 5 [(0, .ref (g.2.2 300)), (1, .int x1), (2, .int x2), (3, .int x3)] := hl
  unfold pX11_kin at hp
  refine lv_aload_n hx hb dX11_kin_0 rfl (lv_at hl 0 rfl) ?_
  refine lv_iload_n hx hb dX11_kin_1 rfl (lv_at hl 1 rfl) ?_
  refine q_cvI (As := [.int x1]) (rest := []) hC hS hl.1 (rX11_isSeal hp) cwX11_383 yvX11_isSeal (rcv_300 hC hS) rfl rfl (Nat.le_of_ble_eq_true rfl) (rmk (by decide) (by decide)) dX11_kin_2 (fun r_1 w_2 H locs hp hS => ?_)
  refine lv_if_eq (tgt := 25) hx hb dX11_kin_5 (by decide) (fun c_3 => ?_) (fun c_3 => ?_)
  · have hp := hp.1 c_3
    refine lv_iconst hx hb dX11_kin_25 kI_m1 ?_
    exact hR _ _ _ _ _ _ dX11_kin_26 hp hS
  · have hp := hp.2 c_3
    refine lv_aload_n hx hb dX11_kin_8 rfl (lv_at hl 0 rfl) ?_
    refine lv_iload_n hx hb dX11_kin_9 rfl (lv_at hl 2 rfl) ?_
    refine q_cvI (As := [.int x2]) (rest := []) hC hS hl.1 (rX11_isSeal hp) cwX11_383 yvX11_isSeal (rcv_300 hC hS) rfl rfl (Nat.le_of_ble_eq_true rfl) (rmk (by decide) (by decide)) dX11_kin_10 (fun r_4 w_5 H locs hp hS => ?_)
    refine lv_if_eq (tgt := 25) hx hb dX11_kin_13 (by decide) (fun c_6 => ?_) (fun c_6 => ?_)
    · have hp := hp.1 c_6
      refine lv_iconst hx hb dX11_kin_25 kI_m1 ?_
      exact hR _ _ _ _ _ _ dX11_kin_26 hp hS
    · have hp := hp.2 c_6
      refine lv_iload_n hx hb dX11_kin_16 rfl (lv_at hl 3 rfl) ?_
      refine lv_iconst hx hb dX11_kin_17 kI_0 ?_
      refine lv_iconst hx hb dX11_kin_18 kI_1 ?_
      refine q_csI (As := [.int x3, .int (0 : Int32), .int (1 : Int32)]) (rest := []) hC hS hl.1 (rX11_isIn hp) cwX11_345 ysX11_isIn rfl rfl (Nat.le_of_ble_eq_true rfl) (rmk (by decide) (by decide)) dX11_kin_19 (fun r_7 w_8 H locs hp hS => ?_)
      refine lv_if_ne (tgt := 27) hx hb dX11_kin_22 (by decide) (fun c_9 => ?_) (fun c_9 => ?_)
      · have hp := hp.1 c_9
        refine lv_aload_n hx hb dX11_kin_27 rfl (lv_at hl 0 rfl) ?_
        refine lv_iload_n hx hb dX11_kin_28 rfl (lv_at hl 1 rfl) ?_
        refine lv_iload_n hx hb dX11_kin_29 rfl (lv_at hl 2 rfl) ?_
        refine q_cvI (As := [.int x1, .int x2]) (rest := []) hC hS hl.1 (rX11_kinOf hp) cwX11_404 yvX11_kinOf (rcv_300 hC hS) rfl rfl (Nat.le_of_ble_eq_true rfl) (rmk (by decide) (by decide)) dX11_kin_30 (fun r_10 w_11 H locs hp hS => ?_)
        refine lv_istore (lv' := [(4, .int r_10), (0, .ref (g.2.2 300)), (1, .int x1), (2, .int x2), (3, .int x3)]) hx hb dX11_kin_33 hl (by decide) rfl (fun ls hl => ?_)
        refine lv_iload_n hx hb dX11_kin_35 rfl (lv_at hl 4 rfl) ?_
        refine lv_if_ne (tgt := 44) hx hb dX11_kin_36 (by decide) (fun c_12 => ?_) (fun c_12 => ?_)
        · have hp := hp.1 c_12
          refine lv_aload_n hx hb dX11_kin_44 rfl (lv_at hl 1 rfl) ?_
          refine lv_iload_n hx hb dX11_kin_45 rfl (lv_at hl 2 rfl) ?_
          refine q_cvI (As := [.int x1]) (rest := []) hC hS hl.1 (rX11_deep hp) cwX11_386 yvX11_deep (rcv_300 hC hS) rfl rfl (Nat.le_of_ble_eq_true rfl) (rmk (by decide) (by decide)) dX11_kin_46 (fun r_13 w_14 H locs hp hS => ?_)
          refine lv_aload_n hx hb dX11_kin_49 rfl (lv_at hl 1 rfl) ?_
          refine lv_iload_n hx hb dX11_kin_50 rfl (lv_at hl 3 rfl) ?_
          refine q_cvI (As := [.int x2]) (rest := [.int r_13]) hC hS hl.1 (rX11_deep hp) cwX11_386 yvX11_deep (rcv_300 hC hS) rfl rfl (Nat.le_of_ble_eq_true rfl) (rmk (by decide) (by decide)) dX11_kin_51 (fun r_15 w_16 H locs hp hS => ?_)
          refine lv_iadd hx hb dX11_kin_54 ?_
          refine lv_iconst hx hb dX11_kin_55 kI_2 ?_
          refine lv_aload_n hx hb dX11_kin_56 rfl (lv_at hl 1 rfl) ?_
          refine lv_iload hx hb dX11_kin_57 (lv_at hl 0 rfl) ?_
          refine q_cvI (As := [.int r_10]) (rest := [.int (2 : Int32), .int (r_13 + r_15)]) hC hS hl.1 (rX11_deep hp) cwX11_386 yvX11_deep (rcv_300 hC hS) rfl rfl (Nat.le_of_ble_eq_true rfl) (rmk (by decide) (by decide)) dX11_kin_59 (fun r_17 w_18 H locs hp hS => ?_)
          refine lv_imul hx hb dX11_kin_62 ?_
          refine lv_isub hx hb dX11_kin_63 ?_
          exact hR _ _ _ _ _ _ dX11_kin_64 hp hS
        · have hp := hp.2 c_12
          refine lv_iload hx hb dX11_kin_39 (lv_at hl 0 rfl) ?_
          refine lv_goto (tgt := 64) hx hb dX11_kin_41 (by decide) ?_
          exact hR _ _ _ _ _ _ dX11_kin_64 hp hS
      · have hp := hp.2 c_9
        refine lv_iconst hx hb dX11_kin_25 kI_m1 ?_
        exact hR _ _ _ _ _ _ dX11_kin_26 hp hS
def pX11_thumb_42 (post : Int32 → Wd → Prop) : Nat → Int32 → Int32 → Wd → Prop
  | 0, _, _, _ => False
  | n + 1, x3, x4, w => (x3 ≤ 0 → (post (-1 : Int32) w)) ∧ (¬ x3 ≤ 0 → (vp_in (((4 : Int32) * x3) + (1 : Int32)) 221 ∧ ∀ x5_2, x5_2 = (w.2.1 341 (((4 : Int32) * x3) + (1 : Int32)).toNatClampNeg) → pX11_width (fun r_3 w_4 => ∀ x4_5, x4_5 = ((r_3 - (1 : Int32)) - x4) → pX11_rowOf (fun r_6 w_7 => (¬ ((r_6 >>> (x4_5 &&& 31)) &&& (1 : Int32)) = 0 → (pX11_thumb_42 post n x5_2 x4_5 w_7)) ∧ (((r_6 >>> (x4_5 &&& 31)) &&& (1 : Int32)) = 0 → (vp_in (((4 : Int32) * x3) + (2 : Int32)) 221 ∧ post (w_7.2.1 341 (((4 : Int32) * x3) + (2 : Int32)).toNatClampNeg) w_7))) x5_2 w_4) w))
def pX11_thumb (post : Int32 → Wd → Prop) (x1 : Int32) (x2 : Int32) (w : Wd) : Prop := pX11_isSeal (fun r_1 w_2 => (r_1 = 0 → (post (-2 : Int32) w_2)) ∧ (¬ r_1 = 0 → (pX11_width (fun r_4 w_5 => pX11_isIn (fun r_6 w_7 => (r_6 = 0 → (post (-2 : Int32) w_7)) ∧ (¬ r_6 = 0 → (pX11_rowOf (fun r_9 w_10 => (¬ ((r_9 >>> (x2 &&& 31)) &&& (1 : Int32)) = 0 → (∃ n9, pX11_thumb_42 post n9 x1 x2 w_10)) ∧ (((r_9 >>> (x2 &&& 31)) &&& (1 : Int32)) = 0 → (post (-2 : Int32) w_10))) x1 w_7))) x2 (0 : Int32) (r_4 - (1 : Int32)) w_5) w_2))) x1 w
set_option maxHeartbeats 4000000 in
set_option maxRecDepth 100000 in
theorem bX11_thumb_42 {p : Program} {l : Launch} {e : Env} {s : State} {m : MethodId} {args : Array Value} {below : List Frame} {meth : Method} {c : Code} {Q : State → Prop} {A : Nat → Prop} {g : Gw} {post : Int32 → Wd → Prop}  (hC : Cx p s m args c cX11_thumb RX11 6 g) (hR : RtI tabM p l e (rk 3) s m args below meth c Q cX11_thumb A g post)  : ∀ (n : Nat) (x3 : Int32) (x4 : Int32) (w : Wd) (H : Heap) (locs : List Loc) (ls : Array Slot), pX11_thumb_42 post n x3 x4 w → St tabM A s.heap g w H locs → lv_has ls 6 [(0, .ref (g.2.2 300)), (3, .int x3), (4, .int x4)] → W p l e (rk 3) s m args below meth c H locs 0 0 Q (F0 m 42 ls []) := by
  have hx := hC.1
  have hb := hC.2.1
  intro n
  induction n with
  | zero =>
    intro x3 x4 w H locs ls hp hS hl
    exact False.elim hp
  | succ n ih =>
    intro x3 x4 w H locs ls hp hS hl
    unfold pX11_thumb_42 at hp
    refine lv_iload_n hx hb dX11_thumb_42 rfl (lv_at hl 1 rfl) ?_
    refine lv_if_le (tgt := 100) hx hb dX11_thumb_43 (by decide) (fun c_1 => ?_) (fun c_1 => ?_)
    · have hp := hp.1 c_1
      refine lv_iconst hx hb dX11_thumb_100 kI_m1 ?_
      exact hR _ _ _ _ _ _ dX11_thumb_101 hp hS
    · have hp := hp.2 c_1
      refine lv_aload_n hx hb dX11_thumb_46 rfl (lv_at hl 0 rfl) ?_
      refine G_300_40 hC hS m274 dX11_thumb_47 ?_
      refine lv_iconst hx hb dX11_thumb_50 kI_4 ?_
      refine lv_iload_n hx hb dX11_thumb_51 rfl (lv_at hl 1 rfl) ?_
      refine lv_imul hx hb dX11_thumb_52 ?_
      refine lv_iconst hx hb dX11_thumb_53 kI_1 ?_
      refine lv_iadd hx hb dX11_thumb_54 ?_
      refine La_341 hC hS hp.1 dX11_thumb_55 ?_
      have hp := hp.2
      refine lv_topi (fun x5_2 ex5_2 => ?_)
      have hp := hp x5_2 ex5_2
      refine lv_istore (lv' := [(5, .int x5_2), (0, .ref (g.2.2 300)), (3, .int x3), (4, .int x4)]) hx hb dX11_thumb_56 hl (by decide) rfl (fun ls hl => ?_)
      refine lv_aload_n hx hb dX11_thumb_58 rfl (lv_at hl 1 rfl) ?_
      refine q_cvI (As := []) (rest := []) hC hS hl.1 (rX11_width hp) cwX11_342 yvX11_width (rcv_300 hC hS) rfl rfl (Nat.le_of_ble_eq_true rfl) (rmk (by decide) (by decide)) dX11_thumb_59 (fun r_3 w_4 H locs hp hS => ?_)
      refine lv_iconst hx hb dX11_thumb_62 kI_1 ?_
      refine lv_isub hx hb dX11_thumb_63 ?_
      refine lv_iload hx hb dX11_thumb_64 (lv_at hl 3 rfl) ?_
      refine lv_isub hx hb dX11_thumb_66 ?_
      refine lv_topi (fun x4_5 ex4_5 => ?_)
      have hp := hp x4_5 ex4_5
      refine lv_istore (lv' := [(4, .int x4_5), (5, .int x5_2), (0, .ref (g.2.2 300)), (3, .int x3)]) hx hb dX11_thumb_67 hl (by decide) rfl (fun ls hl => ?_)
      refine lv_aload_n hx hb dX11_thumb_69 rfl (lv_at hl 2 rfl) ?_
      refine lv_iload hx hb dX11_thumb_70 (lv_at hl 1 rfl) ?_
      refine q_cvI (As := [.int x5_2]) (rest := []) hC hS hl.1 (rX11_rowOf hp) cwX11_392 yvX11_rowOf (rcv_300 hC hS) rfl rfl (Nat.le_of_ble_eq_true rfl) (rmk (by decide) (by decide)) dX11_thumb_72 (fun r_6 w_7 H locs hp hS => ?_)
      refine lv_iload hx hb dX11_thumb_75 (lv_at hl 0 rfl) ?_
      refine lv_ishr hx hb dX11_thumb_77 ?_
      refine lv_iconst hx hb dX11_thumb_78 kI_1 ?_
      refine lv_iand hx hb dX11_thumb_79 ?_
      refine lv_if_ne (tgt := 94) hx hb dX11_thumb_80 (by decide) (fun c_8 => ?_) (fun c_8 => ?_)
      · have hp := hp.1 c_8
        refine lv_iload hx hb dX11_thumb_94 (lv_at hl 1 rfl) ?_
        refine lv_istore_n (lv' := [(3, .int x5_2), (4, .int x4_5), (5, .int x5_2), (0, .ref (g.2.2 300))]) hx hb dX11_thumb_96 rfl hl (by decide) rfl (fun ls hl => ?_)
        refine lv_goto (tgt := 42) hx hb dX11_thumb_97 (by decide) ?_
        exact ih x5_2 x4_5 w_7 _ _ _ hp hS (lv_sub hl [3, 0, 1] rfl)
      · have hp := hp.2 c_8
        refine lv_aload_n hx hb dX11_thumb_83 rfl (lv_at hl 2 rfl) ?_
        refine G_300_40 hC hS m274 dX11_thumb_84 ?_
        refine lv_iconst hx hb dX11_thumb_87 kI_4 ?_
        refine lv_iload_n hx hb dX11_thumb_88 rfl (lv_at hl 3 rfl) ?_
        refine lv_imul hx hb dX11_thumb_89 ?_
        refine lv_iconst hx hb dX11_thumb_90 kI_2 ?_
        refine lv_iadd hx hb dX11_thumb_91 ?_
        refine La_341 hC hS hp.1 dX11_thumb_92 ?_
        have hp := hp.2
        exact hR _ _ _ _ _ _ dX11_thumb_93 hp hS
set_option maxHeartbeats 4000000 in
set_option maxRecDepth 100000 in
theorem rX11_thumb {l : Launch} {g : Gw} {w : Wd} {post : Int32 → Wd → Prop}   {x1 : Int32} {x2 : Int32} (hp : pX11_thumb post x1 x2 w) : MtI tabM l yX11_thumb cX11_thumb 6 (some .int) 3 g w [.ref (g.2.2 300), .int x1, .int x2] post := by
  refine q_entI tabM_nd (by decide) rfl (Nat.le_of_ble_eq_true rfl) ?_
  intro p e s m args below meth c A Q ls hC hR hS hl
  have hx := hC.1
  have hb := hC.2.1
  have hl : lv_has ls 6 [(0, .ref (g.2.2 300)), (1, .int x1), (2, .int x2)] := hl
  unfold pX11_thumb at hp
  refine lv_aload_n hx hb dX11_thumb_0 rfl (lv_at hl 0 rfl) ?_
  refine lv_iload_n hx hb dX11_thumb_1 rfl (lv_at hl 1 rfl) ?_
  refine q_cvI (As := [.int x1]) (rest := []) hC hS hl.1 (rX11_isSeal hp) cwX11_383 yvX11_isSeal (rcv_300 hC hS) rfl rfl (Nat.le_of_ble_eq_true rfl) (rmk (by decide) (by decide)) dX11_thumb_2 (fun r_1 w_2 H locs hp hS => ?_)
  refine lv_if_eq (tgt := 34) hx hb dX11_thumb_5 (by decide) (fun c_3 => ?_) (fun c_3 => ?_)
  · have hp := hp.1 c_3
    refine lv_bipush hx hb dX11_thumb_34 kB_m2 ?_
    exact hR _ _ _ _ _ _ dX11_thumb_36 hp hS
  · have hp := hp.2 c_3
    refine lv_iload_n hx hb dX11_thumb_8 rfl (lv_at hl 2 rfl) ?_
    refine lv_iconst hx hb dX11_thumb_9 kI_0 ?_
    refine lv_aload_n hx hb dX11_thumb_10 rfl (lv_at hl 0 rfl) ?_
    refine q_cvI (As := []) (rest := [.int (0 : Int32), .int x2]) hC hS hl.1 (rX11_width hp) cwX11_342 yvX11_width (rcv_300 hC hS) rfl rfl (Nat.le_of_ble_eq_true rfl) (rmk (by decide) (by decide)) dX11_thumb_11 (fun r_4 w_5 H locs hp hS => ?_)
    refine lv_iconst hx hb dX11_thumb_14 kI_1 ?_
    refine lv_isub hx hb dX11_thumb_15 ?_
    refine q_csI (As := [.int x2, .int (0 : Int32), .int (r_4 - (1 : Int32))]) (rest := []) hC hS hl.1 (rX11_isIn hp) cwX11_345 ysX11_isIn rfl rfl (Nat.le_of_ble_eq_true rfl) (rmk (by decide) (by decide)) dX11_thumb_16 (fun r_6 w_7 H locs hp hS => ?_)
    refine lv_if_eq (tgt := 34) hx hb dX11_thumb_19 (by decide) (fun c_8 => ?_) (fun c_8 => ?_)
    · have hp := hp.1 c_8
      refine lv_bipush hx hb dX11_thumb_34 kB_m2 ?_
      exact hR _ _ _ _ _ _ dX11_thumb_36 hp hS
    · have hp := hp.2 c_8
      refine lv_aload_n hx hb dX11_thumb_22 rfl (lv_at hl 0 rfl) ?_
      refine lv_iload_n hx hb dX11_thumb_23 rfl (lv_at hl 1 rfl) ?_
      refine q_cvI (As := [.int x1]) (rest := []) hC hS hl.1 (rX11_rowOf hp) cwX11_392 yvX11_rowOf (rcv_300 hC hS) rfl rfl (Nat.le_of_ble_eq_true rfl) (rmk (by decide) (by decide)) dX11_thumb_24 (fun r_9 w_10 H locs hp hS => ?_)
      refine lv_iload_n hx hb dX11_thumb_27 rfl (lv_at hl 2 rfl) ?_
      refine lv_ishr hx hb dX11_thumb_28 ?_
      refine lv_iconst hx hb dX11_thumb_29 kI_1 ?_
      refine lv_iand hx hb dX11_thumb_30 ?_
      refine lv_if_ne (tgt := 37) hx hb dX11_thumb_31 (by decide) (fun c_11 => ?_) (fun c_11 => ?_)
      · have hp := hp.1 c_11
        refine lv_iload_n hx hb dX11_thumb_37 rfl (lv_at hl 1 rfl) ?_
        refine lv_istore_n (lv' := [(3, .int x1), (0, .ref (g.2.2 300)), (1, .int x1), (2, .int x2)]) hx hb dX11_thumb_38 rfl hl (by decide) rfl (fun ls hl => ?_)
        refine lv_iload_n hx hb dX11_thumb_39 rfl (lv_at hl 3 rfl) ?_
        refine lv_istore (lv' := [(4, .int x2), (3, .int x1), (0, .ref (g.2.2 300)), (1, .int x1), (2, .int x2)]) hx hb dX11_thumb_40 hl (by decide) rfl (fun ls hl => ?_)
        obtain ⟨n9, hp⟩ := hp
        exact bX11_thumb_42 hC hR n9 x1 x2 w_10 _ _ _ hp hS (lv_sub hl [2, 1, 0] rfl)
      · have hp := hp.2 c_11
        refine lv_bipush hx hb dX11_thumb_34 kB_m2 ?_
        exact hR _ _ _ _ _ _ dX11_thumb_36 hp hS
def pX11_layShares_169 (k142 : Int32 → Int32 → Int32 → Int32 → Wd → Prop) (post : Wd → Prop) (x2 : Int32) (x4 : Int32) (x5 : Int32) (x6 : Int32) (w : Wd) : Prop := ∀ x6_1, x6_1 = x6 + (1 : Int32) → k142 x2 x4 x5 x6_1 w
def pX11_layShares_142 (k131 : Int32 → Int32 → Wd → Prop) (post : Wd → Prop) : Nat → Int32 → Int32 → Int32 → Int32 → Wd → Prop
  | 0, _, _, _, _, _ => False
  | n + 1, x2, x4, x5, x6, w => (x2 ≤ x6 → (vp_in x5 4 ∧ vp_in x5 4 ∧ ∀ w_2, w_2 = sA w 346 x5.toNatClampNeg ((w.2.1 346 x5.toNatClampNeg) + (1 : Int32)) → vp_in x5 4 ∧ ∀ w_3, w_3 = sA w_2 347 x5.toNatClampNeg (-1 : Int32) → ∀ x4_4, x4_4 = x4 + (-1 : Int32) → k131 x2 x4_4 w_3)) ∧ (¬ x2 ≤ x6 → (vp_in x6 4 ∧ vp_in x5 4 ∧ ((w.2.1 347 x6.toNatClampNeg) ≤ (w.2.1 347 x5.toNatClampNeg) → (pX11_layShares_169 (pX11_layShares_142 k131 post n) post x2 x4 x5 x6 w)) ∧ (¬ (w.2.1 347 x6.toNatClampNeg) ≤ (w.2.1 347 x5.toNatClampNeg) → (pX11_layShares_169 (pX11_layShares_142 k131 post n) post x2 x4 x6 x6 w))))
def pX11_layShares_131 (post : Wd → Prop) : Nat → Int32 → Int32 → Wd → Prop
  | 0, _, _, _ => False
  | n + 1, x2, x4, w => (x4 ≤ 0 → (post w)) ∧ (¬ x4 ≤ 0 → (∃ n9, pX11_layShares_142 (pX11_layShares_131 post n) post n9 x2 x4 (0 : Int32) (1 : Int32) w))
def pX11_layShares_107 (k12 : Int32 → Int32 → Int32 → Int32 → Int32 → Wd → Prop) (post : Wd → Prop) (x1 : Int32) (x2 : Int32) (x3 : Int32) (x4 : Int32) (x5 : Int32) (t1 : Int32) (t2 : Int32) (w : Wd) : Prop := vp_in t1 4 ∧ ∀ w_1, w_1 = sA w 347 t1.toNatClampNeg t2 → vp_in x5 4 ∧ ∀ x4_2, x4_2 = (x4 - (w_1.2.1 346 x5.toNatClampNeg)) → ∀ x5_3, x5_3 = x5 + (1 : Int32) → k12 x1 x2 x3 x4_2 x5_3 w_1
def pX11_layShares_85 (k12 : Int32 → Int32 → Int32 → Int32 → Int32 → Wd → Prop) (post : Wd → Prop) (x1 : Int32) (x2 : Int32) (x3 : Int32) (x4 : Int32) (x5 : Int32) (x6 : Int32) (t1 : Int32) (t2 : Int32) (w : Wd) : Prop := vp_in t1 4 ∧ ∀ w_1, w_1 = sA w 346 t1.toNatClampNeg t2 → (¬ x3 = 0 → (¬ x3 = 0 ∧ pX11_layShares_107 k12 post x1 x2 x3 x4 x5 x5 (((100 : Int32) * x6) - ((100 : Int32) * x6) / x3 * x3) w_1)) ∧ (x3 = 0 → (pX11_layShares_107 k12 post x1 x2 x3 x4 x5 x5 (0 : Int32) w_1))
def pX11_layShares_58 (k24 : Int32 → Int32 → Int32 → Int32 → Int32 → Int32 → Int32 → Wd → Prop) (post : Wd → Prop) (x1 : Int32) (x2 : Int32) (x3 : Int32) (x4 : Int32) (x5 : Int32) (x6 : Int32) (x7 : Int32) (w : Wd) : Prop := ∀ x7_1, x7_1 = x7 + (1 : Int32) → k24 x1 x2 x3 x4 x5 x6 x7_1 w
def pX11_layShares_24 (k12 : Int32 → Int32 → Int32 → Int32 → Int32 → Wd → Prop) (post : Wd → Prop) : Nat → Int32 → Int32 → Int32 → Int32 → Int32 → Int32 → Int32 → Wd → Prop
  | 0, _, _, _, _, _, _, _, _ => False
  | n + 1, x1, x2, x3, x4, x5, x6, x7, w => pX11_width (fun r_1 w_2 => (r_1 ≤ x7 → ((¬ x3 = 0 → (¬ x3 = 0 ∧ pX11_layShares_85 k12 post x1 x2 x3 x4 x5 x6 x5 (((100 : Int32) * x6) / x3) w_2)) ∧ (x3 = 0 → (pX11_layShares_85 k12 post x1 x2 x3 x4 x5 x6 x5 (0 : Int32) w_2)))) ∧ (¬ r_1 ≤ x7 → (pX11_width (fun r_5 w_6 => ¬ r_5 = 0 ∧ (¬ ((x7 * x2) / r_5) = x5 → (pX11_layShares_58 (pX11_layShares_24 k12 post n) post x1 x2 x3 x4 x5 x6 x7 w_6)) ∧ (((x7 * x2) / r_5) = x5 → (∀ x6_8, x6_8 = (x6 + ((x1 >>> (x7 &&& 31)) &&& (1 : Int32))) → pX11_layShares_58 (pX11_layShares_24 k12 post n) post x1 x2 x3 x4 x5 x6_8 x7 w_6))) w_2))) w
def pX11_layShares_12 (post : Wd → Prop) : Nat → Int32 → Int32 → Int32 → Int32 → Int32 → Wd → Prop
  | 0, _, _, _, _, _, _ => False
  | n + 1, x1, x2, x3, x4, x5, w => (x2 ≤ x5 → ((¬ x3 = 0 → (∃ n9, pX11_layShares_131 post n9 x2 x4 w)) ∧ (x3 = 0 → (post w)))) ∧ (¬ x2 ≤ x5 → (∃ n9, pX11_layShares_24 (pX11_layShares_12 post n) post n9 x1 x2 x3 x4 x5 (0 : Int32) (0 : Int32) w))
def pX11_layShares (post : Wd → Prop) (x1 : Int32) (x2 : Int32) (w : Wd) : Prop := pX11_bitsOf (fun r_1 w_2 => ∃ n9, pX11_layShares_12 post n9 x1 x2 r_1 (100 : Int32) (0 : Int32) w_2) x1 w
set_option maxHeartbeats 4000000 in
set_option maxRecDepth 100000 in
theorem bX11_layShares_169 {p : Program} {l : Launch} {e : Env} {s : State} {m : MethodId} {args : Array Value} {below : List Frame} {meth : Method} {c : Code} {Q : State → Prop} {A : Nat → Prop} {g : Gw} {post : Wd → Prop}  (hC : Cx p s m args c cX11_layShares RX11 8 g) (hR : RtV tabM p l e (rk 2) s m args below meth c Q cX11_layShares A g post)  {k142 : Int32 → Int32 → Int32 → Int32 → Wd → Prop} (hk142 : ∀ (x2 : Int32) (x4 : Int32) (x5 : Int32) (x6 : Int32) (w : Wd) (H : Heap) (locs : List Loc) (ls : Array Slot), k142 x2 x4 x5 x6 w → St tabM A s.heap g w H locs → lv_has ls 8 [(0, .ref (g.2.2 300)), (2, .int x2), (4, .int x4), (5, .int x5), (6, .int x6)] → W p l e (rk 2) s m args below meth c H locs 0 0 Q (F0 m 142 ls [])) : ∀ (x2 : Int32) (x4 : Int32) (x5 : Int32) (x6 : Int32) (w : Wd) (H : Heap) (locs : List Loc) (ls : Array Slot), pX11_layShares_169 k142 post x2 x4 x5 x6 w → St tabM A s.heap g w H locs → lv_has ls 8 [(0, .ref (g.2.2 300)), (2, .int x2), (4, .int x4), (5, .int x5), (6, .int x6)] → W p l e (rk 2) s m args below meth c H locs 0 0 Q (F0 m 169 ls []) := by
  have hx := hC.1
  have hb := hC.2.1
  intro x2 x4 x5 x6 w H locs ls hp hS hl
  unfold pX11_layShares_169 at hp
  obtain ⟨x6_1, ex6_1⟩ : ∃ y : Int32, y = x6 + (1 : Int32) := ⟨_, rfl⟩
  have hp := hp x6_1 ex6_1
  refine lv_iinc (v := x6_1) (lv' := [(6, .int x6_1), (0, .ref (g.2.2 300)), (2, .int x2), (4, .int x4), (5, .int x5)]) hx hb dX11_layShares_169 hl (k := 4) rfl (by rw [ex6_1]; rfl) (by decide) rfl (fun ls hl => ?_)
  refine lv_goto (tgt := 142) hx hb dX11_layShares_172 (by decide) ?_
  exact hk142 x2 x4 x5 x6_1 w _ _ _ hp hS (lv_sub hl [1, 2, 3, 4, 0] rfl)
set_option maxHeartbeats 4000000 in
set_option maxRecDepth 100000 in
theorem bX11_layShares_142 {p : Program} {l : Launch} {e : Env} {s : State} {m : MethodId} {args : Array Value} {below : List Frame} {meth : Method} {c : Code} {Q : State → Prop} {A : Nat → Prop} {g : Gw} {post : Wd → Prop}  (hC : Cx p s m args c cX11_layShares RX11 8 g) (hR : RtV tabM p l e (rk 2) s m args below meth c Q cX11_layShares A g post)  {k131 : Int32 → Int32 → Wd → Prop} (hk131 : ∀ (x2 : Int32) (x4 : Int32) (w : Wd) (H : Heap) (locs : List Loc) (ls : Array Slot), k131 x2 x4 w → St tabM A s.heap g w H locs → lv_has ls 8 [(0, .ref (g.2.2 300)), (2, .int x2), (4, .int x4)] → W p l e (rk 2) s m args below meth c H locs 0 0 Q (F0 m 131 ls [])) : ∀ (n : Nat) (x2 : Int32) (x4 : Int32) (x5 : Int32) (x6 : Int32) (w : Wd) (H : Heap) (locs : List Loc) (ls : Array Slot), pX11_layShares_142 k131 post n x2 x4 x5 x6 w → St tabM A s.heap g w H locs → lv_has ls 8 [(0, .ref (g.2.2 300)), (2, .int x2), (4, .int x4), (5, .int x5), (6, .int x6)] → W p l e (rk 2) s m args below meth c H locs 0 0 Q (F0 m 142 ls []) := by
  have hx := hC.1
  have hb := hC.2.1
  intro n
  induction n with
  | zero =>
    intro x2 x4 x5 x6 w H locs ls hp hS hl
    exact False.elim hp
  | succ n ih =>
    intro x2 x4 x5 x6 w H locs ls hp hS hl
    unfold pX11_layShares_142 at hp
    refine lv_iload hx hb dX11_layShares_142 (lv_at hl 4 rfl) ?_
    refine lv_iload_n hx hb dX11_layShares_144 rfl (lv_at hl 1 rfl) ?_
    refine lv_icmp_ge (tgt := 175) hx hb dX11_layShares_145 (by decide) (fun c_1 => ?_) (fun c_1 => ?_)
    · have hp := hp.1 c_1
      refine lv_aload_n hx hb dX11_layShares_175 rfl (lv_at hl 0 rfl) ?_
      refine G_300_45 hC hS m277 dX11_layShares_176 ?_
      refine lv_iload hx hb dX11_layShares_179 (lv_at hl 3 rfl) ?_
      refine lv_dup2_11 hx hb dX11_layShares_181 rfl rfl ?_
      refine La_346 hC hS hp.1 dX11_layShares_182 ?_
      have hp := hp.2
      refine lv_iconst hx hb dX11_layShares_183 kI_1 ?_
      refine lv_iadd hx hb dX11_layShares_184 ?_
      refine Sa_346 hC hS hp.1 dX11_layShares_185 (fun w_2 H locs ew_2 hS => ?_)
      have hp := hp.2
      have hp := hp w_2 ew_2
      refine lv_aload_n hx hb dX11_layShares_186 rfl (lv_at hl 0 rfl) ?_
      refine G_300_46 hC hS m278 dX11_layShares_187 ?_
      refine lv_iload hx hb dX11_layShares_190 (lv_at hl 3 rfl) ?_
      refine lv_iconst hx hb dX11_layShares_192 kI_m1 ?_
      refine Sa_347 hC hS hp.1 dX11_layShares_193 (fun w_3 H locs ew_3 hS => ?_)
      have hp := hp.2
      have hp := hp w_3 ew_3
      obtain ⟨x4_4, ex4_4⟩ : ∃ y : Int32, y = x4 + (-1 : Int32) := ⟨_, rfl⟩
      have hp := hp x4_4 ex4_4
      refine lv_iinc (v := x4_4) (lv' := [(4, .int x4_4), (0, .ref (g.2.2 300)), (2, .int x2), (5, .int x5), (6, .int x6)]) hx hb dX11_layShares_194 hl (k := 2) rfl (by rw [ex4_4]; rfl) (by decide) rfl (fun ls hl => ?_)
      refine lv_goto (tgt := 131) hx hb dX11_layShares_197 (by decide) ?_
      exact hk131 x2 x4_4 w_3 _ _ _ hp hS (lv_sub hl [1, 2, 0] rfl)
    · have hp := hp.2 c_1
      refine lv_aload_n hx hb dX11_layShares_148 rfl (lv_at hl 0 rfl) ?_
      refine G_300_46 hC hS m278 dX11_layShares_149 ?_
      refine lv_iload hx hb dX11_layShares_152 (lv_at hl 4 rfl) ?_
      refine La_347 hC hS hp.1 dX11_layShares_154 ?_
      have hp := hp.2
      refine lv_aload_n hx hb dX11_layShares_155 rfl (lv_at hl 0 rfl) ?_
      refine G_300_46 hC hS m278 dX11_layShares_156 ?_
      refine lv_iload hx hb dX11_layShares_159 (lv_at hl 3 rfl) ?_
      refine La_347 hC hS hp.1 dX11_layShares_161 ?_
      have hp := hp.2
      refine lv_icmp_le (tgt := 169) hx hb dX11_layShares_162 (by decide) (fun c_5 => ?_) (fun c_5 => ?_)
      · have hp := hp.1 c_5
        exact bX11_layShares_169 hC hR ih x2 x4 x5 x6 w _ _ _ hp hS (lv_sub hl [0, 1, 2, 3, 4] rfl)
      · have hp := hp.2 c_5
        refine lv_iload hx hb dX11_layShares_165 (lv_at hl 4 rfl) ?_
        refine lv_istore (lv' := [(5, .int x6), (0, .ref (g.2.2 300)), (2, .int x2), (4, .int x4), (6, .int x6)]) hx hb dX11_layShares_167 hl (by decide) rfl (fun ls hl => ?_)
        exact bX11_layShares_169 hC hR ih x2 x4 x6 x6 w _ _ _ hp hS (lv_sub hl [1, 2, 3, 0, 4] rfl)
set_option maxHeartbeats 4000000 in
set_option maxRecDepth 100000 in
theorem bX11_layShares_131 {p : Program} {l : Launch} {e : Env} {s : State} {m : MethodId} {args : Array Value} {below : List Frame} {meth : Method} {c : Code} {Q : State → Prop} {A : Nat → Prop} {g : Gw} {post : Wd → Prop}  (hC : Cx p s m args c cX11_layShares RX11 8 g) (hR : RtV tabM p l e (rk 2) s m args below meth c Q cX11_layShares A g post)  : ∀ (n : Nat) (x2 : Int32) (x4 : Int32) (w : Wd) (H : Heap) (locs : List Loc) (ls : Array Slot), pX11_layShares_131 post n x2 x4 w → St tabM A s.heap g w H locs → lv_has ls 8 [(0, .ref (g.2.2 300)), (2, .int x2), (4, .int x4)] → W p l e (rk 2) s m args below meth c H locs 0 0 Q (F0 m 131 ls []) := by
  have hx := hC.1
  have hb := hC.2.1
  intro n
  induction n with
  | zero =>
    intro x2 x4 w H locs ls hp hS hl
    exact False.elim hp
  | succ n ih =>
    intro x2 x4 w H locs ls hp hS hl
    unfold pX11_layShares_131 at hp
    refine lv_iload hx hb dX11_layShares_131 (lv_at hl 2 rfl) ?_
    refine lv_if_le (tgt := 200) hx hb dX11_layShares_133 (by decide) (fun c_1 => ?_) (fun c_1 => ?_)
    · have hp := hp.1 c_1
      exact hR _ _ _ _ _ dX11_layShares_200 hp hS
    · have hp := hp.2 c_1
      refine lv_iconst hx hb dX11_layShares_136 kI_0 ?_
      refine lv_istore (lv' := [(5, .int (0 : Int32)), (0, .ref (g.2.2 300)), (2, .int x2), (4, .int x4)]) hx hb dX11_layShares_137 hl (by decide) rfl (fun ls hl => ?_)
      refine lv_iconst hx hb dX11_layShares_139 kI_1 ?_
      refine lv_istore (lv' := [(6, .int (1 : Int32)), (5, .int (0 : Int32)), (0, .ref (g.2.2 300)), (2, .int x2), (4, .int x4)]) hx hb dX11_layShares_140 hl (by decide) rfl (fun ls hl => ?_)
      obtain ⟨n9, hp⟩ := hp
      exact bX11_layShares_142 hC hR ih n9 x2 x4 (0 : Int32) (1 : Int32) w _ _ _ hp hS (lv_sub hl [2, 3, 4, 1, 0] rfl)
set_option maxHeartbeats 4000000 in
set_option maxRecDepth 100000 in
theorem bX11_layShares_107 {p : Program} {l : Launch} {e : Env} {s : State} {m : MethodId} {args : Array Value} {below : List Frame} {meth : Method} {c : Code} {Q : State → Prop} {A : Nat → Prop} {g : Gw} {post : Wd → Prop}  (hC : Cx p s m args c cX11_layShares RX11 8 g) (hR : RtV tabM p l e (rk 2) s m args below meth c Q cX11_layShares A g post)  {k12 : Int32 → Int32 → Int32 → Int32 → Int32 → Wd → Prop} (hk12 : ∀ (x1 : Int32) (x2 : Int32) (x3 : Int32) (x4 : Int32) (x5 : Int32) (w : Wd) (H : Heap) (locs : List Loc) (ls : Array Slot), k12 x1 x2 x3 x4 x5 w → St tabM A s.heap g w H locs → lv_has ls 8 [(0, .ref (g.2.2 300)), (1, .int x1), (2, .int x2), (3, .int x3), (4, .int x4), (5, .int x5)] → W p l e (rk 2) s m args below meth c H locs 0 0 Q (F0 m 12 ls [])) : ∀ (x1 : Int32) (x2 : Int32) (x3 : Int32) (x4 : Int32) (x5 : Int32) (t1 : Int32) (t2 : Int32) (w : Wd) (H : Heap) (locs : List Loc) (ls : Array Slot), pX11_layShares_107 k12 post x1 x2 x3 x4 x5 t1 t2 w → St tabM A s.heap g w H locs → lv_has ls 8 [(0, .ref (g.2.2 300)), (1, .int x1), (2, .int x2), (3, .int x3), (4, .int x4), (5, .int x5)] → W p l e (rk 2) s m args below meth c H locs 0 0 Q (F0 m 107 ls [.int t2, .int t1, .ref (g.2.2 347)]) := by
  have hx := hC.1
  have hb := hC.2.1
  intro x1 x2 x3 x4 x5 t1 t2 w H locs ls hp hS hl
  unfold pX11_layShares_107 at hp
  refine Sa_347 hC hS hp.1 dX11_layShares_107 (fun w_1 H locs ew_1 hS => ?_)
  have hp := hp.2
  have hp := hp w_1 ew_1
  refine lv_iload hx hb dX11_layShares_108 (lv_at hl 4 rfl) ?_
  refine lv_aload_n hx hb dX11_layShares_110 rfl (lv_at hl 0 rfl) ?_
  refine G_300_45 hC hS m277 dX11_layShares_111 ?_
  refine lv_iload hx hb dX11_layShares_114 (lv_at hl 5 rfl) ?_
  refine La_346 hC hS hp.1 dX11_layShares_116 ?_
  have hp := hp.2
  refine lv_isub hx hb dX11_layShares_117 ?_
  refine lv_topi (fun x4_2 ex4_2 => ?_)
  have hp := hp x4_2 ex4_2
  refine lv_istore (lv' := [(4, .int x4_2), (0, .ref (g.2.2 300)), (1, .int x1), (2, .int x2), (3, .int x3), (5, .int x5)]) hx hb dX11_layShares_118 hl (by decide) rfl (fun ls hl => ?_)
  obtain ⟨x5_3, ex5_3⟩ : ∃ y : Int32, y = x5 + (1 : Int32) := ⟨_, rfl⟩
  have hp := hp x5_3 ex5_3
  refine lv_iinc (v := x5_3) (lv' := [(5, .int x5_3), (4, .int x4_2), (0, .ref (g.2.2 300)), (1, .int x1), (2, .int x2), (3, .int x3)]) hx hb dX11_layShares_120 hl (k := 5) rfl (by rw [ex5_3]; rfl) (by decide) rfl (fun ls hl => ?_)
  refine lv_goto (tgt := 12) hx hb dX11_layShares_123 (by decide) ?_
  exact hk12 x1 x2 x3 x4_2 x5_3 w_1 _ _ _ hp hS (lv_sub hl [2, 3, 4, 5, 1, 0] rfl)
set_option maxHeartbeats 4000000 in
set_option maxRecDepth 100000 in
theorem bX11_layShares_85 {p : Program} {l : Launch} {e : Env} {s : State} {m : MethodId} {args : Array Value} {below : List Frame} {meth : Method} {c : Code} {Q : State → Prop} {A : Nat → Prop} {g : Gw} {post : Wd → Prop}  (hC : Cx p s m args c cX11_layShares RX11 8 g) (hR : RtV tabM p l e (rk 2) s m args below meth c Q cX11_layShares A g post)  {k12 : Int32 → Int32 → Int32 → Int32 → Int32 → Wd → Prop} (hk12 : ∀ (x1 : Int32) (x2 : Int32) (x3 : Int32) (x4 : Int32) (x5 : Int32) (w : Wd) (H : Heap) (locs : List Loc) (ls : Array Slot), k12 x1 x2 x3 x4 x5 w → St tabM A s.heap g w H locs → lv_has ls 8 [(0, .ref (g.2.2 300)), (1, .int x1), (2, .int x2), (3, .int x3), (4, .int x4), (5, .int x5)] → W p l e (rk 2) s m args below meth c H locs 0 0 Q (F0 m 12 ls [])) : ∀ (x1 : Int32) (x2 : Int32) (x3 : Int32) (x4 : Int32) (x5 : Int32) (x6 : Int32) (t1 : Int32) (t2 : Int32) (w : Wd) (H : Heap) (locs : List Loc) (ls : Array Slot), pX11_layShares_85 k12 post x1 x2 x3 x4 x5 x6 t1 t2 w → St tabM A s.heap g w H locs → lv_has ls 8 [(0, .ref (g.2.2 300)), (1, .int x1), (2, .int x2), (3, .int x3), (4, .int x4), (5, .int x5), (6, .int x6)] → W p l e (rk 2) s m args below meth c H locs 0 0 Q (F0 m 85 ls [.int t2, .int t1, .ref (g.2.2 346)]) := by
  have hx := hC.1
  have hb := hC.2.1
  intro x1 x2 x3 x4 x5 x6 t1 t2 w H locs ls hp hS hl
  unfold pX11_layShares_85 at hp
  refine Sa_346 hC hS hp.1 dX11_layShares_85 (fun w_1 H locs ew_1 hS => ?_)
  have hp := hp.2
  have hp := hp w_1 ew_1
  refine lv_aload_n hx hb dX11_layShares_86 rfl (lv_at hl 0 rfl) ?_
  refine G_300_46 hC hS m278 dX11_layShares_87 ?_
  refine lv_iload hx hb dX11_layShares_90 (lv_at hl 5 rfl) ?_
  refine lv_iload_n hx hb dX11_layShares_92 rfl (lv_at hl 3 rfl) ?_
  refine lv_if_ne (tgt := 100) hx hb dX11_layShares_93 (by decide) (fun c_2 => ?_) (fun c_2 => ?_)
  · have hp := hp.1 c_2
    refine lv_bipush hx hb dX11_layShares_100 kB_100 ?_
    refine lv_iload hx hb dX11_layShares_102 (lv_at hl 6 rfl) ?_
    refine lv_imul hx hb dX11_layShares_104 ?_
    refine lv_iload_n hx hb dX11_layShares_105 rfl (lv_at hl 3 rfl) ?_
    refine lv_irem hx hb dX11_layShares_106 hp.1 ?_
    have hp := hp.2
    exact bX11_layShares_107 hC hR hk12 x1 x2 x3 x4 x5 x5 (((100 : Int32) * x6) - ((100 : Int32) * x6) / x3 * x3) w_1 _ _ _ hp hS (lv_sub hl [0, 1, 2, 3, 4, 5] rfl)
  · have hp := hp.2 c_2
    refine lv_iconst hx hb dX11_layShares_96 kI_0 ?_
    refine lv_goto (tgt := 107) hx hb dX11_layShares_97 (by decide) ?_
    exact bX11_layShares_107 hC hR hk12 x1 x2 x3 x4 x5 x5 (0 : Int32) w_1 _ _ _ hp hS (lv_sub hl [0, 1, 2, 3, 4, 5] rfl)
set_option maxHeartbeats 4000000 in
set_option maxRecDepth 100000 in
theorem bX11_layShares_58 {p : Program} {l : Launch} {e : Env} {s : State} {m : MethodId} {args : Array Value} {below : List Frame} {meth : Method} {c : Code} {Q : State → Prop} {A : Nat → Prop} {g : Gw} {post : Wd → Prop}  (hC : Cx p s m args c cX11_layShares RX11 8 g) (hR : RtV tabM p l e (rk 2) s m args below meth c Q cX11_layShares A g post)  {k24 : Int32 → Int32 → Int32 → Int32 → Int32 → Int32 → Int32 → Wd → Prop} (hk24 : ∀ (x1 : Int32) (x2 : Int32) (x3 : Int32) (x4 : Int32) (x5 : Int32) (x6 : Int32) (x7 : Int32) (w : Wd) (H : Heap) (locs : List Loc) (ls : Array Slot), k24 x1 x2 x3 x4 x5 x6 x7 w → St tabM A s.heap g w H locs → lv_has ls 8 [(0, .ref (g.2.2 300)), (1, .int x1), (2, .int x2), (3, .int x3), (4, .int x4), (5, .int x5), (6, .int x6), (7, .int x7)] → W p l e (rk 2) s m args below meth c H locs 0 0 Q (F0 m 24 ls [])) : ∀ (x1 : Int32) (x2 : Int32) (x3 : Int32) (x4 : Int32) (x5 : Int32) (x6 : Int32) (x7 : Int32) (w : Wd) (H : Heap) (locs : List Loc) (ls : Array Slot), pX11_layShares_58 k24 post x1 x2 x3 x4 x5 x6 x7 w → St tabM A s.heap g w H locs → lv_has ls 8 [(0, .ref (g.2.2 300)), (1, .int x1), (2, .int x2), (3, .int x3), (4, .int x4), (5, .int x5), (6, .int x6), (7, .int x7)] → W p l e (rk 2) s m args below meth c H locs 0 0 Q (F0 m 58 ls []) := by
  have hx := hC.1
  have hb := hC.2.1
  intro x1 x2 x3 x4 x5 x6 x7 w H locs ls hp hS hl
  unfold pX11_layShares_58 at hp
  obtain ⟨x7_1, ex7_1⟩ : ∃ y : Int32, y = x7 + (1 : Int32) := ⟨_, rfl⟩
  have hp := hp x7_1 ex7_1
  refine lv_iinc (v := x7_1) (lv' := [(7, .int x7_1), (0, .ref (g.2.2 300)), (1, .int x1), (2, .int x2), (3, .int x3), (4, .int x4), (5, .int x5), (6, .int x6)]) hx hb dX11_layShares_58 hl (k := 7) rfl (by rw [ex7_1]; rfl) (by decide) rfl (fun ls hl => ?_)
  refine lv_goto (tgt := 24) hx hb dX11_layShares_61 (by decide) ?_
  exact hk24 x1 x2 x3 x4 x5 x6 x7_1 w _ _ _ hp hS (lv_sub hl [1, 2, 3, 4, 5, 6, 7, 0] rfl)
set_option maxHeartbeats 4000000 in
set_option maxRecDepth 100000 in
theorem bX11_layShares_24 {p : Program} {l : Launch} {e : Env} {s : State} {m : MethodId} {args : Array Value} {below : List Frame} {meth : Method} {c : Code} {Q : State → Prop} {A : Nat → Prop} {g : Gw} {post : Wd → Prop}  (hC : Cx p s m args c cX11_layShares RX11 8 g) (hR : RtV tabM p l e (rk 2) s m args below meth c Q cX11_layShares A g post)  {k12 : Int32 → Int32 → Int32 → Int32 → Int32 → Wd → Prop} (hk12 : ∀ (x1 : Int32) (x2 : Int32) (x3 : Int32) (x4 : Int32) (x5 : Int32) (w : Wd) (H : Heap) (locs : List Loc) (ls : Array Slot), k12 x1 x2 x3 x4 x5 w → St tabM A s.heap g w H locs → lv_has ls 8 [(0, .ref (g.2.2 300)), (1, .int x1), (2, .int x2), (3, .int x3), (4, .int x4), (5, .int x5)] → W p l e (rk 2) s m args below meth c H locs 0 0 Q (F0 m 12 ls [])) : ∀ (n : Nat) (x1 : Int32) (x2 : Int32) (x3 : Int32) (x4 : Int32) (x5 : Int32) (x6 : Int32) (x7 : Int32) (w : Wd) (H : Heap) (locs : List Loc) (ls : Array Slot), pX11_layShares_24 k12 post n x1 x2 x3 x4 x5 x6 x7 w → St tabM A s.heap g w H locs → lv_has ls 8 [(0, .ref (g.2.2 300)), (1, .int x1), (2, .int x2), (3, .int x3), (4, .int x4), (5, .int x5), (6, .int x6), (7, .int x7)] → W p l e (rk 2) s m args below meth c H locs 0 0 Q (F0 m 24 ls []) := by
  have hx := hC.1
  have hb := hC.2.1
  intro n
  induction n with
  | zero =>
    intro x1 x2 x3 x4 x5 x6 x7 w H locs ls hp hS hl
    exact False.elim hp
  | succ n ih =>
    intro x1 x2 x3 x4 x5 x6 x7 w H locs ls hp hS hl
    unfold pX11_layShares_24 at hp
    refine lv_iload hx hb dX11_layShares_24 (lv_at hl 7 rfl) ?_
    refine lv_aload_n hx hb dX11_layShares_26 rfl (lv_at hl 0 rfl) ?_
    refine q_cvI (As := []) (rest := [.int x7]) hC hS hl.1 (rX11_width hp) cwX11_342 yvX11_width (rcv_300 hC hS) rfl rfl (Nat.le_of_ble_eq_true rfl) (rmk (by decide) (by decide)) dX11_layShares_27 (fun r_1 w_2 H locs hp hS => ?_)
    refine lv_icmp_ge (tgt := 64) hx hb dX11_layShares_30 (by decide) (fun c_3 => ?_) (fun c_3 => ?_)
    · have hp := hp.1 c_3
      refine lv_aload_n hx hb dX11_layShares_64 rfl (lv_at hl 0 rfl) ?_
      refine G_300_45 hC hS m277 dX11_layShares_65 ?_
      refine lv_iload hx hb dX11_layShares_68 (lv_at hl 5 rfl) ?_
      refine lv_iload_n hx hb dX11_layShares_70 rfl (lv_at hl 3 rfl) ?_
      refine lv_if_ne (tgt := 78) hx hb dX11_layShares_71 (by decide) (fun c_4 => ?_) (fun c_4 => ?_)
      · have hp := hp.1 c_4
        refine lv_bipush hx hb dX11_layShares_78 kB_100 ?_
        refine lv_iload hx hb dX11_layShares_80 (lv_at hl 6 rfl) ?_
        refine lv_imul hx hb dX11_layShares_82 ?_
        refine lv_iload_n hx hb dX11_layShares_83 rfl (lv_at hl 3 rfl) ?_
        refine lv_idiv hx hb dX11_layShares_84 hp.1 ?_
        have hp := hp.2
        exact bX11_layShares_85 hC hR hk12 x1 x2 x3 x4 x5 x6 x5 (((100 : Int32) * x6) / x3) w_2 _ _ _ hp hS (lv_sub hl [0, 1, 2, 3, 4, 5, 6] rfl)
      · have hp := hp.2 c_4
        refine lv_iconst hx hb dX11_layShares_74 kI_0 ?_
        refine lv_goto (tgt := 85) hx hb dX11_layShares_75 (by decide) ?_
        exact bX11_layShares_85 hC hR hk12 x1 x2 x3 x4 x5 x6 x5 (0 : Int32) w_2 _ _ _ hp hS (lv_sub hl [0, 1, 2, 3, 4, 5, 6] rfl)
    · have hp := hp.2 c_3
      refine lv_iload hx hb dX11_layShares_33 (lv_at hl 7 rfl) ?_
      refine lv_iload_n hx hb dX11_layShares_35 rfl (lv_at hl 2 rfl) ?_
      refine lv_imul hx hb dX11_layShares_36 ?_
      refine lv_aload_n hx hb dX11_layShares_37 rfl (lv_at hl 0 rfl) ?_
      refine q_cvI (As := []) (rest := [.int (x7 * x2)]) hC hS hl.1 (rX11_width hp) cwX11_342 yvX11_width (rcv_300 hC hS) rfl rfl (Nat.le_of_ble_eq_true rfl) (rmk (by decide) (by decide)) dX11_layShares_38 (fun r_5 w_6 H locs hp hS => ?_)
      refine lv_idiv hx hb dX11_layShares_41 hp.1 ?_
      have hp := hp.2
      refine lv_iload hx hb dX11_layShares_42 (lv_at hl 5 rfl) ?_
      refine lv_icmp_ne (tgt := 58) hx hb dX11_layShares_44 (by decide) (fun c_7 => ?_) (fun c_7 => ?_)
      · have hp := hp.1 c_7
        exact bX11_layShares_58 hC hR ih x1 x2 x3 x4 x5 x6 x7 w_6 _ _ _ hp hS (lv_sub hl [0, 1, 2, 3, 4, 5, 6, 7] rfl)
      · have hp := hp.2 c_7
        refine lv_iload hx hb dX11_layShares_47 (lv_at hl 6 rfl) ?_
        refine lv_iload_n hx hb dX11_layShares_49 rfl (lv_at hl 1 rfl) ?_
        refine lv_iload hx hb dX11_layShares_50 (lv_at hl 7 rfl) ?_
        refine lv_ishr hx hb dX11_layShares_52 ?_
        refine lv_iconst hx hb dX11_layShares_53 kI_1 ?_
        refine lv_iand hx hb dX11_layShares_54 ?_
        refine lv_iadd hx hb dX11_layShares_55 ?_
        refine lv_topi (fun x6_8 ex6_8 => ?_)
        have hp := hp x6_8 ex6_8
        refine lv_istore (lv' := [(6, .int x6_8), (0, .ref (g.2.2 300)), (1, .int x1), (2, .int x2), (3, .int x3), (4, .int x4), (5, .int x5), (7, .int x7)]) hx hb dX11_layShares_56 hl (by decide) rfl (fun ls hl => ?_)
        exact bX11_layShares_58 hC hR ih x1 x2 x3 x4 x5 x6_8 x7 w_6 _ _ _ hp hS (lv_sub hl [1, 2, 3, 4, 5, 6, 0, 7] rfl)
set_option maxHeartbeats 4000000 in
set_option maxRecDepth 100000 in
theorem bX11_layShares_12 {p : Program} {l : Launch} {e : Env} {s : State} {m : MethodId} {args : Array Value} {below : List Frame} {meth : Method} {c : Code} {Q : State → Prop} {A : Nat → Prop} {g : Gw} {post : Wd → Prop}  (hC : Cx p s m args c cX11_layShares RX11 8 g) (hR : RtV tabM p l e (rk 2) s m args below meth c Q cX11_layShares A g post)  : ∀ (n : Nat) (x1 : Int32) (x2 : Int32) (x3 : Int32) (x4 : Int32) (x5 : Int32) (w : Wd) (H : Heap) (locs : List Loc) (ls : Array Slot), pX11_layShares_12 post n x1 x2 x3 x4 x5 w → St tabM A s.heap g w H locs → lv_has ls 8 [(0, .ref (g.2.2 300)), (1, .int x1), (2, .int x2), (3, .int x3), (4, .int x4), (5, .int x5)] → W p l e (rk 2) s m args below meth c H locs 0 0 Q (F0 m 12 ls []) := by
  have hx := hC.1
  have hb := hC.2.1
  intro n
  induction n with
  | zero =>
    intro x1 x2 x3 x4 x5 w H locs ls hp hS hl
    exact False.elim hp
  | succ n ih =>
    intro x1 x2 x3 x4 x5 w H locs ls hp hS hl
    unfold pX11_layShares_12 at hp
    refine lv_iload hx hb dX11_layShares_12 (lv_at hl 5 rfl) ?_
    refine lv_iload_n hx hb dX11_layShares_14 rfl (lv_at hl 2 rfl) ?_
    refine lv_icmp_ge (tgt := 126) hx hb dX11_layShares_15 (by decide) (fun c_1 => ?_) (fun c_1 => ?_)
    · have hp := hp.1 c_1
      refine lv_iload_n hx hb dX11_layShares_126 rfl (lv_at hl 3 rfl) ?_
      refine lv_if_ne (tgt := 131) hx hb dX11_layShares_127 (by decide) (fun c_2 => ?_) (fun c_2 => ?_)
      · have hp := hp.1 c_2
        obtain ⟨n9, hp⟩ := hp
        exact bX11_layShares_131 hC hR n9 x2 x4 w _ _ _ hp hS (lv_sub hl [0, 2, 4] rfl)
      · have hp := hp.2 c_2
        exact hR _ _ _ _ _ dX11_layShares_130 hp hS
    · have hp := hp.2 c_1
      refine lv_iconst hx hb dX11_layShares_18 kI_0 ?_
      refine lv_istore (lv' := [(6, .int (0 : Int32)), (0, .ref (g.2.2 300)), (1, .int x1), (2, .int x2), (3, .int x3), (4, .int x4), (5, .int x5)]) hx hb dX11_layShares_19 hl (by decide) rfl (fun ls hl => ?_)
      refine lv_iconst hx hb dX11_layShares_21 kI_0 ?_
      refine lv_istore (lv' := [(7, .int (0 : Int32)), (6, .int (0 : Int32)), (0, .ref (g.2.2 300)), (1, .int x1), (2, .int x2), (3, .int x3), (4, .int x4), (5, .int x5)]) hx hb dX11_layShares_22 hl (by decide) rfl (fun ls hl => ?_)
      obtain ⟨n9, hp⟩ := hp
      exact bX11_layShares_24 hC hR ih n9 x1 x2 x3 x4 x5 (0 : Int32) (0 : Int32) w _ _ _ hp hS (lv_sub hl [2, 3, 4, 5, 6, 7, 1, 0] rfl)
set_option maxHeartbeats 4000000 in
set_option maxRecDepth 100000 in
theorem rX11_layShares {l : Launch} {g : Gw} {w : Wd} {post : Wd → Prop}   {x1 : Int32} {x2 : Int32} (hp : pX11_layShares post x1 x2 w) : MtV tabM l yX11_layShares cX11_layShares 8 none 2 g w [.ref (g.2.2 300), .int x1, .int x2] post := by
  refine q_entV tabM_nd (by decide) rfl (Nat.le_of_ble_eq_true rfl) ?_
  intro p e s m args below meth c A Q ls hC hR hS hl
  have hx := hC.1
  have hb := hC.2.1
  have hl : lv_has ls 8 [(0, .ref (g.2.2 300)), (1, .int x1), (2, .int x2)] := hl
  unfold pX11_layShares at hp
  refine lv_iload_n hx hb dX11_layShares_0 rfl (lv_at hl 1 rfl) ?_
  refine q_csI (As := [.int x1]) (rest := []) hC hS hl.1 (rX11_bitsOf hp) cwX11_352 ysX11_bitsOf rfl rfl (Nat.le_of_ble_eq_true rfl) (rmk (by decide) (by decide)) dX11_layShares_1 (fun r_1 w_2 H locs hp hS => ?_)
  refine lv_istore_n (lv' := [(3, .int r_1), (0, .ref (g.2.2 300)), (1, .int x1), (2, .int x2)]) hx hb dX11_layShares_4 rfl hl (by decide) rfl (fun ls hl => ?_)
  refine lv_bipush hx hb dX11_layShares_5 kB_100 ?_
  refine lv_istore (lv' := [(4, .int (100 : Int32)), (3, .int r_1), (0, .ref (g.2.2 300)), (1, .int x1), (2, .int x2)]) hx hb dX11_layShares_7 hl (by decide) rfl (fun ls hl => ?_)
  refine lv_iconst hx hb dX11_layShares_9 kI_0 ?_
  refine lv_istore (lv' := [(5, .int (0 : Int32)), (4, .int (100 : Int32)), (3, .int r_1), (0, .ref (g.2.2 300)), (1, .int x1), (2, .int x2)]) hx hb dX11_layShares_10 hl (by decide) rfl (fun ls hl => ?_)
  obtain ⟨n9, hp⟩ := hp
  exact bX11_layShares_12 hC hR n9 x1 x2 r_1 (100 : Int32) (0 : Int32) w_2 _ _ _ hp hS (lv_sub hl [3, 4, 5, 2, 1, 0] rfl)
def pX11_share (post : Int32 → Wd → Prop) (x1 : Int32) (x2 : Int32) (x3 : Int32) (w : Wd) : Prop := pX11_isRow (fun r_1 w_2 => (r_1 = 0 → (post (-1 : Int32) w_2)) ∧ (¬ r_1 = 0 → (pX11_isIn (fun r_4 w_5 => (r_4 = 0 → (post (-1 : Int32) w_5)) ∧ (¬ r_4 = 0 → (pX11_isIn (fun r_7 w_8 => (¬ r_7 = 0 → (pX11_layShares (fun w_10 => vp_in x3 4 ∧ post (w_10.2.1 346 x3.toNatClampNeg) w_10) x1 x2 w_8)) ∧ (r_7 = 0 → (post (-1 : Int32) w_8))) x3 (0 : Int32) (x2 - (1 : Int32)) w_5))) x2 (1 : Int32) (4 : Int32) w_2))) x1 w
set_option maxHeartbeats 4000000 in
set_option maxRecDepth 100000 in
theorem rX11_share {l : Launch} {g : Gw} {w : Wd} {post : Int32 → Wd → Prop}   {x1 : Int32} {x2 : Int32} {x3 : Int32} (hp : pX11_share post x1 x2 x3 w) : MtI tabM l yX11_share cX11_share 4 (some .int) 3 g w [.ref (g.2.2 300), .int x1, .int x2, .int x3] post := by
  refine q_entI tabM_nd (by decide) rfl (Nat.le_of_ble_eq_true rfl) ?_
  intro p e s m args below meth c A Q ls hC hR hS hl
  have hx := hC.1
  have hb := hC.2.1
  have hl : lv_has ls 4 [(0, .ref (g.2.2 300)), (1, .int x1), (2, .int x2), (3, .int x3)] := hl
  unfold pX11_share at hp
  refine lv_aload_n hx hb dX11_share_0 rfl (lv_at hl 0 rfl) ?_
  refine lv_iload_n hx hb dX11_share_1 rfl (lv_at hl 1 rfl) ?_
  refine q_cvI (As := [.int x1]) (rest := []) hC hS hl.1 (rX11_isRow hp) cwX11_358 yvX11_isRow (rcv_300 hC hS) rfl rfl (Nat.le_of_ble_eq_true rfl) (rmk (by decide) (by decide)) dX11_share_2 (fun r_1 w_2 H locs hp hS => ?_)
  refine lv_if_eq (tgt := 28) hx hb dX11_share_5 (by decide) (fun c_3 => ?_) (fun c_3 => ?_)
  · have hp := hp.1 c_3
    refine lv_iconst hx hb dX11_share_28 kI_m1 ?_
    exact hR _ _ _ _ _ _ dX11_share_29 hp hS
  · have hp := hp.2 c_3
    refine lv_iload_n hx hb dX11_share_8 rfl (lv_at hl 2 rfl) ?_
    refine lv_iconst hx hb dX11_share_9 kI_1 ?_
    refine lv_iconst hx hb dX11_share_10 kI_4 ?_
    refine q_csI (As := [.int x2, .int (1 : Int32), .int (4 : Int32)]) (rest := []) hC hS hl.1 (rX11_isIn hp) cwX11_345 ysX11_isIn rfl rfl (Nat.le_of_ble_eq_true rfl) (rmk (by decide) (by decide)) dX11_share_11 (fun r_4 w_5 H locs hp hS => ?_)
    refine lv_if_eq (tgt := 28) hx hb dX11_share_14 (by decide) (fun c_6 => ?_) (fun c_6 => ?_)
    · have hp := hp.1 c_6
      refine lv_iconst hx hb dX11_share_28 kI_m1 ?_
      exact hR _ _ _ _ _ _ dX11_share_29 hp hS
    · have hp := hp.2 c_6
      refine lv_iload_n hx hb dX11_share_17 rfl (lv_at hl 3 rfl) ?_
      refine lv_iconst hx hb dX11_share_18 kI_0 ?_
      refine lv_iload_n hx hb dX11_share_19 rfl (lv_at hl 2 rfl) ?_
      refine lv_iconst hx hb dX11_share_20 kI_1 ?_
      refine lv_isub hx hb dX11_share_21 ?_
      refine q_csI (As := [.int x3, .int (0 : Int32), .int (x2 - (1 : Int32))]) (rest := []) hC hS hl.1 (rX11_isIn hp) cwX11_345 ysX11_isIn rfl rfl (Nat.le_of_ble_eq_true rfl) (rmk (by decide) (by decide)) dX11_share_22 (fun r_7 w_8 H locs hp hS => ?_)
      refine lv_if_ne (tgt := 30) hx hb dX11_share_25 (by decide) (fun c_9 => ?_) (fun c_9 => ?_)
      · have hp := hp.1 c_9
        refine lv_aload_n hx hb dX11_share_30 rfl (lv_at hl 0 rfl) ?_
        refine lv_iload_n hx hb dX11_share_31 rfl (lv_at hl 1 rfl) ?_
        refine lv_iload_n hx hb dX11_share_32 rfl (lv_at hl 2 rfl) ?_
        refine q_cvV (As := [.int x1, .int x2]) (rest := []) hC hS hl.1 (rX11_layShares hp) cwX11_407 yvX11_layShares (rcv_300 hC hS) rfl rfl (Nat.le_of_ble_eq_true rfl) (rmk (by decide) (by decide)) dX11_share_33 (fun w_10 H locs hp hS => ?_)
        refine lv_aload_n hx hb dX11_share_36 rfl (lv_at hl 0 rfl) ?_
        refine G_300_45 hC hS m277 dX11_share_37 ?_
        refine lv_iload_n hx hb dX11_share_40 rfl (lv_at hl 3 rfl) ?_
        refine La_346 hC hS hp.1 dX11_share_41 ?_
        have hp := hp.2
        exact hR _ _ _ _ _ _ dX11_share_42 hp hS
      · have hp := hp.2 c_9
        refine lv_iconst hx hb dX11_share_28 kI_m1 ?_
        exact hR _ _ _ _ _ _ dX11_share_29 hp hS
def pX11_forge_101 (k40 : Int32 → Int32 → Int32 → Int32 → Int32 → Int32 → Int32 → Int32 → Wd → Prop) (post : Int32 → Wd → Prop) (x1 : Int32) (x2 : Int32) (x3 : Int32) (x4 : Int32) (x5 : Int32) (x6 : Int32) (x7 : Int32) (x8 : Int32) (w : Wd) : Prop := ∀ x8_1, x8_1 = x8 + (1 : Int32) → k40 x1 x2 x3 x4 x5 x6 x7 x8_1 w
def pX11_forge_76 (k40 : Int32 → Int32 → Int32 → Int32 → Int32 → Int32 → Int32 → Int32 → Wd → Prop) (post : Int32 → Wd → Prop) (x1 : Int32) (x2 : Int32) (x3 : Int32) (x4 : Int32) (x5 : Int32) (x6 : Int32) (x7 : Int32) (x8 : Int32) (x9 : Int32) (w : Wd) : Prop := pX11_castOf (fun r_1 w_2 => (r_1 = x4 → (pX11_forge_101 k40 post x1 x2 x3 x4 x5 x8 x9 x8 w_2)) ∧ (¬ r_1 = x4 → (pX11_forge_101 k40 post x1 x2 x3 x4 x5 x6 x7 x8 w_2))) x8 x2 x3 (0 : Int32) w
def pX11_forge_40 (post : Int32 → Wd → Prop) : Nat → Int32 → Int32 → Int32 → Int32 → Int32 → Int32 → Int32 → Int32 → Wd → Prop
  | 0, _, _, _, _, _, _, _, _, _ => False
  | n + 1, x1, x2, x3, x4, x5, x6, x7, x8, w => pX11_width (fun r_1 w_2 => (((1 : Int32) <<< (r_1 &&& 31)) ≤ x8 → ((0 ≤ x6 → ((¬ x5 = 0 → (post x6 w_2)) ∧ (x5 = 0 → (post x7 w_2)))) ∧ (¬ 0 ≤ x6 → (post (-1 : Int32) w_2)))) ∧ (¬ ((1 : Int32) <<< (r_1 &&& 31)) ≤ x8 → (pX11_rowOf (fun r_6 w_7 => pX11_bitsOf (fun r_8 w_9 => (x6 < 0 → (pX11_forge_76 (pX11_forge_40 post n) post x1 x2 x3 x4 x5 x6 x7 x8 r_8 w_9)) ∧ (¬ x6 < 0 → ((x7 ≤ r_8 → (pX11_forge_101 (pX11_forge_40 post n) post x1 x2 x3 x4 x5 x6 x7 x8 w_9)) ∧ (¬ x7 ≤ r_8 → (pX11_forge_76 (pX11_forge_40 post n) post x1 x2 x3 x4 x5 x6 x7 x8 r_8 w_9))))) (x8 ^^^ r_6) w_7) x1 w_2))) w
def pX11_forge (post : Int32 → Wd → Prop) (x1 : Int32) (x2 : Int32) (x3 : Int32) (x4 : Int32) (x5 : Int32) (w : Wd) : Prop := pX11_canCast (fun r_1 w_2 => (r_1 = 0 → (post (-1 : Int32) w_2)) ∧ (¬ r_1 = 0 → (pX11_isRow (fun r_4 w_5 => (r_4 = 0 → (post (-1 : Int32) w_5)) ∧ (¬ r_4 = 0 → (pX11_isIn (fun r_7 w_8 => (¬ r_7 = 0 → (∃ n9, pX11_forge_40 post n9 x1 x2 x3 x4 x5 (-1 : Int32) (0 : Int32) (0 : Int32) w_8)) ∧ (r_7 = 0 → (post (-1 : Int32) w_8))) x5 (0 : Int32) (1 : Int32) w_5))) x4 w_2))) x1 x2 x3 w
set_option maxHeartbeats 4000000 in
set_option maxRecDepth 100000 in
theorem bX11_forge_101 {p : Program} {l : Launch} {e : Env} {s : State} {m : MethodId} {args : Array Value} {below : List Frame} {meth : Method} {c : Code} {Q : State → Prop} {A : Nat → Prop} {g : Gw} {post : Int32 → Wd → Prop}  (hC : Cx p s m args c cX11_forge RX11 10 g) (hR : RtI tabM p l e (rk 4) s m args below meth c Q cX11_forge A g post)  {k40 : Int32 → Int32 → Int32 → Int32 → Int32 → Int32 → Int32 → Int32 → Wd → Prop} (hk40 : ∀ (x1 : Int32) (x2 : Int32) (x3 : Int32) (x4 : Int32) (x5 : Int32) (x6 : Int32) (x7 : Int32) (x8 : Int32) (w : Wd) (H : Heap) (locs : List Loc) (ls : Array Slot), k40 x1 x2 x3 x4 x5 x6 x7 x8 w → St tabM A s.heap g w H locs → lv_has ls 10 [(0, .ref (g.2.2 300)), (1, .int x1), (2, .int x2), (3, .int x3), (4, .int x4), (5, .int x5), (6, .int x6), (7, .int x7), (8, .int x8)] → W p l e (rk 4) s m args below meth c H locs 0 0 Q (F0 m 40 ls [])) : ∀ (x1 : Int32) (x2 : Int32) (x3 : Int32) (x4 : Int32) (x5 : Int32) (x6 : Int32) (x7 : Int32) (x8 : Int32) (w : Wd) (H : Heap) (locs : List Loc) (ls : Array Slot), pX11_forge_101 k40 post x1 x2 x3 x4 x5 x6 x7 x8 w → St tabM A s.heap g w H locs → lv_has ls 10 [(0, .ref (g.2.2 300)), (1, .int x1), (2, .int x2), (3, .int x3), (4, .int x4), (5, .int x5), (6, .int x6), (7, .int x7), (8, .int x8)] → W p l e (rk 4) s m args below meth c H locs 0 0 Q (F0 m 101 ls []) := by
  have hx := hC.1
  have hb := hC.2.1
  intro x1 x2 x3 x4 x5 x6 x7 x8 w H locs ls hp hS hl
  unfold pX11_forge_101 at hp
  obtain ⟨x8_1, ex8_1⟩ : ∃ y : Int32, y = x8 + (1 : Int32) := ⟨_, rfl⟩
  have hp := hp x8_1 ex8_1
  refine lv_iinc (v := x8_1) (lv' := [(8, .int x8_1), (0, .ref (g.2.2 300)), (1, .int x1), (2, .int x2), (3, .int x3), (4, .int x4), (5, .int x5), (6, .int x6), (7, .int x7)]) hx hb dX11_forge_101 hl (k := 8) rfl (by rw [ex8_1]; rfl) (by decide) rfl (fun ls hl => ?_)
  refine lv_goto (tgt := 40) hx hb dX11_forge_104 (by decide) ?_
  exact hk40 x1 x2 x3 x4 x5 x6 x7 x8_1 w _ _ _ hp hS (lv_sub hl [1, 2, 3, 4, 5, 6, 7, 8, 0] rfl)
set_option maxHeartbeats 4000000 in
set_option maxRecDepth 100000 in
theorem bX11_forge_76 {p : Program} {l : Launch} {e : Env} {s : State} {m : MethodId} {args : Array Value} {below : List Frame} {meth : Method} {c : Code} {Q : State → Prop} {A : Nat → Prop} {g : Gw} {post : Int32 → Wd → Prop}  (hC : Cx p s m args c cX11_forge RX11 10 g) (hR : RtI tabM p l e (rk 4) s m args below meth c Q cX11_forge A g post)  {k40 : Int32 → Int32 → Int32 → Int32 → Int32 → Int32 → Int32 → Int32 → Wd → Prop} (hk40 : ∀ (x1 : Int32) (x2 : Int32) (x3 : Int32) (x4 : Int32) (x5 : Int32) (x6 : Int32) (x7 : Int32) (x8 : Int32) (w : Wd) (H : Heap) (locs : List Loc) (ls : Array Slot), k40 x1 x2 x3 x4 x5 x6 x7 x8 w → St tabM A s.heap g w H locs → lv_has ls 10 [(0, .ref (g.2.2 300)), (1, .int x1), (2, .int x2), (3, .int x3), (4, .int x4), (5, .int x5), (6, .int x6), (7, .int x7), (8, .int x8)] → W p l e (rk 4) s m args below meth c H locs 0 0 Q (F0 m 40 ls [])) : ∀ (x1 : Int32) (x2 : Int32) (x3 : Int32) (x4 : Int32) (x5 : Int32) (x6 : Int32) (x7 : Int32) (x8 : Int32) (x9 : Int32) (w : Wd) (H : Heap) (locs : List Loc) (ls : Array Slot), pX11_forge_76 k40 post x1 x2 x3 x4 x5 x6 x7 x8 x9 w → St tabM A s.heap g w H locs → lv_has ls 10 [(0, .ref (g.2.2 300)), (1, .int x1), (2, .int x2), (3, .int x3), (4, .int x4), (5, .int x5), (6, .int x6), (7, .int x7), (8, .int x8), (9, .int x9)] → W p l e (rk 4) s m args below meth c H locs 0 0 Q (F0 m 76 ls []) := by
  have hx := hC.1
  have hb := hC.2.1
  intro x1 x2 x3 x4 x5 x6 x7 x8 x9 w H locs ls hp hS hl
  unfold pX11_forge_76 at hp
  refine lv_aload_n hx hb dX11_forge_76 rfl (lv_at hl 0 rfl) ?_
  refine lv_iload hx hb dX11_forge_77 (lv_at hl 8 rfl) ?_
  refine lv_iload_n hx hb dX11_forge_79 rfl (lv_at hl 2 rfl) ?_
  refine lv_iload_n hx hb dX11_forge_80 rfl (lv_at hl 3 rfl) ?_
  refine lv_iconst hx hb dX11_forge_81 kI_0 ?_
  refine q_cvI (As := [.int x8, .int x2, .int x3, .int (0 : Int32)]) (rest := []) hC hS hl.1 (rX11_castOf hp) cwX11_367 yvX11_castOf (rcv_300 hC hS) rfl rfl (Nat.le_of_ble_eq_true rfl) (rmk (by decide) (by decide)) dX11_forge_82 (fun r_1 w_2 H locs hp hS => ?_)
  refine lv_iload hx hb dX11_forge_85 (lv_at hl 4 rfl) ?_
  refine lv_icmp_eq (tgt := 93) hx hb dX11_forge_87 (by decide) (fun c_3 => ?_) (fun c_3 => ?_)
  · have hp := hp.1 c_3
    refine lv_iload hx hb dX11_forge_93 (lv_at hl 8 rfl) ?_
    refine lv_istore (lv' := [(6, .int x8), (0, .ref (g.2.2 300)), (1, .int x1), (2, .int x2), (3, .int x3), (4, .int x4), (5, .int x5), (7, .int x7), (8, .int x8), (9, .int x9)]) hx hb dX11_forge_95 hl (by decide) rfl (fun ls hl => ?_)
    refine lv_iload hx hb dX11_forge_97 (lv_at hl 9 rfl) ?_
    refine lv_istore (lv' := [(7, .int x9), (6, .int x8), (0, .ref (g.2.2 300)), (1, .int x1), (2, .int x2), (3, .int x3), (4, .int x4), (5, .int x5), (8, .int x8), (9, .int x9)]) hx hb dX11_forge_99 hl (by decide) rfl (fun ls hl => ?_)
    exact bX11_forge_101 hC hR hk40 x1 x2 x3 x4 x5 x8 x9 x8 w_2 _ _ _ hp hS (lv_sub hl [2, 3, 4, 5, 6, 7, 1, 0, 8] rfl)
  · have hp := hp.2 c_3
    refine lv_goto (tgt := 101) hx hb dX11_forge_90 (by decide) ?_
    exact bX11_forge_101 hC hR hk40 x1 x2 x3 x4 x5 x6 x7 x8 w_2 _ _ _ hp hS (lv_sub hl [0, 1, 2, 3, 4, 5, 6, 7, 8] rfl)
set_option maxHeartbeats 4000000 in
set_option maxRecDepth 100000 in
theorem bX11_forge_40 {p : Program} {l : Launch} {e : Env} {s : State} {m : MethodId} {args : Array Value} {below : List Frame} {meth : Method} {c : Code} {Q : State → Prop} {A : Nat → Prop} {g : Gw} {post : Int32 → Wd → Prop}  (hC : Cx p s m args c cX11_forge RX11 10 g) (hR : RtI tabM p l e (rk 4) s m args below meth c Q cX11_forge A g post)  : ∀ (n : Nat) (x1 : Int32) (x2 : Int32) (x3 : Int32) (x4 : Int32) (x5 : Int32) (x6 : Int32) (x7 : Int32) (x8 : Int32) (w : Wd) (H : Heap) (locs : List Loc) (ls : Array Slot), pX11_forge_40 post n x1 x2 x3 x4 x5 x6 x7 x8 w → St tabM A s.heap g w H locs → lv_has ls 10 [(0, .ref (g.2.2 300)), (1, .int x1), (2, .int x2), (3, .int x3), (4, .int x4), (5, .int x5), (6, .int x6), (7, .int x7), (8, .int x8)] → W p l e (rk 4) s m args below meth c H locs 0 0 Q (F0 m 40 ls []) := by
  have hx := hC.1
  have hb := hC.2.1
  intro n
  induction n with
  | zero =>
    intro x1 x2 x3 x4 x5 x6 x7 x8 w H locs ls hp hS hl
    exact False.elim hp
  | succ n ih =>
    intro x1 x2 x3 x4 x5 x6 x7 x8 w H locs ls hp hS hl
    unfold pX11_forge_40 at hp
    refine lv_iload hx hb dX11_forge_40 (lv_at hl 8 rfl) ?_
    refine lv_iconst hx hb dX11_forge_42 kI_1 ?_
    refine lv_aload_n hx hb dX11_forge_43 rfl (lv_at hl 0 rfl) ?_
    refine q_cvI (As := []) (rest := [.int (1 : Int32), .int x8]) hC hS hl.1 (rX11_width hp) cwX11_342 yvX11_width (rcv_300 hC hS) rfl rfl (Nat.le_of_ble_eq_true rfl) (rmk (by decide) (by decide)) dX11_forge_44 (fun r_1 w_2 H locs hp hS => ?_)
    refine lv_ishl hx hb dX11_forge_47 ?_
    refine lv_icmp_ge (tgt := 107) hx hb dX11_forge_48 (by decide) (fun c_3 => ?_) (fun c_3 => ?_)
    · have hp := hp.1 c_3
      refine lv_iload hx hb dX11_forge_107 (lv_at hl 6 rfl) ?_
      refine lv_if_ge (tgt := 116) hx hb dX11_forge_109 (by decide) (fun c_4 => ?_) (fun c_4 => ?_)
      · have hp := hp.1 c_4
        refine lv_iload hx hb dX11_forge_116 (lv_at hl 5 rfl) ?_
        refine lv_if_ne (tgt := 126) hx hb dX11_forge_118 (by decide) (fun c_5 => ?_) (fun c_5 => ?_)
        · have hp := hp.1 c_5
          refine lv_iload hx hb dX11_forge_126 (lv_at hl 6 rfl) ?_
          exact hR _ _ _ _ _ _ dX11_forge_128 hp hS
        · have hp := hp.2 c_5
          refine lv_iload hx hb dX11_forge_121 (lv_at hl 7 rfl) ?_
          refine lv_goto (tgt := 128) hx hb dX11_forge_123 (by decide) ?_
          exact hR _ _ _ _ _ _ dX11_forge_128 hp hS
      · have hp := hp.2 c_4
        refine lv_iconst hx hb dX11_forge_112 kI_m1 ?_
        refine lv_goto (tgt := 128) hx hb dX11_forge_113 (by decide) ?_
        exact hR _ _ _ _ _ _ dX11_forge_128 hp hS
    · have hp := hp.2 c_3
      refine lv_iload hx hb dX11_forge_51 (lv_at hl 8 rfl) ?_
      refine lv_aload_n hx hb dX11_forge_53 rfl (lv_at hl 0 rfl) ?_
      refine lv_iload_n hx hb dX11_forge_54 rfl (lv_at hl 1 rfl) ?_
      refine q_cvI (As := [.int x1]) (rest := [.int x8]) hC hS hl.1 (rX11_rowOf hp) cwX11_392 yvX11_rowOf (rcv_300 hC hS) rfl rfl (Nat.le_of_ble_eq_true rfl) (rmk (by decide) (by decide)) dX11_forge_55 (fun r_6 w_7 H locs hp hS => ?_)
      refine lv_ixor hx hb dX11_forge_58 ?_
      refine q_csI (As := [.int (x8 ^^^ r_6)]) (rest := []) hC hS hl.1 (rX11_bitsOf hp) cwX11_352 ysX11_bitsOf rfl rfl (Nat.le_of_ble_eq_true rfl) (rmk (by decide) (by decide)) dX11_forge_59 (fun r_8 w_9 H locs hp hS => ?_)
      refine lv_istore (lv' := [(9, .int r_8), (0, .ref (g.2.2 300)), (1, .int x1), (2, .int x2), (3, .int x3), (4, .int x4), (5, .int x5), (6, .int x6), (7, .int x7), (8, .int x8)]) hx hb dX11_forge_62 hl (by decide) rfl (fun ls hl => ?_)
      refine lv_iload hx hb dX11_forge_64 (lv_at hl 7 rfl) ?_
      refine lv_if_lt (tgt := 76) hx hb dX11_forge_66 (by decide) (fun c_10 => ?_) (fun c_10 => ?_)
      · have hp := hp.1 c_10
        exact bX11_forge_76 hC hR ih x1 x2 x3 x4 x5 x6 x7 x8 r_8 w_9 _ _ _ hp hS (lv_sub hl [1, 2, 3, 4, 5, 6, 7, 8, 9, 0] rfl)
      · have hp := hp.2 c_10
        refine lv_iload hx hb dX11_forge_69 (lv_at hl 0 rfl) ?_
        refine lv_iload hx hb dX11_forge_71 (lv_at hl 8 rfl) ?_
        refine lv_icmp_ge (tgt := 101) hx hb dX11_forge_73 (by decide) (fun c_11 => ?_) (fun c_11 => ?_)
        · have hp := hp.1 c_11
          exact bX11_forge_101 hC hR ih x1 x2 x3 x4 x5 x6 x7 x8 w_9 _ _ _ hp hS (lv_sub hl [1, 2, 3, 4, 5, 6, 7, 8, 9] rfl)
        · have hp := hp.2 c_11
          exact bX11_forge_76 hC hR ih x1 x2 x3 x4 x5 x6 x7 x8 r_8 w_9 _ _ _ hp hS (lv_sub hl [1, 2, 3, 4, 5, 6, 7, 8, 9, 0] rfl)
set_option maxHeartbeats 4000000 in
set_option maxRecDepth 100000 in
theorem rX11_forge {l : Launch} {g : Gw} {w : Wd} {post : Int32 → Wd → Prop}   {x1 : Int32} {x2 : Int32} {x3 : Int32} {x4 : Int32} {x5 : Int32} (hp : pX11_forge post x1 x2 x3 x4 x5 w) : MtI tabM l yX11_forge cX11_forge 10 (some .int) 4 g w [.ref (g.2.2 300), .int x1, .int x2, .int x3, .int x4, .int x5] post := by
  refine q_entI tabM_nd (by decide) rfl (Nat.le_of_ble_eq_true rfl) ?_
  intro p e s m args below meth c A Q ls hC hR hS hl
  have hx := hC.1
  have hb := hC.2.1
  have hl : lv_has ls 10 [(0, .ref (g.2.2 300)), (1, .int x1), (2, .int x2), (3, .int x3), (4, .int x4), (5, .int x5)] := hl
  unfold pX11_forge at hp
  refine lv_aload_n hx hb dX11_forge_0 rfl (lv_at hl 0 rfl) ?_
  refine lv_iload_n hx hb dX11_forge_1 rfl (lv_at hl 1 rfl) ?_
  refine lv_iload_n hx hb dX11_forge_2 rfl (lv_at hl 2 rfl) ?_
  refine lv_iload_n hx hb dX11_forge_3 rfl (lv_at hl 3 rfl) ?_
  refine q_cvI (As := [.int x1, .int x2, .int x3]) (rest := []) hC hS hl.1 (rX11_canCast hp) cwX11_398 yvX11_canCast (rcv_300 hC hS) rfl rfl (Nat.le_of_ble_eq_true rfl) (rmk (by decide) (by decide)) dX11_forge_4 (fun r_1 w_2 H locs hp hS => ?_)
  refine lv_if_eq (tgt := 29) hx hb dX11_forge_7 (by decide) (fun c_3 => ?_) (fun c_3 => ?_)
  · have hp := hp.1 c_3
    refine lv_iconst hx hb dX11_forge_29 kI_m1 ?_
    exact hR _ _ _ _ _ _ dX11_forge_30 hp hS
  · have hp := hp.2 c_3
    refine lv_aload_n hx hb dX11_forge_10 rfl (lv_at hl 0 rfl) ?_
    refine lv_iload hx hb dX11_forge_11 (lv_at hl 4 rfl) ?_
    refine q_cvI (As := [.int x4]) (rest := []) hC hS hl.1 (rX11_isRow hp) cwX11_358 yvX11_isRow (rcv_300 hC hS) rfl rfl (Nat.le_of_ble_eq_true rfl) (rmk (by decide) (by decide)) dX11_forge_13 (fun r_4 w_5 H locs hp hS => ?_)
    refine lv_if_eq (tgt := 29) hx hb dX11_forge_16 (by decide) (fun c_6 => ?_) (fun c_6 => ?_)
    · have hp := hp.1 c_6
      refine lv_iconst hx hb dX11_forge_29 kI_m1 ?_
      exact hR _ _ _ _ _ _ dX11_forge_30 hp hS
    · have hp := hp.2 c_6
      refine lv_iload hx hb dX11_forge_19 (lv_at hl 5 rfl) ?_
      refine lv_iconst hx hb dX11_forge_21 kI_0 ?_
      refine lv_iconst hx hb dX11_forge_22 kI_1 ?_
      refine q_csI (As := [.int x5, .int (0 : Int32), .int (1 : Int32)]) (rest := []) hC hS hl.1 (rX11_isIn hp) cwX11_345 ysX11_isIn rfl rfl (Nat.le_of_ble_eq_true rfl) (rmk (by decide) (by decide)) dX11_forge_23 (fun r_7 w_8 H locs hp hS => ?_)
      refine lv_if_ne (tgt := 31) hx hb dX11_forge_26 (by decide) (fun c_9 => ?_) (fun c_9 => ?_)
      · have hp := hp.1 c_9
        refine lv_iconst hx hb dX11_forge_31 kI_m1 ?_
        refine lv_istore (lv' := [(6, .int (-1 : Int32)), (0, .ref (g.2.2 300)), (1, .int x1), (2, .int x2), (3, .int x3), (4, .int x4), (5, .int x5)]) hx hb dX11_forge_32 hl (by decide) rfl (fun ls hl => ?_)
        refine lv_iconst hx hb dX11_forge_34 kI_0 ?_
        refine lv_istore (lv' := [(7, .int (0 : Int32)), (6, .int (-1 : Int32)), (0, .ref (g.2.2 300)), (1, .int x1), (2, .int x2), (3, .int x3), (4, .int x4), (5, .int x5)]) hx hb dX11_forge_35 hl (by decide) rfl (fun ls hl => ?_)
        refine lv_iconst hx hb dX11_forge_37 kI_0 ?_
        refine lv_istore (lv' := [(8, .int (0 : Int32)), (7, .int (0 : Int32)), (6, .int (-1 : Int32)), (0, .ref (g.2.2 300)), (1, .int x1), (2, .int x2), (3, .int x3), (4, .int x4), (5, .int x5)]) hx hb dX11_forge_38 hl (by decide) rfl (fun ls hl => ?_)
        obtain ⟨n9, hp⟩ := hp
        exact bX11_forge_40 hC hR n9 x1 x2 x3 x4 x5 (-1 : Int32) (0 : Int32) (0 : Int32) w_8 _ _ _ hp hS (lv_sub hl [3, 4, 5, 6, 7, 8, 2, 1, 0] rfl)
      · have hp := hp.2 c_9
        refine lv_iconst hx hb dX11_forge_29 kI_m1 ?_
        exact hR _ _ _ _ _ _ dX11_forge_30 hp hS
def pX11_nearest_115 (k27 : Int32 → Int32 → Int32 → Int32 → Int32 → Wd → Prop) (post : Int32 → Wd → Prop) (x1 : Int32) (x2 : Int32) (x3 : Int32) (x4 : Int32) (x5 : Int32) (w : Wd) : Prop := ∀ x5_1, x5_1 = x5 + (1 : Int32) → k27 x1 x2 x3 x4 x5_1 w
def pX11_nearest_108 (k27 : Int32 → Int32 → Int32 → Int32 → Int32 → Wd → Prop) (post : Int32 → Wd → Prop) (x1 : Int32) (x2 : Int32) (x5 : Int32) (x7 : Int32) (w : Wd) : Prop := pX11_nearest_115 k27 post x1 x2 x5 x7 x5 w
def pX11_nearest_88 (k27 : Int32 → Int32 → Int32 → Int32 → Int32 → Wd → Prop) (post : Int32 → Wd → Prop) (x1 : Int32) (x2 : Int32) (x3 : Int32) (x4 : Int32) (x5 : Int32) (t0 : Int32) (t1 : Int32) (w : Wd) : Prop := pX11_bitsOf (fun r_1 w_2 => (x3 < 0 → (pX11_nearest_108 k27 post x1 x2 x5 r_1 w_2)) ∧ (¬ x3 < 0 → ((r_1 < x4 → (pX11_nearest_108 k27 post x1 x2 x5 r_1 w_2)) ∧ (¬ r_1 < x4 → (pX11_nearest_115 k27 post x1 x2 x3 x4 x5 w_2))))) (t0 ^^^ t1) w
def pX11_nearest_27 (post : Int32 → Wd → Prop) : Nat → Int32 → Int32 → Int32 → Int32 → Int32 → Wd → Prop
  | 0, _, _, _, _, _, _ => False
  | n + 1, x1, x2, x3, x4, x5, w => (((2 : Int32) * (w.2.1 341 (216 : Int32).toNatClampNeg)) ≤ x5 → ((¬ x2 = 0 → ((¬ x2 = (1 : Int32) → (¬ (w.2.1 341 (216 : Int32).toNatClampNeg) = 0 ∧ post (x3 / (w.2.1 341 (216 : Int32).toNatClampNeg)) w)) ∧ (x2 = (1 : Int32) → (¬ (w.2.1 341 (216 : Int32).toNatClampNeg) = 0 ∧ post (x3 - x3 / (w.2.1 341 (216 : Int32).toNatClampNeg) * (w.2.1 341 (216 : Int32).toNatClampNeg)) w)))) ∧ (x2 = 0 → (post x4 w)))) ∧ (¬ ((2 : Int32) * (w.2.1 341 (216 : Int32).toNatClampNeg)) ≤ x5 → (¬ (w.2.1 341 (216 : Int32).toNatClampNeg) = 0 ∧ ∀ x6_4, x6_4 = (x5 - x5 / (w.2.1 341 (216 : Int32).toNatClampNeg) * (w.2.1 341 (216 : Int32).toNatClampNeg)) → ((w.2.1 341 (216 : Int32).toNatClampNeg) ≤ x5 → (pX11_rowOf (fun r_6 w_7 => pX11_nearest_88 (pX11_nearest_27 post n) post x1 x2 x3 x4 x5 x1 r_6 w_7) x6_4 w)) ∧ (¬ (w.2.1 341 (216 : Int32).toNatClampNeg) ≤ x5 → (pX11_rowOf (fun r_8 w_9 => pX11_turnedRow (fun r_10 w_11 => pX11_nearest_88 (pX11_nearest_27 post n) post x1 x2 x3 x4 x5 x1 r_10 w_11) r_8 w_9) x6_4 w))))
def pX11_nearest (post : Int32 → Wd → Prop) (x1 : Int32) (x2 : Int32) (w : Wd) : Prop := pX11_isRow (fun r_1 w_2 => (r_1 = 0 → (post (-1 : Int32) w_2)) ∧ (¬ r_1 = 0 → (pX11_isIn (fun r_4 w_5 => (¬ r_4 = 0 → (∃ n9, pX11_nearest_27 post n9 x1 x2 (-1 : Int32) (0 : Int32) (0 : Int32) w_5)) ∧ (r_4 = 0 → (post (-1 : Int32) w_5))) x2 (0 : Int32) (2 : Int32) w_2))) x1 w
set_option maxHeartbeats 4000000 in
set_option maxRecDepth 100000 in
theorem bX11_nearest_115 {p : Program} {l : Launch} {e : Env} {s : State} {m : MethodId} {args : Array Value} {below : List Frame} {meth : Method} {c : Code} {Q : State → Prop} {A : Nat → Prop} {g : Gw} {post : Int32 → Wd → Prop}  (hC : Cx p s m args c cX11_nearest RX11 8 g) (hR : RtI tabM p l e (rk 3) s m args below meth c Q cX11_nearest A g post)  {k27 : Int32 → Int32 → Int32 → Int32 → Int32 → Wd → Prop} (hk27 : ∀ (x1 : Int32) (x2 : Int32) (x3 : Int32) (x4 : Int32) (x5 : Int32) (w : Wd) (H : Heap) (locs : List Loc) (ls : Array Slot), k27 x1 x2 x3 x4 x5 w → St tabM A s.heap g w H locs → lv_has ls 8 [(0, .ref (g.2.2 300)), (1, .int x1), (2, .int x2), (3, .int x3), (4, .int x4), (5, .int x5)] → W p l e (rk 3) s m args below meth c H locs 0 0 Q (F0 m 27 ls [])) : ∀ (x1 : Int32) (x2 : Int32) (x3 : Int32) (x4 : Int32) (x5 : Int32) (w : Wd) (H : Heap) (locs : List Loc) (ls : Array Slot), pX11_nearest_115 k27 post x1 x2 x3 x4 x5 w → St tabM A s.heap g w H locs → lv_has ls 8 [(0, .ref (g.2.2 300)), (1, .int x1), (2, .int x2), (3, .int x3), (4, .int x4), (5, .int x5)] → W p l e (rk 3) s m args below meth c H locs 0 0 Q (F0 m 115 ls []) := by
  have hx := hC.1
  have hb := hC.2.1
  intro x1 x2 x3 x4 x5 w H locs ls hp hS hl
  unfold pX11_nearest_115 at hp
  obtain ⟨x5_1, ex5_1⟩ : ∃ y : Int32, y = x5 + (1 : Int32) := ⟨_, rfl⟩
  have hp := hp x5_1 ex5_1
  refine lv_iinc (v := x5_1) (lv' := [(5, .int x5_1), (0, .ref (g.2.2 300)), (1, .int x1), (2, .int x2), (3, .int x3), (4, .int x4)]) hx hb dX11_nearest_115 hl (k := 5) rfl (by rw [ex5_1]; rfl) (by decide) rfl (fun ls hl => ?_)
  refine lv_goto (tgt := 27) hx hb dX11_nearest_118 (by decide) ?_
  exact hk27 x1 x2 x3 x4 x5_1 w _ _ _ hp hS (lv_sub hl [1, 2, 3, 4, 5, 0] rfl)
set_option maxHeartbeats 4000000 in
set_option maxRecDepth 100000 in
theorem bX11_nearest_108 {p : Program} {l : Launch} {e : Env} {s : State} {m : MethodId} {args : Array Value} {below : List Frame} {meth : Method} {c : Code} {Q : State → Prop} {A : Nat → Prop} {g : Gw} {post : Int32 → Wd → Prop}  (hC : Cx p s m args c cX11_nearest RX11 8 g) (hR : RtI tabM p l e (rk 3) s m args below meth c Q cX11_nearest A g post)  {k27 : Int32 → Int32 → Int32 → Int32 → Int32 → Wd → Prop} (hk27 : ∀ (x1 : Int32) (x2 : Int32) (x3 : Int32) (x4 : Int32) (x5 : Int32) (w : Wd) (H : Heap) (locs : List Loc) (ls : Array Slot), k27 x1 x2 x3 x4 x5 w → St tabM A s.heap g w H locs → lv_has ls 8 [(0, .ref (g.2.2 300)), (1, .int x1), (2, .int x2), (3, .int x3), (4, .int x4), (5, .int x5)] → W p l e (rk 3) s m args below meth c H locs 0 0 Q (F0 m 27 ls [])) : ∀ (x1 : Int32) (x2 : Int32) (x5 : Int32) (x7 : Int32) (w : Wd) (H : Heap) (locs : List Loc) (ls : Array Slot), pX11_nearest_108 k27 post x1 x2 x5 x7 w → St tabM A s.heap g w H locs → lv_has ls 8 [(0, .ref (g.2.2 300)), (1, .int x1), (2, .int x2), (5, .int x5), (7, .int x7)] → W p l e (rk 3) s m args below meth c H locs 0 0 Q (F0 m 108 ls []) := by
  have hx := hC.1
  have hb := hC.2.1
  intro x1 x2 x5 x7 w H locs ls hp hS hl
  unfold pX11_nearest_108 at hp
  refine lv_iload hx hb dX11_nearest_108 (lv_at hl 3 rfl) ?_
  refine lv_istore_n (lv' := [(3, .int x5), (0, .ref (g.2.2 300)), (1, .int x1), (2, .int x2), (5, .int x5), (7, .int x7)]) hx hb dX11_nearest_110 rfl hl (by decide) rfl (fun ls hl => ?_)
  refine lv_iload hx hb dX11_nearest_111 (lv_at hl 5 rfl) ?_
  refine lv_istore (lv' := [(4, .int x7), (3, .int x5), (0, .ref (g.2.2 300)), (1, .int x1), (2, .int x2), (5, .int x5), (7, .int x7)]) hx hb dX11_nearest_113 hl (by decide) rfl (fun ls hl => ?_)
  exact bX11_nearest_115 hC hR hk27 x1 x2 x5 x7 x5 w _ _ _ hp hS (lv_sub hl [2, 3, 4, 1, 0, 5] rfl)
set_option maxHeartbeats 4000000 in
set_option maxRecDepth 100000 in
theorem bX11_nearest_88 {p : Program} {l : Launch} {e : Env} {s : State} {m : MethodId} {args : Array Value} {below : List Frame} {meth : Method} {c : Code} {Q : State → Prop} {A : Nat → Prop} {g : Gw} {post : Int32 → Wd → Prop}  (hC : Cx p s m args c cX11_nearest RX11 8 g) (hR : RtI tabM p l e (rk 3) s m args below meth c Q cX11_nearest A g post)  {k27 : Int32 → Int32 → Int32 → Int32 → Int32 → Wd → Prop} (hk27 : ∀ (x1 : Int32) (x2 : Int32) (x3 : Int32) (x4 : Int32) (x5 : Int32) (w : Wd) (H : Heap) (locs : List Loc) (ls : Array Slot), k27 x1 x2 x3 x4 x5 w → St tabM A s.heap g w H locs → lv_has ls 8 [(0, .ref (g.2.2 300)), (1, .int x1), (2, .int x2), (3, .int x3), (4, .int x4), (5, .int x5)] → W p l e (rk 3) s m args below meth c H locs 0 0 Q (F0 m 27 ls [])) : ∀ (x1 : Int32) (x2 : Int32) (x3 : Int32) (x4 : Int32) (x5 : Int32) (t0 : Int32) (t1 : Int32) (w : Wd) (H : Heap) (locs : List Loc) (ls : Array Slot), pX11_nearest_88 k27 post x1 x2 x3 x4 x5 t0 t1 w → St tabM A s.heap g w H locs → lv_has ls 8 [(0, .ref (g.2.2 300)), (1, .int x1), (2, .int x2), (3, .int x3), (4, .int x4), (5, .int x5)] → W p l e (rk 3) s m args below meth c H locs 0 0 Q (F0 m 88 ls [.int t1, .int t0]) := by
  have hx := hC.1
  have hb := hC.2.1
  intro x1 x2 x3 x4 x5 t0 t1 w H locs ls hp hS hl
  unfold pX11_nearest_88 at hp
  refine lv_ixor hx hb dX11_nearest_88 ?_
  refine q_csI (As := [.int (t0 ^^^ t1)]) (rest := []) hC hS hl.1 (rX11_bitsOf hp) cwX11_352 ysX11_bitsOf rfl rfl (Nat.le_of_ble_eq_true rfl) (rmk (by decide) (by decide)) dX11_nearest_89 (fun r_1 w_2 H locs hp hS => ?_)
  refine lv_istore (lv' := [(7, .int r_1), (0, .ref (g.2.2 300)), (1, .int x1), (2, .int x2), (3, .int x3), (4, .int x4), (5, .int x5)]) hx hb dX11_nearest_92 hl (by decide) rfl (fun ls hl => ?_)
  refine lv_iload_n hx hb dX11_nearest_94 rfl (lv_at hl 4 rfl) ?_
  refine lv_if_lt (tgt := 108) hx hb dX11_nearest_95 (by decide) (fun c_3 => ?_) (fun c_3 => ?_)
  · have hp := hp.1 c_3
    exact bX11_nearest_108 hC hR hk27 x1 x2 x5 r_1 w_2 _ _ _ hp hS (lv_sub hl [1, 2, 3, 6, 0] rfl)
  · have hp := hp.2 c_3
    refine lv_iload hx hb dX11_nearest_98 (lv_at hl 0 rfl) ?_
    refine lv_iload hx hb dX11_nearest_100 (lv_at hl 5 rfl) ?_
    refine lv_icmp_lt (tgt := 108) hx hb dX11_nearest_102 (by decide) (fun c_4 => ?_) (fun c_4 => ?_)
    · have hp := hp.1 c_4
      exact bX11_nearest_108 hC hR hk27 x1 x2 x5 r_1 w_2 _ _ _ hp hS (lv_sub hl [1, 2, 3, 6, 0] rfl)
    · have hp := hp.2 c_4
      refine lv_goto (tgt := 115) hx hb dX11_nearest_105 (by decide) ?_
      exact bX11_nearest_115 hC hR hk27 x1 x2 x3 x4 x5 w_2 _ _ _ hp hS (lv_sub hl [1, 2, 3, 4, 5, 6] rfl)
set_option maxHeartbeats 4000000 in
set_option maxRecDepth 100000 in
theorem bX11_nearest_27 {p : Program} {l : Launch} {e : Env} {s : State} {m : MethodId} {args : Array Value} {below : List Frame} {meth : Method} {c : Code} {Q : State → Prop} {A : Nat → Prop} {g : Gw} {post : Int32 → Wd → Prop}  (hC : Cx p s m args c cX11_nearest RX11 8 g) (hR : RtI tabM p l e (rk 3) s m args below meth c Q cX11_nearest A g post)  : ∀ (n : Nat) (x1 : Int32) (x2 : Int32) (x3 : Int32) (x4 : Int32) (x5 : Int32) (w : Wd) (H : Heap) (locs : List Loc) (ls : Array Slot), pX11_nearest_27 post n x1 x2 x3 x4 x5 w → St tabM A s.heap g w H locs → lv_has ls 8 [(0, .ref (g.2.2 300)), (1, .int x1), (2, .int x2), (3, .int x3), (4, .int x4), (5, .int x5)] → W p l e (rk 3) s m args below meth c H locs 0 0 Q (F0 m 27 ls []) := by
  have hx := hC.1
  have hb := hC.2.1
  intro n
  induction n with
  | zero =>
    intro x1 x2 x3 x4 x5 w H locs ls hp hS hl
    exact False.elim hp
  | succ n ih =>
    intro x1 x2 x3 x4 x5 w H locs ls hp hS hl
    unfold pX11_nearest_27 at hp
    refine lv_iload hx hb dX11_nearest_27 (lv_at hl 5 rfl) ?_
    refine lv_iconst hx hb dX11_nearest_29 kI_2 ?_
    refine lv_aload_n hx hb dX11_nearest_30 rfl (lv_at hl 0 rfl) ?_
    refine G_300_40 hC hS m274 dX11_nearest_31 ?_
    refine lv_sipush hx hb dX11_nearest_34 kS_216 ?_
    refine La_341 hC hS (by unfold vp_in; decide) dX11_nearest_37 ?_
    refine lv_imul hx hb dX11_nearest_38 ?_
    refine lv_icmp_ge (tgt := 121) hx hb dX11_nearest_39 (by decide) (fun c_1 => ?_) (fun c_1 => ?_)
    · have hp := hp.1 c_1
      refine lv_iload_n hx hb dX11_nearest_121 rfl (lv_at hl 2 rfl) ?_
      refine lv_if_ne (tgt := 128) hx hb dX11_nearest_122 (by decide) (fun c_2 => ?_) (fun c_2 => ?_)
      · have hp := hp.1 c_2
        refine lv_iload_n hx hb dX11_nearest_128 rfl (lv_at hl 2 rfl) ?_
        refine lv_iconst hx hb dX11_nearest_129 kI_1 ?_
        refine lv_icmp_ne (tgt := 146) hx hb dX11_nearest_130 (by decide) (fun c_3 => ?_) (fun c_3 => ?_)
        · have hp := hp.1 c_3
          refine lv_iload_n hx hb dX11_nearest_146 rfl (lv_at hl 3 rfl) ?_
          refine lv_aload_n hx hb dX11_nearest_147 rfl (lv_at hl 0 rfl) ?_
          refine G_300_40 hC hS m274 dX11_nearest_148 ?_
          refine lv_sipush hx hb dX11_nearest_151 kS_216 ?_
          refine La_341 hC hS (by unfold vp_in; decide) dX11_nearest_154 ?_
          refine lv_idiv hx hb dX11_nearest_155 hp.1 ?_
          have hp := hp.2
          exact hR _ _ _ _ _ _ dX11_nearest_156 hp hS
        · have hp := hp.2 c_3
          refine lv_iload_n hx hb dX11_nearest_133 rfl (lv_at hl 3 rfl) ?_
          refine lv_aload_n hx hb dX11_nearest_134 rfl (lv_at hl 0 rfl) ?_
          refine G_300_40 hC hS m274 dX11_nearest_135 ?_
          refine lv_sipush hx hb dX11_nearest_138 kS_216 ?_
          refine La_341 hC hS (by unfold vp_in; decide) dX11_nearest_141 ?_
          refine lv_irem hx hb dX11_nearest_142 hp.1 ?_
          have hp := hp.2
          refine lv_goto (tgt := 156) hx hb dX11_nearest_143 (by decide) ?_
          exact hR _ _ _ _ _ _ dX11_nearest_156 hp hS
      · have hp := hp.2 c_2
        refine lv_iload hx hb dX11_nearest_125 (lv_at hl 4 rfl) ?_
        exact hR _ _ _ _ _ _ dX11_nearest_127 hp hS
    · have hp := hp.2 c_1
      refine lv_iload hx hb dX11_nearest_42 (lv_at hl 5 rfl) ?_
      refine lv_aload_n hx hb dX11_nearest_44 rfl (lv_at hl 0 rfl) ?_
      refine G_300_40 hC hS m274 dX11_nearest_45 ?_
      refine lv_sipush hx hb dX11_nearest_48 kS_216 ?_
      refine La_341 hC hS (by unfold vp_in; decide) dX11_nearest_51 ?_
      refine lv_irem hx hb dX11_nearest_52 hp.1 ?_
      have hp := hp.2
      refine lv_topi (fun x6_4 ex6_4 => ?_)
      have hp := hp x6_4 ex6_4
      refine lv_istore (lv' := [(6, .int x6_4), (0, .ref (g.2.2 300)), (1, .int x1), (2, .int x2), (3, .int x3), (4, .int x4), (5, .int x5)]) hx hb dX11_nearest_53 hl (by decide) rfl (fun ls hl => ?_)
      refine lv_iload_n hx hb dX11_nearest_55 rfl (lv_at hl 2 rfl) ?_
      refine lv_iload hx hb dX11_nearest_56 (lv_at hl 6 rfl) ?_
      refine lv_aload_n hx hb dX11_nearest_58 rfl (lv_at hl 1 rfl) ?_
      refine G_300_40 hC hS m274 dX11_nearest_59 ?_
      refine lv_sipush hx hb dX11_nearest_62 kS_216 ?_
      refine La_341 hC hS (by unfold vp_in; decide) dX11_nearest_65 ?_
      refine lv_icmp_ge (tgt := 82) hx hb dX11_nearest_66 (by decide) (fun c_5 => ?_) (fun c_5 => ?_)
      · have hp := hp.1 c_5
        refine lv_aload_n hx hb dX11_nearest_82 rfl (lv_at hl 1 rfl) ?_
        refine lv_iload hx hb dX11_nearest_83 (lv_at hl 0 rfl) ?_
        refine q_cvI (As := [.int x6_4]) (rest := [.int x1]) hC hS hl.1 (rX11_rowOf hp) cwX11_392 yvX11_rowOf (rcv_300 hC hS) rfl rfl (Nat.le_of_ble_eq_true rfl) (rmk (by decide) (by decide)) dX11_nearest_85 (fun r_6 w_7 H locs hp hS => ?_)
        exact bX11_nearest_88 hC hR ih x1 x2 x3 x4 x5 x1 r_6 w_7 _ _ _ hp hS (lv_sub hl [1, 2, 3, 4, 5, 6] rfl)
      · have hp := hp.2 c_5
        refine lv_aload_n hx hb dX11_nearest_69 rfl (lv_at hl 1 rfl) ?_
        refine lv_aload_n hx hb dX11_nearest_70 rfl (lv_at hl 1 rfl) ?_
        refine lv_iload hx hb dX11_nearest_71 (lv_at hl 0 rfl) ?_
        refine q_cvI (As := [.int x6_4]) (rest := [.ref (g.2.2 300), .int x1]) hC hS hl.1 (rX11_rowOf hp) cwX11_392 yvX11_rowOf (rcv_300 hC hS) rfl rfl (Nat.le_of_ble_eq_true rfl) (rmk (by decide) (by decide)) dX11_nearest_73 (fun r_8 w_9 H locs hp hS => ?_)
        refine q_cvI (As := [.int r_8]) (rest := [.int x1]) hC hS hl.1 (rX11_turnedRow hp) cwX11_349 yvX11_turnedRow (rcv_300 hC hS) rfl rfl (Nat.le_of_ble_eq_true rfl) (rmk (by decide) (by decide)) dX11_nearest_76 (fun r_10 w_11 H locs hp hS => ?_)
        refine lv_goto (tgt := 88) hx hb dX11_nearest_79 (by decide) ?_
        exact bX11_nearest_88 hC hR ih x1 x2 x3 x4 x5 x1 r_10 w_11 _ _ _ hp hS (lv_sub hl [1, 2, 3, 4, 5, 6] rfl)
set_option maxHeartbeats 4000000 in
set_option maxRecDepth 100000 in
theorem rX11_nearest {l : Launch} {g : Gw} {w : Wd} {post : Int32 → Wd → Prop}   {x1 : Int32} {x2 : Int32} (hp : pX11_nearest post x1 x2 w) : MtI tabM l yX11_nearest cX11_nearest 8 (some .int) 3 g w [.ref (g.2.2 300), .int x1, .int x2] post := by
  refine q_entI tabM_nd (by decide) rfl (Nat.le_of_ble_eq_true rfl) ?_
  intro p e s m args below meth c A Q ls hC hR hS hl
  have hx := hC.1
  have hb := hC.2.1
  have hl : lv_has ls 8 [(0, .ref (g.2.2 300)), (1, .int x1), (2, .int x2)] := hl
  unfold pX11_nearest at hp
  refine lv_aload_n hx hb dX11_nearest_0 rfl (lv_at hl 0 rfl) ?_
  refine lv_iload_n hx hb dX11_nearest_1 rfl (lv_at hl 1 rfl) ?_
  refine q_cvI (As := [.int x1]) (rest := []) hC hS hl.1 (rX11_isRow hp) cwX11_358 yvX11_isRow (rcv_300 hC hS) rfl rfl (Nat.le_of_ble_eq_true rfl) (rmk (by decide) (by decide)) dX11_nearest_2 (fun r_1 w_2 H locs hp hS => ?_)
  refine lv_if_eq (tgt := 17) hx hb dX11_nearest_5 (by decide) (fun c_3 => ?_) (fun c_3 => ?_)
  · have hp := hp.1 c_3
    refine lv_iconst hx hb dX11_nearest_17 kI_m1 ?_
    exact hR _ _ _ _ _ _ dX11_nearest_18 hp hS
  · have hp := hp.2 c_3
    refine lv_iload_n hx hb dX11_nearest_8 rfl (lv_at hl 2 rfl) ?_
    refine lv_iconst hx hb dX11_nearest_9 kI_0 ?_
    refine lv_iconst hx hb dX11_nearest_10 kI_2 ?_
    refine q_csI (As := [.int x2, .int (0 : Int32), .int (2 : Int32)]) (rest := []) hC hS hl.1 (rX11_isIn hp) cwX11_345 ysX11_isIn rfl rfl (Nat.le_of_ble_eq_true rfl) (rmk (by decide) (by decide)) dX11_nearest_11 (fun r_4 w_5 H locs hp hS => ?_)
    refine lv_if_ne (tgt := 19) hx hb dX11_nearest_14 (by decide) (fun c_6 => ?_) (fun c_6 => ?_)
    · have hp := hp.1 c_6
      refine lv_iconst hx hb dX11_nearest_19 kI_m1 ?_
      refine lv_istore_n (lv' := [(3, .int (-1 : Int32)), (0, .ref (g.2.2 300)), (1, .int x1), (2, .int x2)]) hx hb dX11_nearest_20 rfl hl (by decide) rfl (fun ls hl => ?_)
      refine lv_iconst hx hb dX11_nearest_21 kI_0 ?_
      refine lv_istore (lv' := [(4, .int (0 : Int32)), (3, .int (-1 : Int32)), (0, .ref (g.2.2 300)), (1, .int x1), (2, .int x2)]) hx hb dX11_nearest_22 hl (by decide) rfl (fun ls hl => ?_)
      refine lv_iconst hx hb dX11_nearest_24 kI_0 ?_
      refine lv_istore (lv' := [(5, .int (0 : Int32)), (4, .int (0 : Int32)), (3, .int (-1 : Int32)), (0, .ref (g.2.2 300)), (1, .int x1), (2, .int x2)]) hx hb dX11_nearest_25 hl (by decide) rfl (fun ls hl => ?_)
      obtain ⟨n9, hp⟩ := hp
      exact bX11_nearest_27 hC hR n9 x1 x2 (-1 : Int32) (0 : Int32) (0 : Int32) w_5 _ _ _ hp hS (lv_sub hl [3, 4, 5, 2, 1, 0] rfl)
    · have hp := hp.2 c_6
      refine lv_iconst hx hb dX11_nearest_17 kI_m1 ?_
      exact hR _ _ _ _ _ _ dX11_nearest_18 hp hS
def pX11_common_78 (post : Int32 → Wd → Prop) : Nat → Int32 → Int32 → Int32 → Wd → Prop
  | 0, _, _, _, _ => False
  | n + 1, x1, x2, x3, w => ((w.2.1 341 (217 : Int32).toNatClampNeg) ≤ x3 → (post x2 w)) ∧ (¬ (w.2.1 341 (217 : Int32).toNatClampNeg) ≤ x3 → ((¬ x1 = (2 : Int32) → (post x2 w)) ∧ (x1 = (2 : Int32) → (vp_in ((96 : Int32) + ((3 : Int32) * x3)) 221 ∧ ∀ x2_3, x2_3 = (x2 &&& (w.2.1 341 ((96 : Int32) + ((3 : Int32) * x3)).toNatClampNeg)) → ∀ x3_4, x3_4 = x3 + (1 : Int32) → pX11_common_78 post n x1 x2_3 x3_4 w))))
def pX11_common_76 (post : Int32 → Wd → Prop) (x1 : Int32) (x2 : Int32) (w : Wd) : Prop := ∃ n9, pX11_common_78 post n9 x1 x2 (0 : Int32) w
def pX11_common_69 (k31 : Int32 → Int32 → Int32 → Wd → Prop) (post : Int32 → Wd → Prop) (x1 : Int32) (x3 : Int32) (t0 : Int32) (w : Wd) : Prop := ∀ x3_1, x3_1 = x3 + (1 : Int32) → k31 x1 t0 x3_1 w
def pX11_common_31 (post : Int32 → Wd → Prop) : Nat → Int32 → Int32 → Int32 → Wd → Prop
  | 0, _, _, _, _ => False
  | n + 1, x1, x2, x3, w => ((w.2.1 341 (216 : Int32).toNatClampNeg) ≤ x3 → (pX11_common_76 post x1 x2 w)) ∧ (¬ (w.2.1 341 (216 : Int32).toNatClampNeg) ≤ x3 → (((2 : Int32) ≤ x1 → (pX11_common_76 post x1 x2 w)) ∧ (¬ (2 : Int32) ≤ x1 → ((¬ x1 = 0 → (pX11_rowOf (fun r_4 w_5 => pX11_common_69 (pX11_common_31 post n) post x1 x3 (x2 ||| r_4) w_5) x3 w)) ∧ (x1 = 0 → (pX11_rowOf (fun r_6 w_7 => pX11_common_69 (pX11_common_31 post n) post x1 x3 (x2 &&& r_6) w_7) x3 w))))))
def pX11_common_28 (post : Int32 → Wd → Prop) (x1 : Int32) (t0 : Int32) (w : Wd) : Prop := ∃ n9, pX11_common_31 post n9 x1 t0 (0 : Int32) w
def pX11_common (post : Int32 → Wd → Prop) (x1 : Int32) (w : Wd) : Prop := pX11_isIn (fun r_1 w_2 => (¬ r_1 = 0 → ((¬ x1 = (1 : Int32) → (pX11_width (fun r_5 w_6 => pX11_common_28 post x1 (((1 : Int32) <<< (r_5 &&& 31)) - (1 : Int32)) w_6) w_2)) ∧ (x1 = (1 : Int32) → (pX11_common_28 post x1 (0 : Int32) w_2)))) ∧ (r_1 = 0 → (post (-1 : Int32) w_2))) x1 (0 : Int32) (2 : Int32) w
set_option maxHeartbeats 4000000 in
set_option maxRecDepth 100000 in
theorem bX11_common_78 {p : Program} {l : Launch} {e : Env} {s : State} {m : MethodId} {args : Array Value} {below : List Frame} {meth : Method} {c : Code} {Q : State → Prop} {A : Nat → Prop} {g : Gw} {post : Int32 → Wd → Prop}  (hC : Cx p s m args c cX11_common RX11 4 g) (hR : RtI tabM p l e (rk 2) s m args below meth c Q cX11_common A g post)  : ∀ (n : Nat) (x1 : Int32) (x2 : Int32) (x3 : Int32) (w : Wd) (H : Heap) (locs : List Loc) (ls : Array Slot), pX11_common_78 post n x1 x2 x3 w → St tabM A s.heap g w H locs → lv_has ls 4 [(0, .ref (g.2.2 300)), (1, .int x1), (2, .int x2), (3, .int x3)] → W p l e (rk 2) s m args below meth c H locs 0 0 Q (F0 m 78 ls []) := by
  have hx := hC.1
  have hb := hC.2.1
  intro n
  induction n with
  | zero =>
    intro x1 x2 x3 w H locs ls hp hS hl
    exact False.elim hp
  | succ n ih =>
    intro x1 x2 x3 w H locs ls hp hS hl
    unfold pX11_common_78 at hp
    refine lv_iload_n hx hb dX11_common_78 rfl (lv_at hl 3 rfl) ?_
    refine lv_aload_n hx hb dX11_common_79 rfl (lv_at hl 0 rfl) ?_
    refine G_300_40 hC hS m274 dX11_common_80 ?_
    refine lv_sipush hx hb dX11_common_83 kS_217 ?_
    refine La_341 hC hS (by unfold vp_in; decide) dX11_common_86 ?_
    refine lv_icmp_ge (tgt := 115) hx hb dX11_common_87 (by decide) (fun c_1 => ?_) (fun c_1 => ?_)
    · have hp := hp.1 c_1
      refine lv_iload_n hx hb dX11_common_115 rfl (lv_at hl 2 rfl) ?_
      exact hR _ _ _ _ _ _ dX11_common_116 hp hS
    · have hp := hp.2 c_1
      refine lv_iload_n hx hb dX11_common_90 rfl (lv_at hl 1 rfl) ?_
      refine lv_iconst hx hb dX11_common_91 kI_2 ?_
      refine lv_icmp_ne (tgt := 115) hx hb dX11_common_92 (by decide) (fun c_2 => ?_) (fun c_2 => ?_)
      · have hp := hp.1 c_2
        refine lv_iload_n hx hb dX11_common_115 rfl (lv_at hl 2 rfl) ?_
        exact hR _ _ _ _ _ _ dX11_common_116 hp hS
      · have hp := hp.2 c_2
        refine lv_iload_n hx hb dX11_common_95 rfl (lv_at hl 2 rfl) ?_
        refine lv_aload_n hx hb dX11_common_96 rfl (lv_at hl 0 rfl) ?_
        refine G_300_40 hC hS m274 dX11_common_97 ?_
        refine lv_bipush hx hb dX11_common_100 kB_96 ?_
        refine lv_iconst hx hb dX11_common_102 kI_3 ?_
        refine lv_iload_n hx hb dX11_common_103 rfl (lv_at hl 3 rfl) ?_
        refine lv_imul hx hb dX11_common_104 ?_
        refine lv_iadd hx hb dX11_common_105 ?_
        refine La_341 hC hS hp.1 dX11_common_106 ?_
        have hp := hp.2
        refine lv_iand hx hb dX11_common_107 ?_
        refine lv_topi (fun x2_3 ex2_3 => ?_)
        have hp := hp x2_3 ex2_3
        refine lv_istore_n (lv' := [(2, .int x2_3), (0, .ref (g.2.2 300)), (1, .int x1), (3, .int x3)]) hx hb dX11_common_108 rfl hl (by decide) rfl (fun ls hl => ?_)
        obtain ⟨x3_4, ex3_4⟩ : ∃ y : Int32, y = x3 + (1 : Int32) := ⟨_, rfl⟩
        have hp := hp x3_4 ex3_4
        refine lv_iinc (v := x3_4) (lv' := [(3, .int x3_4), (2, .int x2_3), (0, .ref (g.2.2 300)), (1, .int x1)]) hx hb dX11_common_109 hl (k := 3) rfl (by rw [ex3_4]; rfl) (by decide) rfl (fun ls hl => ?_)
        refine lv_goto (tgt := 78) hx hb dX11_common_112 (by decide) ?_
        exact ih x1 x2_3 x3_4 w _ _ _ hp hS (lv_sub hl [2, 3, 1, 0] rfl)
set_option maxHeartbeats 4000000 in
set_option maxRecDepth 100000 in
theorem bX11_common_76 {p : Program} {l : Launch} {e : Env} {s : State} {m : MethodId} {args : Array Value} {below : List Frame} {meth : Method} {c : Code} {Q : State → Prop} {A : Nat → Prop} {g : Gw} {post : Int32 → Wd → Prop}  (hC : Cx p s m args c cX11_common RX11 4 g) (hR : RtI tabM p l e (rk 2) s m args below meth c Q cX11_common A g post)  : ∀ (x1 : Int32) (x2 : Int32) (w : Wd) (H : Heap) (locs : List Loc) (ls : Array Slot), pX11_common_76 post x1 x2 w → St tabM A s.heap g w H locs → lv_has ls 4 [(0, .ref (g.2.2 300)), (1, .int x1), (2, .int x2)] → W p l e (rk 2) s m args below meth c H locs 0 0 Q (F0 m 76 ls []) := by
  have hx := hC.1
  have hb := hC.2.1
  intro x1 x2 w H locs ls hp hS hl
  unfold pX11_common_76 at hp
  refine lv_iconst hx hb dX11_common_76 kI_0 ?_
  refine lv_istore_n (lv' := [(3, .int (0 : Int32)), (0, .ref (g.2.2 300)), (1, .int x1), (2, .int x2)]) hx hb dX11_common_77 rfl hl (by decide) rfl (fun ls hl => ?_)
  obtain ⟨n9, hp⟩ := hp
  exact bX11_common_78 hC hR n9 x1 x2 (0 : Int32) w _ _ _ hp hS (lv_sub hl [1, 2, 3, 0] rfl)
set_option maxHeartbeats 4000000 in
set_option maxRecDepth 100000 in
theorem bX11_common_69 {p : Program} {l : Launch} {e : Env} {s : State} {m : MethodId} {args : Array Value} {below : List Frame} {meth : Method} {c : Code} {Q : State → Prop} {A : Nat → Prop} {g : Gw} {post : Int32 → Wd → Prop}  (hC : Cx p s m args c cX11_common RX11 4 g) (hR : RtI tabM p l e (rk 2) s m args below meth c Q cX11_common A g post)  {k31 : Int32 → Int32 → Int32 → Wd → Prop} (hk31 : ∀ (x1 : Int32) (x2 : Int32) (x3 : Int32) (w : Wd) (H : Heap) (locs : List Loc) (ls : Array Slot), k31 x1 x2 x3 w → St tabM A s.heap g w H locs → lv_has ls 4 [(0, .ref (g.2.2 300)), (1, .int x1), (2, .int x2), (3, .int x3)] → W p l e (rk 2) s m args below meth c H locs 0 0 Q (F0 m 31 ls [])) : ∀ (x1 : Int32) (x3 : Int32) (t0 : Int32) (w : Wd) (H : Heap) (locs : List Loc) (ls : Array Slot), pX11_common_69 k31 post x1 x3 t0 w → St tabM A s.heap g w H locs → lv_has ls 4 [(0, .ref (g.2.2 300)), (1, .int x1), (3, .int x3)] → W p l e (rk 2) s m args below meth c H locs 0 0 Q (F0 m 69 ls [.int t0]) := by
  have hx := hC.1
  have hb := hC.2.1
  intro x1 x3 t0 w H locs ls hp hS hl
  unfold pX11_common_69 at hp
  refine lv_istore_n (lv' := [(2, .int t0), (0, .ref (g.2.2 300)), (1, .int x1), (3, .int x3)]) hx hb dX11_common_69 rfl hl (by decide) rfl (fun ls hl => ?_)
  obtain ⟨x3_1, ex3_1⟩ : ∃ y : Int32, y = x3 + (1 : Int32) := ⟨_, rfl⟩
  have hp := hp x3_1 ex3_1
  refine lv_iinc (v := x3_1) (lv' := [(3, .int x3_1), (2, .int t0), (0, .ref (g.2.2 300)), (1, .int x1)]) hx hb dX11_common_70 hl (k := 3) rfl (by rw [ex3_1]; rfl) (by decide) rfl (fun ls hl => ?_)
  refine lv_goto (tgt := 31) hx hb dX11_common_73 (by decide) ?_
  exact hk31 x1 t0 x3_1 w _ _ _ hp hS (lv_sub hl [2, 3, 1, 0] rfl)
set_option maxHeartbeats 4000000 in
set_option maxRecDepth 100000 in
theorem bX11_common_31 {p : Program} {l : Launch} {e : Env} {s : State} {m : MethodId} {args : Array Value} {below : List Frame} {meth : Method} {c : Code} {Q : State → Prop} {A : Nat → Prop} {g : Gw} {post : Int32 → Wd → Prop}  (hC : Cx p s m args c cX11_common RX11 4 g) (hR : RtI tabM p l e (rk 2) s m args below meth c Q cX11_common A g post)  : ∀ (n : Nat) (x1 : Int32) (x2 : Int32) (x3 : Int32) (w : Wd) (H : Heap) (locs : List Loc) (ls : Array Slot), pX11_common_31 post n x1 x2 x3 w → St tabM A s.heap g w H locs → lv_has ls 4 [(0, .ref (g.2.2 300)), (1, .int x1), (2, .int x2), (3, .int x3)] → W p l e (rk 2) s m args below meth c H locs 0 0 Q (F0 m 31 ls []) := by
  have hx := hC.1
  have hb := hC.2.1
  intro n
  induction n with
  | zero =>
    intro x1 x2 x3 w H locs ls hp hS hl
    exact False.elim hp
  | succ n ih =>
    intro x1 x2 x3 w H locs ls hp hS hl
    unfold pX11_common_31 at hp
    refine lv_iload_n hx hb dX11_common_31 rfl (lv_at hl 3 rfl) ?_
    refine lv_aload_n hx hb dX11_common_32 rfl (lv_at hl 0 rfl) ?_
    refine G_300_40 hC hS m274 dX11_common_33 ?_
    refine lv_sipush hx hb dX11_common_36 kS_216 ?_
    refine La_341 hC hS (by unfold vp_in; decide) dX11_common_39 ?_
    refine lv_icmp_ge (tgt := 76) hx hb dX11_common_40 (by decide) (fun c_1 => ?_) (fun c_1 => ?_)
    · have hp := hp.1 c_1
      exact bX11_common_76 hC hR x1 x2 w _ _ _ hp hS (lv_sub hl [0, 1, 2] rfl)
    · have hp := hp.2 c_1
      refine lv_iload_n hx hb dX11_common_43 rfl (lv_at hl 1 rfl) ?_
      refine lv_iconst hx hb dX11_common_44 kI_2 ?_
      refine lv_icmp_ge (tgt := 76) hx hb dX11_common_45 (by decide) (fun c_2 => ?_) (fun c_2 => ?_)
      · have hp := hp.1 c_2
        exact bX11_common_76 hC hR x1 x2 w _ _ _ hp hS (lv_sub hl [0, 1, 2] rfl)
      · have hp := hp.2 c_2
        refine lv_iload_n hx hb dX11_common_48 rfl (lv_at hl 1 rfl) ?_
        refine lv_if_ne (tgt := 62) hx hb dX11_common_49 (by decide) (fun c_3 => ?_) (fun c_3 => ?_)
        · have hp := hp.1 c_3
          refine lv_iload_n hx hb dX11_common_62 rfl (lv_at hl 2 rfl) ?_
          refine lv_aload_n hx hb dX11_common_63 rfl (lv_at hl 0 rfl) ?_
          refine lv_iload_n hx hb dX11_common_64 rfl (lv_at hl 3 rfl) ?_
          refine q_cvI (As := [.int x3]) (rest := [.int x2]) hC hS hl.1 (rX11_rowOf hp) cwX11_392 yvX11_rowOf (rcv_300 hC hS) rfl rfl (Nat.le_of_ble_eq_true rfl) (rmk (by decide) (by decide)) dX11_common_65 (fun r_4 w_5 H locs hp hS => ?_)
          refine lv_ior hx hb dX11_common_68 ?_
          exact bX11_common_69 hC hR ih x1 x3 (x2 ||| r_4) w_5 _ _ _ hp hS (lv_sub hl [0, 1, 3] rfl)
        · have hp := hp.2 c_3
          refine lv_iload_n hx hb dX11_common_52 rfl (lv_at hl 2 rfl) ?_
          refine lv_aload_n hx hb dX11_common_53 rfl (lv_at hl 0 rfl) ?_
          refine lv_iload_n hx hb dX11_common_54 rfl (lv_at hl 3 rfl) ?_
          refine q_cvI (As := [.int x3]) (rest := [.int x2]) hC hS hl.1 (rX11_rowOf hp) cwX11_392 yvX11_rowOf (rcv_300 hC hS) rfl rfl (Nat.le_of_ble_eq_true rfl) (rmk (by decide) (by decide)) dX11_common_55 (fun r_6 w_7 H locs hp hS => ?_)
          refine lv_iand hx hb dX11_common_58 ?_
          refine lv_goto (tgt := 69) hx hb dX11_common_59 (by decide) ?_
          exact bX11_common_69 hC hR ih x1 x3 (x2 &&& r_6) w_7 _ _ _ hp hS (lv_sub hl [0, 1, 3] rfl)
set_option maxHeartbeats 4000000 in
set_option maxRecDepth 100000 in
theorem bX11_common_28 {p : Program} {l : Launch} {e : Env} {s : State} {m : MethodId} {args : Array Value} {below : List Frame} {meth : Method} {c : Code} {Q : State → Prop} {A : Nat → Prop} {g : Gw} {post : Int32 → Wd → Prop}  (hC : Cx p s m args c cX11_common RX11 4 g) (hR : RtI tabM p l e (rk 2) s m args below meth c Q cX11_common A g post)  : ∀ (x1 : Int32) (t0 : Int32) (w : Wd) (H : Heap) (locs : List Loc) (ls : Array Slot), pX11_common_28 post x1 t0 w → St tabM A s.heap g w H locs → lv_has ls 4 [(0, .ref (g.2.2 300)), (1, .int x1)] → W p l e (rk 2) s m args below meth c H locs 0 0 Q (F0 m 28 ls [.int t0]) := by
  have hx := hC.1
  have hb := hC.2.1
  intro x1 t0 w H locs ls hp hS hl
  unfold pX11_common_28 at hp
  refine lv_istore_n (lv' := [(2, .int t0), (0, .ref (g.2.2 300)), (1, .int x1)]) hx hb dX11_common_28 rfl hl (by decide) rfl (fun ls hl => ?_)
  refine lv_iconst hx hb dX11_common_29 kI_0 ?_
  refine lv_istore_n (lv' := [(3, .int (0 : Int32)), (2, .int t0), (0, .ref (g.2.2 300)), (1, .int x1)]) hx hb dX11_common_30 rfl hl (by decide) rfl (fun ls hl => ?_)
  obtain ⟨n9, hp⟩ := hp
  exact bX11_common_31 hC hR n9 x1 t0 (0 : Int32) w _ _ _ hp hS (lv_sub hl [2, 3, 1, 0] rfl)
set_option maxHeartbeats 4000000 in
set_option maxRecDepth 100000 in
theorem rX11_common {l : Launch} {g : Gw} {w : Wd} {post : Int32 → Wd → Prop}   {x1 : Int32} (hp : pX11_common post x1 w) : MtI tabM l yX11_common cX11_common 4 (some .int) 2 g w [.ref (g.2.2 300), .int x1] post := by
  refine q_entI tabM_nd (by decide) rfl (Nat.le_of_ble_eq_true rfl) ?_
  intro p e s m args below meth c A Q ls hC hR hS hl
  have hx := hC.1
  have hb := hC.2.1
  have hl : lv_has ls 4 [(0, .ref (g.2.2 300)), (1, .int x1)] := hl
  unfold pX11_common at hp
  refine lv_iload_n hx hb dX11_common_0 rfl (lv_at hl 1 rfl) ?_
  refine lv_iconst hx hb dX11_common_1 kI_0 ?_
  refine lv_iconst hx hb dX11_common_2 kI_2 ?_
  refine q_csI (As := [.int x1, .int (0 : Int32), .int (2 : Int32)]) (rest := []) hC hS hl.1 (rX11_isIn hp) cwX11_345 ysX11_isIn rfl rfl (Nat.le_of_ble_eq_true rfl) (rmk (by decide) (by decide)) dX11_common_3 (fun r_1 w_2 H locs hp hS => ?_)
  refine lv_if_ne (tgt := 11) hx hb dX11_common_6 (by decide) (fun c_3 => ?_) (fun c_3 => ?_)
  · have hp := hp.1 c_3
    refine lv_iload_n hx hb dX11_common_11 rfl (lv_at hl 1 rfl) ?_
    refine lv_iconst hx hb dX11_common_12 kI_1 ?_
    refine lv_icmp_ne (tgt := 20) hx hb dX11_common_13 (by decide) (fun c_4 => ?_) (fun c_4 => ?_)
    · have hp := hp.1 c_4
      refine lv_iconst hx hb dX11_common_20 kI_1 ?_
      refine lv_aload_n hx hb dX11_common_21 rfl (lv_at hl 0 rfl) ?_
      refine q_cvI (As := []) (rest := [.int (1 : Int32)]) hC hS hl.1 (rX11_width hp) cwX11_342 yvX11_width (rcv_300 hC hS) rfl rfl (Nat.le_of_ble_eq_true rfl) (rmk (by decide) (by decide)) dX11_common_22 (fun r_5 w_6 H locs hp hS => ?_)
      refine lv_ishl hx hb dX11_common_25 ?_
      refine lv_iconst hx hb dX11_common_26 kI_1 ?_
      refine lv_isub hx hb dX11_common_27 ?_
      exact bX11_common_28 hC hR x1 (((1 : Int32) <<< (r_5 &&& 31)) - (1 : Int32)) w_6 _ _ _ hp hS (lv_sub hl [0, 1] rfl)
    · have hp := hp.2 c_4
      refine lv_iconst hx hb dX11_common_16 kI_0 ?_
      refine lv_goto (tgt := 28) hx hb dX11_common_17 (by decide) ?_
      exact bX11_common_28 hC hR x1 (0 : Int32) w_2 _ _ _ hp hS (lv_sub hl [0, 1] rfl)
  · have hp := hp.2 c_3
    refine lv_iconst hx hb dX11_common_9 kI_m1 ?_
    exact hR _ _ _ _ _ _ dX11_common_10 hp hS
def pX11_alike_62 (k15 : Int32 → Int32 → Int32 → Int32 → Wd → Prop) (post : Int32 → Wd → Prop) (x1 : Int32) (x2 : Int32) (x3 : Int32) (x4 : Int32) (w : Wd) : Prop := ∀ x4_1, x4_1 = x4 + (1 : Int32) → k15 x1 x2 x3 x4_1 w
def pX11_alike_51 (k15 : Int32 → Int32 → Int32 → Int32 → Wd → Prop) (post : Int32 → Wd → Prop) (x1 : Int32) (x2 : Int32) (x3 : Int32) (x4 : Int32) (t0 : Int32) (w : Wd) : Prop := (¬ t0 = x1 → (pX11_alike_62 k15 post x1 x2 x3 x4 w)) ∧ (t0 = x1 → (∀ x3_2, x3_2 = (x3 ||| ((1 : Int32) <<< (x4 &&& 31))) → pX11_alike_62 k15 post x1 x2 x3_2 x4 w))
def pX11_alike_15 (post : Int32 → Wd → Prop) : Nat → Int32 → Int32 → Int32 → Int32 → Wd → Prop
  | 0, _, _, _, _, _ => False
  | n + 1, x1, x2, x3, x4, w => ((w.2.1 341 (216 : Int32).toNatClampNeg) ≤ x4 → (post x3 w)) ∧ (¬ (w.2.1 341 (216 : Int32).toNatClampNeg) ≤ x4 → ((x2 = 0 → (pX11_rowOf (fun r_3 w_4 => pX11_alike_51 (pX11_alike_15 post n) post x1 x2 x3 x4 r_3 w_4) x4 w)) ∧ (¬ x2 = 0 → (pX11_rowOf (fun r_5 w_6 => pX11_turnedRow (fun r_7 w_8 => pX11_alike_51 (pX11_alike_15 post n) post x1 x2 x3 x4 r_7 w_8) r_5 w_6) x4 w))))
def pX11_alike (post : Int32 → Wd → Prop) (x1 : Int32) (x2 : Int32) (w : Wd) : Prop := pX11_isRow (fun r_1 w_2 => (¬ r_1 = 0 → (∃ n9, pX11_alike_15 post n9 x1 x2 (0 : Int32) (0 : Int32) w_2)) ∧ (r_1 = 0 → (post (-1 : Int32) w_2))) x1 w
set_option maxHeartbeats 4000000 in
set_option maxRecDepth 100000 in
theorem bX11_alike_62 {p : Program} {l : Launch} {e : Env} {s : State} {m : MethodId} {args : Array Value} {below : List Frame} {meth : Method} {c : Code} {Q : State → Prop} {A : Nat → Prop} {g : Gw} {post : Int32 → Wd → Prop}  (hC : Cx p s m args c cX11_alike RX11 5 g) (hR : RtI tabM p l e (rk 3) s m args below meth c Q cX11_alike A g post)  {k15 : Int32 → Int32 → Int32 → Int32 → Wd → Prop} (hk15 : ∀ (x1 : Int32) (x2 : Int32) (x3 : Int32) (x4 : Int32) (w : Wd) (H : Heap) (locs : List Loc) (ls : Array Slot), k15 x1 x2 x3 x4 w → St tabM A s.heap g w H locs → lv_has ls 5 [(0, .ref (g.2.2 300)), (1, .int x1), (2, .int x2), (3, .int x3), (4, .int x4)] → W p l e (rk 3) s m args below meth c H locs 0 0 Q (F0 m 15 ls [])) : ∀ (x1 : Int32) (x2 : Int32) (x3 : Int32) (x4 : Int32) (w : Wd) (H : Heap) (locs : List Loc) (ls : Array Slot), pX11_alike_62 k15 post x1 x2 x3 x4 w → St tabM A s.heap g w H locs → lv_has ls 5 [(0, .ref (g.2.2 300)), (1, .int x1), (2, .int x2), (3, .int x3), (4, .int x4)] → W p l e (rk 3) s m args below meth c H locs 0 0 Q (F0 m 62 ls []) := by
  have hx := hC.1
  have hb := hC.2.1
  intro x1 x2 x3 x4 w H locs ls hp hS hl
  unfold pX11_alike_62 at hp
  obtain ⟨x4_1, ex4_1⟩ : ∃ y : Int32, y = x4 + (1 : Int32) := ⟨_, rfl⟩
  have hp := hp x4_1 ex4_1
  refine lv_iinc (v := x4_1) (lv' := [(4, .int x4_1), (0, .ref (g.2.2 300)), (1, .int x1), (2, .int x2), (3, .int x3)]) hx hb dX11_alike_62 hl (k := 4) rfl (by rw [ex4_1]; rfl) (by decide) rfl (fun ls hl => ?_)
  refine lv_goto (tgt := 15) hx hb dX11_alike_65 (by decide) ?_
  exact hk15 x1 x2 x3 x4_1 w _ _ _ hp hS (lv_sub hl [1, 2, 3, 4, 0] rfl)
set_option maxHeartbeats 4000000 in
set_option maxRecDepth 100000 in
theorem bX11_alike_51 {p : Program} {l : Launch} {e : Env} {s : State} {m : MethodId} {args : Array Value} {below : List Frame} {meth : Method} {c : Code} {Q : State → Prop} {A : Nat → Prop} {g : Gw} {post : Int32 → Wd → Prop}  (hC : Cx p s m args c cX11_alike RX11 5 g) (hR : RtI tabM p l e (rk 3) s m args below meth c Q cX11_alike A g post)  {k15 : Int32 → Int32 → Int32 → Int32 → Wd → Prop} (hk15 : ∀ (x1 : Int32) (x2 : Int32) (x3 : Int32) (x4 : Int32) (w : Wd) (H : Heap) (locs : List Loc) (ls : Array Slot), k15 x1 x2 x3 x4 w → St tabM A s.heap g w H locs → lv_has ls 5 [(0, .ref (g.2.2 300)), (1, .int x1), (2, .int x2), (3, .int x3), (4, .int x4)] → W p l e (rk 3) s m args below meth c H locs 0 0 Q (F0 m 15 ls [])) : ∀ (x1 : Int32) (x2 : Int32) (x3 : Int32) (x4 : Int32) (t0 : Int32) (w : Wd) (H : Heap) (locs : List Loc) (ls : Array Slot), pX11_alike_51 k15 post x1 x2 x3 x4 t0 w → St tabM A s.heap g w H locs → lv_has ls 5 [(0, .ref (g.2.2 300)), (1, .int x1), (2, .int x2), (3, .int x3), (4, .int x4)] → W p l e (rk 3) s m args below meth c H locs 0 0 Q (F0 m 51 ls [.int t0]) := by
  have hx := hC.1
  have hb := hC.2.1
  intro x1 x2 x3 x4 t0 w H locs ls hp hS hl
  unfold pX11_alike_51 at hp
  refine lv_iload_n hx hb dX11_alike_51 rfl (lv_at hl 1 rfl) ?_
  refine lv_icmp_ne (tgt := 62) hx hb dX11_alike_52 (by decide) (fun c_1 => ?_) (fun c_1 => ?_)
  · have hp := hp.1 c_1
    exact bX11_alike_62 hC hR hk15 x1 x2 x3 x4 w _ _ _ hp hS (lv_sub hl [0, 1, 2, 3, 4] rfl)
  · have hp := hp.2 c_1
    refine lv_iload_n hx hb dX11_alike_55 rfl (lv_at hl 3 rfl) ?_
    refine lv_iconst hx hb dX11_alike_56 kI_1 ?_
    refine lv_iload hx hb dX11_alike_57 (lv_at hl 4 rfl) ?_
    refine lv_ishl hx hb dX11_alike_59 ?_
    refine lv_ior hx hb dX11_alike_60 ?_
    refine lv_topi (fun x3_2 ex3_2 => ?_)
    have hp := hp x3_2 ex3_2
    refine lv_istore_n (lv' := [(3, .int x3_2), (0, .ref (g.2.2 300)), (1, .int x1), (2, .int x2), (4, .int x4)]) hx hb dX11_alike_61 rfl hl (by decide) rfl (fun ls hl => ?_)
    exact bX11_alike_62 hC hR hk15 x1 x2 x3_2 x4 w _ _ _ hp hS (lv_sub hl [1, 2, 3, 0, 4] rfl)
set_option maxHeartbeats 4000000 in
set_option maxRecDepth 100000 in
theorem bX11_alike_15 {p : Program} {l : Launch} {e : Env} {s : State} {m : MethodId} {args : Array Value} {below : List Frame} {meth : Method} {c : Code} {Q : State → Prop} {A : Nat → Prop} {g : Gw} {post : Int32 → Wd → Prop}  (hC : Cx p s m args c cX11_alike RX11 5 g) (hR : RtI tabM p l e (rk 3) s m args below meth c Q cX11_alike A g post)  : ∀ (n : Nat) (x1 : Int32) (x2 : Int32) (x3 : Int32) (x4 : Int32) (w : Wd) (H : Heap) (locs : List Loc) (ls : Array Slot), pX11_alike_15 post n x1 x2 x3 x4 w → St tabM A s.heap g w H locs → lv_has ls 5 [(0, .ref (g.2.2 300)), (1, .int x1), (2, .int x2), (3, .int x3), (4, .int x4)] → W p l e (rk 3) s m args below meth c H locs 0 0 Q (F0 m 15 ls []) := by
  have hx := hC.1
  have hb := hC.2.1
  intro n
  induction n with
  | zero =>
    intro x1 x2 x3 x4 w H locs ls hp hS hl
    exact False.elim hp
  | succ n ih =>
    intro x1 x2 x3 x4 w H locs ls hp hS hl
    unfold pX11_alike_15 at hp
    refine lv_iload hx hb dX11_alike_15 (lv_at hl 4 rfl) ?_
    refine lv_aload_n hx hb dX11_alike_17 rfl (lv_at hl 0 rfl) ?_
    refine G_300_40 hC hS m274 dX11_alike_18 ?_
    refine lv_sipush hx hb dX11_alike_21 kS_216 ?_
    refine La_341 hC hS (by unfold vp_in; decide) dX11_alike_24 ?_
    refine lv_icmp_ge (tgt := 68) hx hb dX11_alike_25 (by decide) (fun c_1 => ?_) (fun c_1 => ?_)
    · have hp := hp.1 c_1
      refine lv_iload_n hx hb dX11_alike_68 rfl (lv_at hl 3 rfl) ?_
      exact hR _ _ _ _ _ _ dX11_alike_69 hp hS
    · have hp := hp.2 c_1
      refine lv_iload_n hx hb dX11_alike_28 rfl (lv_at hl 2 rfl) ?_
      refine lv_if_eq (tgt := 45) hx hb dX11_alike_29 (by decide) (fun c_2 => ?_) (fun c_2 => ?_)
      · have hp := hp.1 c_2
        refine lv_aload_n hx hb dX11_alike_45 rfl (lv_at hl 0 rfl) ?_
        refine lv_iload hx hb dX11_alike_46 (lv_at hl 4 rfl) ?_
        refine q_cvI (As := [.int x4]) (rest := []) hC hS hl.1 (rX11_rowOf hp) cwX11_392 yvX11_rowOf (rcv_300 hC hS) rfl rfl (Nat.le_of_ble_eq_true rfl) (rmk (by decide) (by decide)) dX11_alike_48 (fun r_3 w_4 H locs hp hS => ?_)
        exact bX11_alike_51 hC hR ih x1 x2 x3 x4 r_3 w_4 _ _ _ hp hS (lv_sub hl [0, 1, 2, 3, 4] rfl)
      · have hp := hp.2 c_2
        refine lv_aload_n hx hb dX11_alike_32 rfl (lv_at hl 0 rfl) ?_
        refine lv_aload_n hx hb dX11_alike_33 rfl (lv_at hl 0 rfl) ?_
        refine lv_iload hx hb dX11_alike_34 (lv_at hl 4 rfl) ?_
        refine q_cvI (As := [.int x4]) (rest := [.ref (g.2.2 300)]) hC hS hl.1 (rX11_rowOf hp) cwX11_392 yvX11_rowOf (rcv_300 hC hS) rfl rfl (Nat.le_of_ble_eq_true rfl) (rmk (by decide) (by decide)) dX11_alike_36 (fun r_5 w_6 H locs hp hS => ?_)
        refine q_cvI (As := [.int r_5]) (rest := []) hC hS hl.1 (rX11_turnedRow hp) cwX11_349 yvX11_turnedRow (rcv_300 hC hS) rfl rfl (Nat.le_of_ble_eq_true rfl) (rmk (by decide) (by decide)) dX11_alike_39 (fun r_7 w_8 H locs hp hS => ?_)
        refine lv_goto (tgt := 51) hx hb dX11_alike_42 (by decide) ?_
        exact bX11_alike_51 hC hR ih x1 x2 x3 x4 r_7 w_8 _ _ _ hp hS (lv_sub hl [0, 1, 2, 3, 4] rfl)
set_option maxHeartbeats 4000000 in
set_option maxRecDepth 100000 in
theorem rX11_alike {l : Launch} {g : Gw} {w : Wd} {post : Int32 → Wd → Prop}   {x1 : Int32} {x2 : Int32} (hp : pX11_alike post x1 x2 w) : MtI tabM l yX11_alike cX11_alike 5 (some .int) 3 g w [.ref (g.2.2 300), .int x1, .int x2] post := by
  refine q_entI tabM_nd (by decide) rfl (Nat.le_of_ble_eq_true rfl) ?_
  intro p e s m args below meth c A Q ls hC hR hS hl
  have hx := hC.1
  have hb := hC.2.1
  have hl : lv_has ls 5 [(0, .ref (g.2.2 300)), (1, .int x1), (2, .int x2)] := hl
  unfold pX11_alike at hp
  refine lv_aload_n hx hb dX11_alike_0 rfl (lv_at hl 0 rfl) ?_
  refine lv_iload_n hx hb dX11_alike_1 rfl (lv_at hl 1 rfl) ?_
  refine q_cvI (As := [.int x1]) (rest := []) hC hS hl.1 (rX11_isRow hp) cwX11_358 yvX11_isRow (rcv_300 hC hS) rfl rfl (Nat.le_of_ble_eq_true rfl) (rmk (by decide) (by decide)) dX11_alike_2 (fun r_1 w_2 H locs hp hS => ?_)
  refine lv_if_ne (tgt := 10) hx hb dX11_alike_5 (by decide) (fun c_3 => ?_) (fun c_3 => ?_)
  · have hp := hp.1 c_3
    refine lv_iconst hx hb dX11_alike_10 kI_0 ?_
    refine lv_istore_n (lv' := [(3, .int (0 : Int32)), (0, .ref (g.2.2 300)), (1, .int x1), (2, .int x2)]) hx hb dX11_alike_11 rfl hl (by decide) rfl (fun ls hl => ?_)
    refine lv_iconst hx hb dX11_alike_12 kI_0 ?_
    refine lv_istore (lv' := [(4, .int (0 : Int32)), (3, .int (0 : Int32)), (0, .ref (g.2.2 300)), (1, .int x1), (2, .int x2)]) hx hb dX11_alike_13 hl (by decide) rfl (fun ls hl => ?_)
    obtain ⟨n9, hp⟩ := hp
    exact bX11_alike_15 hC hR n9 x1 x2 (0 : Int32) (0 : Int32) w_2 _ _ _ hp hS (lv_sub hl [2, 3, 4, 1, 0] rfl)
  · have hp := hp.2 c_3
    refine lv_iconst hx hb dX11_alike_8 kI_m1 ?_
    exact hR _ _ _ _ _ _ dX11_alike_9 hp hS
def pX11_doTell_52 (k16 : Int32 → Int32 → Int32 → Wd → Prop) (post : Int32 → Wd → Prop) (x1 : Int32) (x2 : Int32) (x3 : Int32) (w : Wd) : Prop := ∀ x3_1, x3_1 = x3 + (1 : Int32) → k16 x1 x2 x3_1 w
def pX11_doTell_16 (k2 : Int32 → Int32 → Wd → Prop) (post : Int32 → Wd → Prop) : Nat → Int32 → Int32 → Int32 → Wd → Prop
  | 0, _, _, _, _ => False
  | n + 1, x1, x2, x3, w => (x2 ≤ x3 → (∀ x2_2, x2_2 = x2 + (1 : Int32) → k2 x1 x2_2 w)) ∧ (¬ x2 ≤ x3 → (pX11_rowOf (fun r_3 w_4 => pX11_rowOf (fun r_5 w_6 => (r_3 = r_5 → (pX11_doTell_52 (pX11_doTell_16 k2 post n) post x1 x2 x3 w_6)) ∧ (¬ r_3 = r_5 → (pX11_rowOf (fun r_8 w_9 => pX11_rowOf (fun r_10 w_11 => (¬ ((r_8 ^^^ r_10) &&& x1) = 0 → (pX11_doTell_52 (pX11_doTell_16 k2 post n) post x1 x2 x3 w_11)) ∧ (((r_8 ^^^ r_10) &&& x1) = 0 → (post (0 : Int32) w_11))) x3 w_9) x2 w_6))) x3 w_4) x2 w))
def pX11_doTell_2 (post : Int32 → Wd → Prop) : Nat → Int32 → Int32 → Wd → Prop
  | 0, _, _, _ => False
  | n + 1, x1, x2, w => ((w.2.1 341 (216 : Int32).toNatClampNeg) ≤ x2 → (post (1 : Int32) w)) ∧ (¬ (w.2.1 341 (216 : Int32).toNatClampNeg) ≤ x2 → (∃ n9, pX11_doTell_16 (pX11_doTell_2 post n) post n9 x1 x2 (0 : Int32) w))
def pX11_doTell (post : Int32 → Wd → Prop) (x1 : Int32) (w : Wd) : Prop := ∃ n9, pX11_doTell_2 post n9 x1 (0 : Int32) w
set_option maxHeartbeats 4000000 in
set_option maxRecDepth 100000 in
theorem bX11_doTell_52 {p : Program} {l : Launch} {e : Env} {s : State} {m : MethodId} {args : Array Value} {below : List Frame} {meth : Method} {c : Code} {Q : State → Prop} {A : Nat → Prop} {g : Gw} {post : Int32 → Wd → Prop}  (hC : Cx p s m args c cX11_doTell RX11 4 g) (hR : RtZ tabM p l e (rk 2) s m args below meth c Q cX11_doTell A g post)  {k16 : Int32 → Int32 → Int32 → Wd → Prop} (hk16 : ∀ (x1 : Int32) (x2 : Int32) (x3 : Int32) (w : Wd) (H : Heap) (locs : List Loc) (ls : Array Slot), k16 x1 x2 x3 w → St tabM A s.heap g w H locs → lv_has ls 4 [(0, .ref (g.2.2 300)), (1, .int x1), (2, .int x2), (3, .int x3)] → W p l e (rk 2) s m args below meth c H locs 0 0 Q (F0 m 16 ls [])) : ∀ (x1 : Int32) (x2 : Int32) (x3 : Int32) (w : Wd) (H : Heap) (locs : List Loc) (ls : Array Slot), pX11_doTell_52 k16 post x1 x2 x3 w → St tabM A s.heap g w H locs → lv_has ls 4 [(0, .ref (g.2.2 300)), (1, .int x1), (2, .int x2), (3, .int x3)] → W p l e (rk 2) s m args below meth c H locs 0 0 Q (F0 m 52 ls []) := by
  have hx := hC.1
  have hb := hC.2.1
  intro x1 x2 x3 w H locs ls hp hS hl
  unfold pX11_doTell_52 at hp
  obtain ⟨x3_1, ex3_1⟩ : ∃ y : Int32, y = x3 + (1 : Int32) := ⟨_, rfl⟩
  have hp := hp x3_1 ex3_1
  refine lv_iinc (v := x3_1) (lv' := [(3, .int x3_1), (0, .ref (g.2.2 300)), (1, .int x1), (2, .int x2)]) hx hb dX11_doTell_52 hl (k := 3) rfl (by rw [ex3_1]; rfl) (by decide) rfl (fun ls hl => ?_)
  refine lv_goto (tgt := 16) hx hb dX11_doTell_55 (by decide) ?_
  exact hk16 x1 x2 x3_1 w _ _ _ hp hS (lv_sub hl [1, 2, 3, 0] rfl)
set_option maxHeartbeats 4000000 in
set_option maxRecDepth 100000 in
theorem bX11_doTell_16 {p : Program} {l : Launch} {e : Env} {s : State} {m : MethodId} {args : Array Value} {below : List Frame} {meth : Method} {c : Code} {Q : State → Prop} {A : Nat → Prop} {g : Gw} {post : Int32 → Wd → Prop}  (hC : Cx p s m args c cX11_doTell RX11 4 g) (hR : RtZ tabM p l e (rk 2) s m args below meth c Q cX11_doTell A g post)  {k2 : Int32 → Int32 → Wd → Prop} (hk2 : ∀ (x1 : Int32) (x2 : Int32) (w : Wd) (H : Heap) (locs : List Loc) (ls : Array Slot), k2 x1 x2 w → St tabM A s.heap g w H locs → lv_has ls 4 [(0, .ref (g.2.2 300)), (1, .int x1), (2, .int x2)] → W p l e (rk 2) s m args below meth c H locs 0 0 Q (F0 m 2 ls [])) : ∀ (n : Nat) (x1 : Int32) (x2 : Int32) (x3 : Int32) (w : Wd) (H : Heap) (locs : List Loc) (ls : Array Slot), pX11_doTell_16 k2 post n x1 x2 x3 w → St tabM A s.heap g w H locs → lv_has ls 4 [(0, .ref (g.2.2 300)), (1, .int x1), (2, .int x2), (3, .int x3)] → W p l e (rk 2) s m args below meth c H locs 0 0 Q (F0 m 16 ls []) := by
  have hx := hC.1
  have hb := hC.2.1
  intro n
  induction n with
  | zero =>
    intro x1 x2 x3 w H locs ls hp hS hl
    exact False.elim hp
  | succ n ih =>
    intro x1 x2 x3 w H locs ls hp hS hl
    unfold pX11_doTell_16 at hp
    refine lv_iload_n hx hb dX11_doTell_16 rfl (lv_at hl 3 rfl) ?_
    refine lv_iload_n hx hb dX11_doTell_17 rfl (lv_at hl 2 rfl) ?_
    refine lv_icmp_ge (tgt := 58) hx hb dX11_doTell_18 (by decide) (fun c_1 => ?_) (fun c_1 => ?_)
    · have hp := hp.1 c_1
      obtain ⟨x2_2, ex2_2⟩ : ∃ y : Int32, y = x2 + (1 : Int32) := ⟨_, rfl⟩
      have hp := hp x2_2 ex2_2
      refine lv_iinc (v := x2_2) (lv' := [(2, .int x2_2), (0, .ref (g.2.2 300)), (1, .int x1), (3, .int x3)]) hx hb dX11_doTell_58 hl (k := 2) rfl (by rw [ex2_2]; rfl) (by decide) rfl (fun ls hl => ?_)
      refine lv_goto (tgt := 2) hx hb dX11_doTell_61 (by decide) ?_
      exact hk2 x1 x2_2 w _ _ _ hp hS (lv_sub hl [1, 2, 0] rfl)
    · have hp := hp.2 c_1
      refine lv_aload_n hx hb dX11_doTell_21 rfl (lv_at hl 0 rfl) ?_
      refine lv_iload_n hx hb dX11_doTell_22 rfl (lv_at hl 2 rfl) ?_
      refine q_cvI (As := [.int x2]) (rest := []) hC hS hl.1 (rX11_rowOf hp) cwX11_392 yvX11_rowOf (rcv_300 hC hS) rfl rfl (Nat.le_of_ble_eq_true rfl) (rmk (by decide) (by decide)) dX11_doTell_23 (fun r_3 w_4 H locs hp hS => ?_)
      refine lv_aload_n hx hb dX11_doTell_26 rfl (lv_at hl 0 rfl) ?_
      refine lv_iload_n hx hb dX11_doTell_27 rfl (lv_at hl 3 rfl) ?_
      refine q_cvI (As := [.int x3]) (rest := [.int r_3]) hC hS hl.1 (rX11_rowOf hp) cwX11_392 yvX11_rowOf (rcv_300 hC hS) rfl rfl (Nat.le_of_ble_eq_true rfl) (rmk (by decide) (by decide)) dX11_doTell_28 (fun r_5 w_6 H locs hp hS => ?_)
      refine lv_icmp_eq (tgt := 52) hx hb dX11_doTell_31 (by decide) (fun c_7 => ?_) (fun c_7 => ?_)
      · have hp := hp.1 c_7
        exact bX11_doTell_52 hC hR ih x1 x2 x3 w_6 _ _ _ hp hS (lv_sub hl [0, 1, 2, 3] rfl)
      · have hp := hp.2 c_7
        refine lv_aload_n hx hb dX11_doTell_34 rfl (lv_at hl 0 rfl) ?_
        refine lv_iload_n hx hb dX11_doTell_35 rfl (lv_at hl 2 rfl) ?_
        refine q_cvI (As := [.int x2]) (rest := []) hC hS hl.1 (rX11_rowOf hp) cwX11_392 yvX11_rowOf (rcv_300 hC hS) rfl rfl (Nat.le_of_ble_eq_true rfl) (rmk (by decide) (by decide)) dX11_doTell_36 (fun r_8 w_9 H locs hp hS => ?_)
        refine lv_aload_n hx hb dX11_doTell_39 rfl (lv_at hl 0 rfl) ?_
        refine lv_iload_n hx hb dX11_doTell_40 rfl (lv_at hl 3 rfl) ?_
        refine q_cvI (As := [.int x3]) (rest := [.int r_8]) hC hS hl.1 (rX11_rowOf hp) cwX11_392 yvX11_rowOf (rcv_300 hC hS) rfl rfl (Nat.le_of_ble_eq_true rfl) (rmk (by decide) (by decide)) dX11_doTell_41 (fun r_10 w_11 H locs hp hS => ?_)
        refine lv_ixor hx hb dX11_doTell_44 ?_
        refine lv_iload_n hx hb dX11_doTell_45 rfl (lv_at hl 1 rfl) ?_
        refine lv_iand hx hb dX11_doTell_46 ?_
        refine lv_if_ne (tgt := 52) hx hb dX11_doTell_47 (by decide) (fun c_12 => ?_) (fun c_12 => ?_)
        · have hp := hp.1 c_12
          exact bX11_doTell_52 hC hR ih x1 x2 x3 w_11 _ _ _ hp hS (lv_sub hl [0, 1, 2, 3] rfl)
        · have hp := hp.2 c_12
          refine lv_iconst hx hb dX11_doTell_50 kI_0 ?_
          exact hR _ _ _ _ _ _ dX11_doTell_51 (by decide) hp hS
set_option maxHeartbeats 4000000 in
set_option maxRecDepth 100000 in
theorem bX11_doTell_2 {p : Program} {l : Launch} {e : Env} {s : State} {m : MethodId} {args : Array Value} {below : List Frame} {meth : Method} {c : Code} {Q : State → Prop} {A : Nat → Prop} {g : Gw} {post : Int32 → Wd → Prop}  (hC : Cx p s m args c cX11_doTell RX11 4 g) (hR : RtZ tabM p l e (rk 2) s m args below meth c Q cX11_doTell A g post)  : ∀ (n : Nat) (x1 : Int32) (x2 : Int32) (w : Wd) (H : Heap) (locs : List Loc) (ls : Array Slot), pX11_doTell_2 post n x1 x2 w → St tabM A s.heap g w H locs → lv_has ls 4 [(0, .ref (g.2.2 300)), (1, .int x1), (2, .int x2)] → W p l e (rk 2) s m args below meth c H locs 0 0 Q (F0 m 2 ls []) := by
  have hx := hC.1
  have hb := hC.2.1
  intro n
  induction n with
  | zero =>
    intro x1 x2 w H locs ls hp hS hl
    exact False.elim hp
  | succ n ih =>
    intro x1 x2 w H locs ls hp hS hl
    unfold pX11_doTell_2 at hp
    refine lv_iload_n hx hb dX11_doTell_2 rfl (lv_at hl 2 rfl) ?_
    refine lv_aload_n hx hb dX11_doTell_3 rfl (lv_at hl 0 rfl) ?_
    refine G_300_40 hC hS m274 dX11_doTell_4 ?_
    refine lv_sipush hx hb dX11_doTell_7 kS_216 ?_
    refine La_341 hC hS (by unfold vp_in; decide) dX11_doTell_10 ?_
    refine lv_icmp_ge (tgt := 64) hx hb dX11_doTell_11 (by decide) (fun c_1 => ?_) (fun c_1 => ?_)
    · have hp := hp.1 c_1
      refine lv_iconst hx hb dX11_doTell_64 kI_1 ?_
      exact hR _ _ _ _ _ _ dX11_doTell_65 (by decide) hp hS
    · have hp := hp.2 c_1
      refine lv_iconst hx hb dX11_doTell_14 kI_0 ?_
      refine lv_istore_n (lv' := [(3, .int (0 : Int32)), (0, .ref (g.2.2 300)), (1, .int x1), (2, .int x2)]) hx hb dX11_doTell_15 rfl hl (by decide) rfl (fun ls hl => ?_)
      obtain ⟨n9, hp⟩ := hp
      exact bX11_doTell_16 hC hR ih n9 x1 x2 (0 : Int32) w _ _ _ hp hS (lv_sub hl [1, 2, 3, 0] rfl)
set_option maxHeartbeats 4000000 in
set_option maxRecDepth 100000 in
theorem rX11_doTell {l : Launch} {g : Gw} {w : Wd} {post : Int32 → Wd → Prop}   {x1 : Int32} (hp : pX11_doTell post x1 w) : MtI tabM l yX11_doTell cX11_doTell 4 (some .boolean) 2 g w [.ref (g.2.2 300), .int x1] post := by
  refine q_entZ tabM_nd (by decide) rfl (Nat.le_of_ble_eq_true rfl) ?_
  intro p e s m args below meth c A Q ls hC hR hS hl
  have hx := hC.1
  have hb := hC.2.1
  have hl : lv_has ls 4 [(0, .ref (g.2.2 300)), (1, .int x1)] := hl
  unfold pX11_doTell at hp
  refine lv_iconst hx hb dX11_doTell_0 kI_0 ?_
  refine lv_istore_n (lv' := [(2, .int (0 : Int32)), (0, .ref (g.2.2 300)), (1, .int x1)]) hx hb dX11_doTell_1 rfl hl (by decide) rfl (fun ls hl => ?_)
  obtain ⟨n9, hp⟩ := hp
  exact bX11_doTell_2 hC hR n9 x1 (0 : Int32) w _ _ _ hp hS (lv_sub hl [1, 2, 0] rfl)
