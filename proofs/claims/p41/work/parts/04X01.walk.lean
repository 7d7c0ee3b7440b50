def pX7_hasName_2 (post : Int32 → Wd → Prop) (b : Bool) : Nat → Int64 → Int32 → Wd → Prop
  | 0, _, _, _ => False
  | n + 1, x1, x3, w => ((w.1 (rl b) 2) ≤ x3 → (post (0 : Int32) w)) ∧ (¬ (w.1 (rl b) 2) ≤ x3 → (((4 : Int32) ≤ x3 → (post (0 : Int32) w)) ∧ (¬ (4 : Int32) ≤ x3 → (vp_in x3 4 ∧ (¬ (lg_cmp (w.2.2.2.1 ((rl b) + 7) x3.toNatClampNeg) x1) = 0 → (∀ x3_4, x3_4 = x3 + (1 : Int32) → pX7_hasName_2 post b n x1 x3_4 w)) ∧ ((lg_cmp (w.2.2.2.1 ((rl b) + 7) x3.toNatClampNeg) x1) = 0 → (post (1 : Int32) w))))))
def pX7_hasName (post : Int32 → Wd → Prop) (b : Bool) (x1 : Int64) (w : Wd) : Prop := ∃ n9, pX7_hasName_2 post b n9 x1 (0 : Int32) w
set_option maxHeartbeats 4000000 in
set_option maxRecDepth 100000 in
theorem bX7_hasName_2 {p : Program} {l : Launch} {e : Env} {s : State} {m : MethodId} {args : Array Value} {below : List Frame} {meth : Method} {c : Code} {Q : State → Prop} {A : Nat → Prop} {g : Gw} {post : Int32 → Wd → Prop} {b : Bool} (hC : Cx p s m args c cX7_hasName RX7 4 g) (hR : RtZ tabX p l e (rk 1) s m args below meth c Q cX7_hasName A g post)  : ∀ (n : Nat) (x1 : Int64) (x3 : Int32) (w : Wd) (H : Heap) (locs : List Loc) (ls : Array Slot), pX7_hasName_2 post b n x1 x3 w → St tabX A s.heap g w H locs → lv_has ls 4 [(0, .ref (g.2.2 (rl b))), (1, .long x1), (3, .int x3)] → W p l e (rk 1) s m args below meth c H locs 0 0 Q (F0 m 2 ls []) := by
  have hx := hC.1
  have hb := hC.2.1
  intro n
  induction n with
  | zero =>
    intro x1 x3 w H locs ls hp hS hl
    exact False.elim hp
  | succ n ih =>
    intro x1 x3 w H locs ls hp hS hl
    unfold pX7_hasName_2 at hp
    refine lv_iload_n hx hb dX7_hasName_2 rfl (lv_at hl 2 rfl) ?_
    refine lv_aload_n hx hb dX7_hasName_3 rfl (lv_at hl 0 rfl) ?_
    refine GR_2 hC hS m139 dX7_hasName_4 ?_
    refine lv_icmp_ge (tgt := 38) hx hb dX7_hasName_7 (by decide) (fun c_1 => ?_) (fun c_1 => ?_)
    · have hp := hp.1 c_1
      refine lv_iconst hx hb dX7_hasName_38 kI_0 ?_
      exact hR _ _ _ _ _ _ dX7_hasName_39 (by decide) hp hS
    · have hp := hp.2 c_1
      refine lv_iload_n hx hb dX7_hasName_10 rfl (lv_at hl 2 rfl) ?_
      refine lv_aload_n hx hb dX7_hasName_11 rfl (lv_at hl 0 rfl) ?_
      refine GR_6 hC hS m128 dX7_hasName_12 ?_
      refine NaR_6 hC hS dX7_hasName_15 ?_
      refine lv_icmp_ge (tgt := 38) hx hb dX7_hasName_16 (by decide) (fun c_2 => ?_) (fun c_2 => ?_)
      · have hp := hp.1 c_2
        refine lv_iconst hx hb dX7_hasName_38 kI_0 ?_
        exact hR _ _ _ _ _ _ dX7_hasName_39 (by decide) hp hS
      · have hp := hp.2 c_2
        refine lv_aload_n hx hb dX7_hasName_19 rfl (lv_at hl 0 rfl) ?_
        refine GR_6 hC hS m128 dX7_hasName_20 ?_
        refine lv_iload_n hx hb dX7_hasName_23 rfl (lv_at hl 2 rfl) ?_
        refine LaR_6 hC hS hp.1 dX7_hasName_24 ?_
        have hp := hp.2
        refine lv_lload_n hx hb dX7_hasName_25 rfl (lv_at hl 1 rfl) ?_
        refine W.lcmp hx hb dX7_hasName_26 ?_
        refine lv_if_ne (tgt := 32) hx hb dX7_hasName_27 (by decide) (fun c_3 => ?_) (fun c_3 => ?_)
        · have hp := hp.1 c_3
          obtain ⟨x3_4, ex3_4⟩ : ∃ y : Int32, y = x3 + (1 : Int32) := ⟨_, rfl⟩
          have hp := hp x3_4 ex3_4
          refine lv_iinc (v := x3_4) (lv' := [(3, .int x3_4), (0, .ref (g.2.2 (rl b))), (1, .long x1)]) hx hb dX7_hasName_32 hl (k := 2) rfl (by rw [ex3_4]; rfl) (by decide) rfl (fun ls hl => ?_)
          refine lv_goto (tgt := 2) hx hb dX7_hasName_35 (by decide) ?_
          exact ih x1 x3_4 w _ _ _ hp hS (lv_sub hl [1, 2, 0] rfl)
        · have hp := hp.2 c_3
          refine lv_iconst hx hb dX7_hasName_30 kI_1 ?_
          exact hR _ _ _ _ _ _ dX7_hasName_31 (by decide) hp hS
set_option maxHeartbeats 4000000 in
set_option maxRecDepth 100000 in
theorem rX7_hasName {l : Launch} {g : Gw} {w : Wd} {post : Int32 → Wd → Prop} {b : Bool}  {x1 : Int64} (hp : pX7_hasName post b x1 w) : MtI tabX l yX7_hasName cX7_hasName 4 (some .boolean) 1 g w [.ref (g.2.2 (rl b)), .long x1] post := by
  refine q_entZ tabX_nd (by decide) rfl (Nat.le_of_ble_eq_true rfl) ?_
  intro p e s m args below meth c A Q ls hC hR hS hl
  have hx := hC.1
  have hb := hC.2.1
  have hl : lv_has ls 4 [(0, .ref (g.2.2 (rl b))), (1, .long x1)] := hl
  unfold pX7_hasName at hp
  refine lv_iconst hx hb dX7_hasName_0 kI_0 ?_
  refine lv_istore_n (lv' := [(3, .int (0 : Int32)), (0, .ref (g.2.2 (rl b))), (1, .long x1)]) hx hb dX7_hasName_1 rfl hl (by decide) rfl (fun ls hl => ?_)
  obtain ⟨n9, hp⟩ := hp
  exact bX7_hasName_2 hC hR n9 x1 (0 : Int32) w _ _ _ hp hS (lv_sub hl [1, 2, 0] rfl)
def pX6_readHand_53 (post : Wd → Prop) : Nat → Int32 → Wd → Prop
  | 0, _, _ => False
  | n + 1, x1, w => ((12 : Int32) < x1 → (post w)) ∧ (¬ (12 : Int32) < x1 → (pX6_expect (fun w_2 => ∀ w_3, w_3 = sI w_2 30 8 (0 : Int32) → dX6_readPart 80 (fun w_4 => pX7_endFormula (fun w_5 => ∀ x1_6, x1_6 = x1 + (1 : Int32) → pX6_readHand_53 post n x1_6 w_5) (w_4.2.2.2.2 2) w_4) (0 : Int32) (0 : Int32) w_3) x1 w))
def pX6_readHand (post : Wd → Prop)  (w : Wd) : Prop := ((w.1 30 5) = (20 : Int32) → (pX7_hasName (fun r_2 w_3 => (r_2 = 0 → (pX7_addHand (fun w_5 => pX6_take (fun w_6 => ∃ n9, pX6_readHand_53 post n9 (11 : Int32) w_6) w_5) (w_3.2.2.2.2 2) (w_3.2.2.1 30 6) w_3)) ∧ (¬ r_2 = 0 → (pX6_fail (fun w_7 => post w_7) (3 : Int32) w_3))) (w.2.2.2.2 2) (w.2.2.1 30 6) w)) ∧ (¬ (w.1 30 5) = (20 : Int32) → (pX6_fail (fun w_8 => post w_8) (2 : Int32) w))
set_option maxHeartbeats 4000000 in
set_option maxRecDepth 100000 in
theorem bX6_readHand_53 {p : Program} {l : Launch} {e : Env} {s : State} {m : MethodId} {args : Array Value} {below : List Frame} {meth : Method} {c : Code} {Q : State → Prop} {A : Nat → Prop} {g : Gw} {post : Wd → Prop}  (hC : Cx p s m args c cX6_readHand RX6 2 g) (hR : RtV tabX p l e (rk 85) s m args below meth c Q cX6_readHand A g post)  : ∀ (n : Nat) (x1 : Int32) (w : Wd) (H : Heap) (locs : List Loc) (ls : Array Slot), pX6_readHand_53 post n x1 w → St tabX A s.heap g w H locs → lv_has ls 2 [(0, .ref (g.2.2 30)), (1, .int x1)] → W p l e (rk 85) s m args below meth c H locs 0 0 Q (F0 m 53 ls []) := by
  have hx := hC.1
  have hb := hC.2.1
  intro n
  induction n with
  | zero =>
    intro x1 w H locs ls hp hS hl
    exact False.elim hp
  | succ n ih =>
    intro x1 w H locs ls hp hS hl
    unfold pX6_readHand_53 at hp
    refine lv_iload_n hx hb dX6_readHand_53 rfl (lv_at hl 1 rfl) ?_
    refine lv_bipush hx hb dX6_readHand_54 kB_12 ?_
    refine lv_icmp_gt (tgt := 88) hx hb dX6_readHand_56 (by decide) (fun c_1 => ?_) (fun c_1 => ?_)
    · have hp := hp.1 c_1
      exact hR _ _ _ _ _ dX6_readHand_88 hp hS
    · have hp := hp.2 c_1
      refine lv_aload_n hx hb dX6_readHand_59 rfl (lv_at hl 0 rfl) ?_
      refine lv_iload_n hx hb dX6_readHand_60 rfl (lv_at hl 1 rfl) ?_
      refine q_cvV (As := [.int x1]) (rest := []) hC hS hl.1 (rX6_expect hp) cwX6_73 yvX6_expect (rcv_30 hC hS) rfl rfl (Nat.le_of_ble_eq_true rfl) (rmk (by decide) (by decide)) dX6_readHand_61 (fun w_2 H locs hp hS => ?_)
      refine lv_aload_n hx hb dX6_readHand_64 rfl (lv_at hl 0 rfl) ?_
      refine lv_iconst hx hb dX6_readHand_65 kI_0 ?_
      refine P_30_8 hC hS m427 dX6_readHand_66 (fun w_3 H locs ew_3 hS => ?_)
      have hp := hp w_3 ew_3
      refine lv_aload_n hx hb dX6_readHand_69 rfl (lv_at hl 0 rfl) ?_
      refine lv_iconst hx hb dX6_readHand_70 kI_0 ?_
      refine lv_iconst hx hb dX6_readHand_71 kI_0 ?_
      refine q_cvV (As := [.int (0 : Int32), .int (0 : Int32)]) (rest := []) hC hS hl.1 (RX6_readPart hp) cwX6_97 yvX6_readPart (rcv_30 hC hS) rfl rfl (Nat.le_of_ble_eq_true rfl) (rmk (by decide) (by decide)) dX6_readHand_72 (fun w_4 H locs hp hS => ?_)
      refine lv_aload_n hx hb dX6_readHand_75 rfl (lv_at hl 0 rfl) ?_
      refine G_30_1 hC hS m150 dX6_readHand_76 ?_
      refine q_cvV (As := []) (rest := []) hC hS hl.1 (rX7_endFormula hp) cwX6_101 yvX7_endFormula (rcvR hC hS) rfl rfl (Nat.le_of_ble_eq_true rfl) (rmk (by decide) (by decide)) dX6_readHand_79 (fun w_5 H locs hp hS => ?_)
      obtain ⟨x1_6, ex1_6⟩ : ∃ y : Int32, y = x1 + (1 : Int32) := ⟨_, rfl⟩
      have hp := hp x1_6 ex1_6
      refine lv_iinc (v := x1_6) (lv' := [(1, .int x1_6), (0, .ref (g.2.2 30))]) hx hb dX6_readHand_82 hl (k := 1) rfl (by rw [ex1_6]; rfl) (by decide) rfl (fun ls hl => ?_)
      refine lv_goto (tgt := 53) hx hb dX6_readHand_85 (by decide) ?_
      exact ih x1_6 w_5 _ _ _ hp hS (lv_sub hl [1, 0] rfl)
set_option maxHeartbeats 4000000 in
set_option maxRecDepth 100000 in
theorem rX6_readHand {l : Launch} {g : Gw} {w : Wd} {post : Wd → Prop}    (hp : pX6_readHand post  w) : MtV tabX l yX6_readHand cX6_readHand 2 none 85 g w [.ref (g.2.2 30)] post := by
  refine q_entV tabX_nd (by decide) rfl (Nat.le_of_ble_eq_true rfl) ?_
  intro p e s m args below meth c A Q ls hC hR hS hl
  have hx := hC.1
  have hb := hC.2.1
  have hl : lv_has ls 2 [(0, .ref (g.2.2 30))] := hl
  unfold pX6_readHand at hp
  refine lv_aload_n hx hb dX6_readHand_0 rfl (lv_at hl 0 rfl) ?_
  refine G_30_5 hC hS m387 dX6_readHand_1 ?_
  refine lv_bipush hx hb dX6_readHand_4 kB_20 ?_
  refine lv_icmp_eq (tgt := 15) hx hb dX6_readHand_6 (by decide) (fun c_1 => ?_) (fun c_1 => ?_)
  · have hp := hp.1 c_1
    refine lv_aload_n hx hb dX6_readHand_15 rfl (lv_at hl 0 rfl) ?_
    refine G_30_1 hC hS m150 dX6_readHand_16 ?_
    refine lv_aload_n hx hb dX6_readHand_19 rfl (lv_at hl 0 rfl) ?_
    refine G_30_6 hC hS m396 dX6_readHand_20 ?_
    refine q_cvI (As := [.long (w.2.2.1 30 6)]) (rest := []) hC hS hl.1 (rX7_hasName hp) cwX6_86 yvX7_hasName (rcvR hC hS) rfl rfl (Nat.le_of_ble_eq_true rfl) (rmk (by decide) (by decide)) dX6_readHand_23 (fun r_2 w_3 H locs hp hS => ?_)
    refine lv_if_eq (tgt := 35) hx hb dX6_readHand_26 (by decide) (fun c_4 => ?_) (fun c_4 => ?_)
    · have hp := hp.1 c_4
      refine lv_aload_n hx hb dX6_readHand_35 rfl (lv_at hl 0 rfl) ?_
      refine G_30_1 hC hS m150 dX6_readHand_36 ?_
      refine lv_aload_n hx hb dX6_readHand_39 rfl (lv_at hl 0 rfl) ?_
      refine G_30_6 hC hS m396 dX6_readHand_40 ?_
      refine q_cvV (As := [.long (w_3.2.2.1 30 6)]) (rest := []) hC hS hl.1 (rX7_addHand hp) cwX6_90 yvX7_addHand (rcvR hC hS) rfl rfl (Nat.le_of_ble_eq_true rfl) (rmk (by decide) (by decide)) dX6_readHand_43 (fun w_5 H locs hp hS => ?_)
      refine lv_aload_n hx hb dX6_readHand_46 rfl (lv_at hl 0 rfl) ?_
      refine q_cvV (As := []) (rest := []) hC hS hl.1 (rX6_take hp) cwX6_37 yvX6_take (rcv_30 hC hS) rfl rfl (Nat.le_of_ble_eq_true rfl) (rmk (by decide) (by decide)) dX6_readHand_47 (fun w_6 H locs hp hS => ?_)
      refine lv_bipush hx hb dX6_readHand_50 kB_11 ?_
      refine lv_istore_n (lv' := [(1, .int (11 : Int32)), (0, .ref (g.2.2 30))]) hx hb dX6_readHand_52 rfl hl (by decide) rfl (fun ls hl => ?_)
      obtain ⟨n9, hp⟩ := hp
      exact bX6_readHand_53 hC hR n9 (11 : Int32) w_6 _ _ _ hp hS (lv_sub hl [1, 0] rfl)
    · have hp := hp.2 c_4
      refine lv_aload_n hx hb dX6_readHand_29 rfl (lv_at hl 0 rfl) ?_
      refine lv_iconst hx hb dX6_readHand_30 kI_3 ?_
      refine q_cvV (As := [.int (3 : Int32)]) (rest := []) hC hS hl.1 (rX6_fail hp) cwX6_50 yvX6_fail (rcv_30 hC hS) rfl rfl (Nat.le_of_ble_eq_true rfl) (rmk (by decide) (by decide)) dX6_readHand_31 (fun w_7 H locs hp hS => ?_)
      exact hR _ _ _ _ _ dX6_readHand_34 hp hS
  · have hp := hp.2 c_1
    refine lv_aload_n hx hb dX6_readHand_9 rfl (lv_at hl 0 rfl) ?_
    refine lv_iconst hx hb dX6_readHand_10 kI_2 ?_
    refine q_cvV (As := [.int (2 : Int32)]) (rest := []) hC hS hl.1 (rX6_fail hp) cwX6_50 yvX6_fail (rcv_30 hC hS) rfl rfl (Nat.le_of_ble_eq_true rfl) (rmk (by decide) (by decide)) dX6_readHand_11 (fun w_8 H locs hp hS => ?_)
    exact hR _ _ _ _ _ dX6_readHand_14 hp hS
def pX6_readLine (post : Wd → Prop)  (w : Wd) : Prop := ∀ x1_1, x1_1 = (w.1 30 5) → pX6_mayBegin (fun r_2 w_3 => (¬ r_2 = 0 → (∀ w_5, w_5 = sI w_3 30 7 ((w_3.1 30 7) ||| ((1 : Int32) <<< (x1_1 &&& 31))) → pX6_take (fun w_6 => (x1_1.toInt < 8 ∨ 13 < x1_1.toInt → (pX6_readNumber (fun r_8 w_9 => ∀ w_10, w_10 = sI w_9 (rl (w_6.2.2.2.2 2)) 4 r_8 → pX6_expect (fun w_11 => post w_11) (59 : Int32) w_10) (0 : Int32) (999 : Int32) w_6)) ∧ (x1_1.toInt = 8 → (pX6_readNumber (fun r_12 w_13 => ∀ w_14, w_14 = sI w_13 (rl (w_6.2.2.2.2 2)) 0 r_12 → pX6_expect (fun w_15 => post w_15) (59 : Int32) w_14) (1 : Int32) (12 : Int32) w_6)) ∧ (x1_1.toInt = 9 → (pX6_readFirst (fun w_16 => pX6_expect (fun w_17 => post w_17) (59 : Int32) w_16) w_6)) ∧ (x1_1.toInt = 10 → (pX6_readHand (fun w_18 => pX6_expect (fun w_19 => post w_19) (59 : Int32) w_18) w_6)) ∧ (x1_1.toInt = 11 → (pX6_readNumber (fun r_20 w_21 => ∀ w_22, w_22 = sI w_21 (rl (w_6.2.2.2.2 2)) 4 r_20 → pX6_expect (fun w_23 => post w_23) (59 : Int32) w_22) (0 : Int32) (999 : Int32) w_6)) ∧ (x1_1.toInt = 12 → (pX6_readNumber (fun r_24 w_25 => ∀ w_26, w_26 = sI w_25 (rl (w_6.2.2.2.2 2)) 4 r_24 → pX6_expect (fun w_27 => post w_27) (59 : Int32) w_26) (0 : Int32) (999 : Int32) w_6)) ∧ (x1_1.toInt = 13 → (pX6_readNumber (fun r_28 w_29 => ∀ w_30, w_30 = sI w_29 (rl (w_6.2.2.2.2 2)) 3 r_28 → pX6_expect (fun w_31 => post w_31) (59 : Int32) w_30) (0 : Int32) (999 : Int32) w_6))) w_5)) ∧ (r_2 = 0 → (pX6_fail (fun w_32 => post w_32) (2 : Int32) w_3))) x1_1 w
set_option maxHeartbeats 4000000 in
set_option maxRecDepth 100000 in
theorem rX6_readLine {l : Launch} {g : Gw} {w : Wd} {post : Wd → Prop}    (hp : pX6_readLine post  w) : MtV tabX l yX6_readLine cX6_readLine 2 none 86 g w [.ref (g.2.2 30)] post := by
  refine q_entV tabX_nd (by decide) rfl (Nat.le_of_ble_eq_true rfl) ?_
  intro p e s m args below meth c A Q ls hC hR hS hl
  have hx := hC.1
  have hb := hC.2.1
  have hl : lv_has ls 2 [(0, .ref (g.2.2 30))] := hl
  unfold pX6_readLine at hp
  refine lv_aload_n hx hb dX6_readLine_0 rfl (lv_at hl 0 rfl) ?_
  refine G_30_5 hC hS m387 dX6_readLine_1 ?_
  refine lv_topi (fun x1_1 ex1_1 => ?_)
  have hp := hp x1_1 ex1_1
  refine lv_istore_n (lv' := [(1, .int x1_1), (0, .ref (g.2.2 30))]) hx hb dX6_readLine_4 rfl hl (by decide) rfl (fun ls hl => ?_)
  refine lv_aload_n hx hb dX6_readLine_5 rfl (lv_at hl 1 rfl) ?_
  refine lv_iload_n hx hb dX6_readLine_6 rfl (lv_at hl 0 rfl) ?_
  refine q_cvI (As := [.int x1_1]) (rest := []) hC hS hl.1 (rX6_mayBegin hp) cwX6_46 yvX6_mayBegin (rcv_30 hC hS) rfl rfl (Nat.le_of_ble_eq_true rfl) (rmk (by decide) (by decide)) dX6_readLine_7 (fun r_2 w_3 H locs hp hS => ?_)
  refine lv_if_ne (tgt := 19) hx hb dX6_readLine_10 (by decide) (fun c_4 => ?_) (fun c_4 => ?_)
  · have hp := hp.1 c_4
    refine lv_aload_n hx hb dX6_readLine_19 rfl (lv_at hl 1 rfl) ?_
    refine lv_dup hx hb dX6_readLine_20 rfl ?_
    refine G_30_7 hC hS m385 dX6_readLine_21 ?_
    refine lv_iconst hx hb dX6_readLine_24 kI_1 ?_
    refine lv_iload_n hx hb dX6_readLine_25 rfl (lv_at hl 0 rfl) ?_
    refine lv_ishl hx hb dX6_readLine_26 ?_
    refine lv_ior hx hb dX6_readLine_27 ?_
    refine P_30_7 hC hS m385 dX6_readLine_28 (fun w_5 H locs ew_5 hS => ?_)
    have hp := hp w_5 ew_5
    refine lv_aload_n hx hb dX6_readLine_31 rfl (lv_at hl 1 rfl) ?_
    refine q_cvV (As := []) (rest := []) hC hS hl.1 (rX6_take hp) cwX6_37 yvX6_take (rcv_30 hC hS) rfl rfl (Nat.le_of_ble_eq_true rfl) (rmk (by decide) (by decide)) dX6_readLine_32 (fun w_6 H locs hp hS => ?_)
    refine lv_iload_n hx hb dX6_readLine_35 rfl (lv_at hl 0 rfl) ?_
    by_cases c_7 : x1_1.toInt < 8 ∨ 13 < x1_1.toInt
    · have hp := hp.1 c_7
      refine lv_tableOut (tgt := 125) hx hb dX6_readLine_36 c_7 (by decide) ?_
      refine lv_aload_n hx hb dX6_readLine_125 rfl (lv_at hl 1 rfl) ?_
      refine G_30_1 hC hS m150 dX6_readLine_126 ?_
      refine lv_aload_n hx hb dX6_readLine_129 rfl (lv_at hl 1 rfl) ?_
      refine lv_iconst hx hb dX6_readLine_130 kI_0 ?_
      refine lv_sipush hx hb dX6_readLine_131 kS_999 ?_
      refine q_cvI (As := [.int (0 : Int32), .int (999 : Int32)]) (rest := [.ref (g.2.2 (rl (w_6.2.2.2.2 2)))]) hC hS hl.1 (rX6_readNumber hp) cwX6_54 yvX6_readNumber (rcv_30 hC hS) rfl rfl (Nat.le_of_ble_eq_true rfl) (rmk (by decide) (by decide)) dX6_readLine_134 (fun r_8 w_9 H locs hp hS => ?_)
      refine PR_4 hC hS m403 dX6_readLine_137 (fun w_10 H locs ew_10 hS => ?_)
      have hp := hp w_10 ew_10
      refine lv_aload_n hx hb dX6_readLine_140 rfl (lv_at hl 1 rfl) ?_
      refine lv_bipush hx hb dX6_readLine_141 kB_59 ?_
      refine q_cvV (As := [.int (59 : Int32)]) (rest := []) hC hS hl.1 (rX6_expect hp) cwX6_73 yvX6_expect (rcv_30 hC hS) rfl rfl (Nat.le_of_ble_eq_true rfl) (rmk (by decide) (by decide)) dX6_readLine_143 (fun w_11 H locs hp hS => ?_)
      exact hR _ _ _ _ _ dX6_readLine_146 hp hS
    · have hp := hp.2
      have c_71 : ¬ x1_1.toInt < 8 := fun z => c_7 (Or.inl z)
      have c_72 : ¬ 13 < x1_1.toInt := fun z => c_7 (Or.inr z)
      rcases (show x1_1.toInt = 8 ∨ x1_1.toInt = 9 ∨ x1_1.toInt = 10 ∨ x1_1.toInt = 11 ∨ x1_1.toInt = 12 ∨ x1_1.toInt = 13 by omega) with c_73 | c_73 | c_73 | c_73 | c_73 | c_73
      · have hp := hp.1 c_73
        refine lv_tableIn (tgt := 76) hx hb dX6_readLine_36 c_71 c_72 (by rw [c_73]; rfl) (by decide) ?_
        refine lv_aload_n hx hb dX6_readLine_76 rfl (lv_at hl 1 rfl) ?_
        refine G_30_1 hC hS m150 dX6_readLine_77 ?_
        refine lv_aload_n hx hb dX6_readLine_80 rfl (lv_at hl 1 rfl) ?_
        refine lv_iconst hx hb dX6_readLine_81 kI_1 ?_
        refine lv_bipush hx hb dX6_readLine_82 kB_12 ?_
        refine q_cvI (As := [.int (1 : Int32), .int (12 : Int32)]) (rest := [.ref (g.2.2 (rl (w_6.2.2.2.2 2)))]) hC hS hl.1 (rX6_readNumber hp) cwX6_54 yvX6_readNumber (rcv_30 hC hS) rfl rfl (Nat.le_of_ble_eq_true rfl) (rmk (by decide) (by decide)) dX6_readLine_84 (fun r_12 w_13 H locs hp hS => ?_)
        refine PR_0 hC hS m401 dX6_readLine_87 (fun w_14 H locs ew_14 hS => ?_)
        have hp := hp w_14 ew_14
        refine lv_goto (tgt := 140) hx hb dX6_readLine_90 (by decide) ?_
        refine lv_aload_n hx hb dX6_readLine_140 rfl (lv_at hl 1 rfl) ?_
        refine lv_bipush hx hb dX6_readLine_141 kB_59 ?_
        refine q_cvV (As := [.int (59 : Int32)]) (rest := []) hC hS hl.1 (rX6_expect hp) cwX6_73 yvX6_expect (rcv_30 hC hS) rfl rfl (Nat.le_of_ble_eq_true rfl) (rmk (by decide) (by decide)) dX6_readLine_143 (fun w_15 H locs hp hS => ?_)
        exact hR _ _ _ _ _ dX6_readLine_146 hp hS
      · have hp := hp.2.1 c_73
        refine lv_tableIn (tgt := 93) hx hb dX6_readLine_36 c_71 c_72 (by rw [c_73]; rfl) (by decide) ?_
        refine lv_aload_n hx hb dX6_readLine_93 rfl (lv_at hl 1 rfl) ?_
        refine q_cvV (As := []) (rest := []) hC hS hl.1 (rX6_readFirst hp) cwX6_61 yvX6_readFirst (rcv_30 hC hS) rfl rfl (Nat.le_of_ble_eq_true rfl) (rmk (by decide) (by decide)) dX6_readLine_94 (fun w_16 H locs hp hS => ?_)
        refine lv_goto (tgt := 140) hx hb dX6_readLine_97 (by decide) ?_
        refine lv_aload_n hx hb dX6_readLine_140 rfl (lv_at hl 1 rfl) ?_
        refine lv_bipush hx hb dX6_readLine_141 kB_59 ?_
        refine q_cvV (As := [.int (59 : Int32)]) (rest := []) hC hS hl.1 (rX6_expect hp) cwX6_73 yvX6_expect (rcv_30 hC hS) rfl rfl (Nat.le_of_ble_eq_true rfl) (rmk (by decide) (by decide)) dX6_readLine_143 (fun w_17 H locs hp hS => ?_)
        exact hR _ _ _ _ _ dX6_readLine_146 hp hS
      · have hp := hp.2.2.1 c_73
        refine lv_tableIn (tgt := 100) hx hb dX6_readLine_36 c_71 c_72 (by rw [c_73]; rfl) (by decide) ?_
        refine lv_aload_n hx hb dX6_readLine_100 rfl (lv_at hl 1 rfl) ?_
        refine q_cvV (As := []) (rest := []) hC hS hl.1 (rX6_readHand hp) cwX6_64 yvX6_readHand (rcv_30 hC hS) rfl rfl (Nat.le_of_ble_eq_true rfl) (rmk (by decide) (by decide)) dX6_readLine_101 (fun w_18 H locs hp hS => ?_)
        refine lv_goto (tgt := 140) hx hb dX6_readLine_104 (by decide) ?_
        refine lv_aload_n hx hb dX6_readLine_140 rfl (lv_at hl 1 rfl) ?_
        refine lv_bipush hx hb dX6_readLine_141 kB_59 ?_
        refine q_cvV (As := [.int (59 : Int32)]) (rest := []) hC hS hl.1 (rX6_expect hp) cwX6_73 yvX6_expect (rcv_30 hC hS) rfl rfl (Nat.le_of_ble_eq_true rfl) (rmk (by decide) (by decide)) dX6_readLine_143 (fun w_19 H locs hp hS => ?_)
        exact hR _ _ _ _ _ dX6_readLine_146 hp hS
      · have hp := hp.2.2.2.1 c_73
        refine lv_tableIn (tgt := 125) hx hb dX6_readLine_36 c_71 c_72 (by rw [c_73]; rfl) (by decide) ?_
        refine lv_aload_n hx hb dX6_readLine_125 rfl (lv_at hl 1 rfl) ?_
        refine G_30_1 hC hS m150 dX6_readLine_126 ?_
        refine lv_aload_n hx hb dX6_readLine_129 rfl (lv_at hl 1 rfl) ?_
        refine lv_iconst hx hb dX6_readLine_130 kI_0 ?_
        refine lv_sipush hx hb dX6_readLine_131 kS_999 ?_
        refine q_cvI (As := [.int (0 : Int32), .int (999 : Int32)]) (rest := [.ref (g.2.2 (rl (w_6.2.2.2.2 2)))]) hC hS hl.1 (rX6_readNumber hp) cwX6_54 yvX6_readNumber (rcv_30 hC hS) rfl rfl (Nat.le_of_ble_eq_true rfl) (rmk (by decide) (by decide)) dX6_readLine_134 (fun r_20 w_21 H locs hp hS => ?_)
        refine PR_4 hC hS m403 dX6_readLine_137 (fun w_22 H locs ew_22 hS => ?_)
        have hp := hp w_22 ew_22
        refine lv_aload_n hx hb dX6_readLine_140 rfl (lv_at hl 1 rfl) ?_
        refine lv_bipush hx hb dX6_readLine_141 kB_59 ?_
        refine q_cvV (As := [.int (59 : Int32)]) (rest := []) hC hS hl.1 (rX6_expect hp) cwX6_73 yvX6_expect (rcv_30 hC hS) rfl rfl (Nat.le_of_ble_eq_true rfl) (rmk (by decide) (by decide)) dX6_readLine_143 (fun w_23 H locs hp hS => ?_)
        exact hR _ _ _ _ _ dX6_readLine_146 hp hS
      · have hp := hp.2.2.2.2.1 c_73
        refine lv_tableIn (tgt := 125) hx hb dX6_readLine_36 c_71 c_72 (by rw [c_73]; rfl) (by decide) ?_
        refine lv_aload_n hx hb dX6_readLine_125 rfl (lv_at hl 1 rfl) ?_
        refine G_30_1 hC hS m150 dX6_readLine_126 ?_
        refine lv_aload_n hx hb dX6_readLine_129 rfl (lv_at hl 1 rfl) ?_
        refine lv_iconst hx hb dX6_readLine_130 kI_0 ?_
        refine lv_sipush hx hb dX6_readLine_131 kS_999 ?_
        refine q_cvI (As := [.int (0 : Int32), .int (999 : Int32)]) (rest := [.ref (g.2.2 (rl (w_6.2.2.2.2 2)))]) hC hS hl.1 (rX6_readNumber hp) cwX6_54 yvX6_readNumber (rcv_30 hC hS) rfl rfl (Nat.le_of_ble_eq_true rfl) (rmk (by decide) (by decide)) dX6_readLine_134 (fun r_24 w_25 H locs hp hS => ?_)
        refine PR_4 hC hS m403 dX6_readLine_137 (fun w_26 H locs ew_26 hS => ?_)
        have hp := hp w_26 ew_26
        refine lv_aload_n hx hb dX6_readLine_140 rfl (lv_at hl 1 rfl) ?_
        refine lv_bipush hx hb dX6_readLine_141 kB_59 ?_
        refine q_cvV (As := [.int (59 : Int32)]) (rest := []) hC hS hl.1 (rX6_expect hp) cwX6_73 yvX6_expect (rcv_30 hC hS) rfl rfl (Nat.le_of_ble_eq_true rfl) (rmk (by decide) (by decide)) dX6_readLine_143 (fun w_27 H locs hp hS => ?_)
        exact hR _ _ _ _ _ dX6_readLine_146 hp hS
      · have hp := hp.2.2.2.2.2 c_73
        refine lv_tableIn (tgt := 107) hx hb dX6_readLine_36 c_71 c_72 (by rw [c_73]; rfl) (by decide) ?_
        refine lv_aload_n hx hb dX6_readLine_107 rfl (lv_at hl 1 rfl) ?_
        refine G_30_1 hC hS m150 dX6_readLine_108 ?_
        refine lv_aload_n hx hb dX6_readLine_111 rfl (lv_at hl 1 rfl) ?_
        refine lv_iconst hx hb dX6_readLine_112 kI_0 ?_
        refine lv_sipush hx hb dX6_readLine_113 kS_999 ?_
        refine q_cvI (As := [.int (0 : Int32), .int (999 : Int32)]) (rest := [.ref (g.2.2 (rl (w_6.2.2.2.2 2)))]) hC hS hl.1 (rX6_readNumber hp) cwX6_54 yvX6_readNumber (rcv_30 hC hS) rfl rfl (Nat.le_of_ble_eq_true rfl) (rmk (by decide) (by decide)) dX6_readLine_116 (fun r_28 w_29 H locs hp hS => ?_)
        refine PR_3 hC hS m402 dX6_readLine_119 (fun w_30 H locs ew_30 hS => ?_)
        have hp := hp w_30 ew_30
        refine lv_goto (tgt := 140) hx hb dX6_readLine_122 (by decide) ?_
        refine lv_aload_n hx hb dX6_readLine_140 rfl (lv_at hl 1 rfl) ?_
        refine lv_bipush hx hb dX6_readLine_141 kB_59 ?_
        refine q_cvV (As := [.int (59 : Int32)]) (rest := []) hC hS hl.1 (rX6_expect hp) cwX6_73 yvX6_expect (rcv_30 hC hS) rfl rfl (Nat.le_of_ble_eq_true rfl) (rmk (by decide) (by decide)) dX6_readLine_143 (fun w_31 H locs hp hS => ?_)
        exact hR _ _ _ _ _ dX6_readLine_146 hp hS
  · have hp := hp.2 c_4
    refine lv_aload_n hx hb dX6_readLine_13 rfl (lv_at hl 1 rfl) ?_
    refine lv_iconst hx hb dX6_readLine_14 kI_2 ?_
    refine q_cvV (As := [.int (2 : Int32)]) (rest := []) hC hS hl.1 (rX6_fail hp) cwX6_50 yvX6_fail (rcv_30 hC hS) rfl rfl (Nat.le_of_ble_eq_true rfl) (rmk (by decide) (by decide)) dX6_readLine_15 (fun w_32 H locs hp hS => ?_)
    exact hR _ _ _ _ _ dX6_readLine_18 hp hS
def pX7_clear (post : Wd → Prop) (b : Bool)  (w : Wd) : Prop := ∀ w_1, w_1 = sI w (rl b) 0 (8 : Int32) → ∀ w_2, w_2 = sI w_1 (rl b) 1 (0 : Int32) → ∀ w_3, w_3 = sI w_2 (rl b) 2 (0 : Int32) → ∀ w_4, w_4 = sI w_3 (rl b) 3 (100 : Int32) → ∀ w_5, w_5 = sI w_4 (rl b) 4 (0 : Int32) → ∀ w_6, w_6 = sI w_5 (rl b) 5 (0 : Int32) → ∀ w_7, w_7 = sI w_6 (rl b) 9 (0 : Int32) → ∀ w_8, w_8 = sI w_7 (rl b) 11 (0 : Int32) → post w_8
set_option maxHeartbeats 4000000 in
set_option maxRecDepth 100000 in
theorem rX7_clear {l : Launch} {g : Gw} {w : Wd} {post : Wd → Prop} {b : Bool}   (hp : pX7_clear post b  w) : MtV tabX l yX7_clear cX7_clear 1 none 1 g w [.ref (g.2.2 (rl b))] post := by
  refine q_entV tabX_nd (by decide) rfl (Nat.le_of_ble_eq_true rfl) ?_
  intro p e s m args below meth c A Q ls hC hR hS hl
  have hx := hC.1
  have hb := hC.2.1
  have hl : lv_has ls 1 [(0, .ref (g.2.2 (rl b)))] := hl
  unfold pX7_clear at hp
  refine lv_aload_n hx hb dX7_clear_0 rfl (lv_at hl 0 rfl) ?_
  refine lv_bipush hx hb dX7_clear_1 kB_8 ?_
  refine PR_0 hC hS m137 dX7_clear_3 (fun w_1 H locs ew_1 hS => ?_)
  have hp := hp w_1 ew_1
  refine lv_aload_n hx hb dX7_clear_6 rfl (lv_at hl 0 rfl) ?_
  refine lv_iconst hx hb dX7_clear_7 kI_0 ?_
  refine PR_1 hC hS m138 dX7_clear_8 (fun w_2 H locs ew_2 hS => ?_)
  have hp := hp w_2 ew_2
  refine lv_aload_n hx hb dX7_clear_11 rfl (lv_at hl 0 rfl) ?_
  refine lv_iconst hx hb dX7_clear_12 kI_0 ?_
  refine PR_2 hC hS m139 dX7_clear_13 (fun w_3 H locs ew_3 hS => ?_)
  have hp := hp w_3 ew_3
  refine lv_aload_n hx hb dX7_clear_16 rfl (lv_at hl 0 rfl) ?_
  refine lv_bipush hx hb dX7_clear_17 kB_100 ?_
  refine PR_3 hC hS m140 dX7_clear_19 (fun w_4 H locs ew_4 hS => ?_)
  have hp := hp w_4 ew_4
  refine lv_aload_n hx hb dX7_clear_22 rfl (lv_at hl 0 rfl) ?_
  refine lv_iconst hx hb dX7_clear_23 kI_0 ?_
  refine PR_4 hC hS m141 dX7_clear_24 (fun w_5 H locs ew_5 hS => ?_)
  have hp := hp w_5 ew_5
  refine lv_aload_n hx hb dX7_clear_27 rfl (lv_at hl 0 rfl) ?_
  refine lv_iconst hx hb dX7_clear_28 kI_0 ?_
  refine PR_5 hC hS m142 dX7_clear_29 (fun w_6 H locs ew_6 hS => ?_)
  have hp := hp w_6 ew_6
  refine lv_aload_n hx hb dX7_clear_32 rfl (lv_at hl 0 rfl) ?_
  refine lv_iconst hx hb dX7_clear_33 kI_0 ?_
  refine PR_9 hC hS m143 dX7_clear_34 (fun w_7 H locs ew_7 hS => ?_)
  have hp := hp w_7 ew_7
  refine lv_aload_n hx hb dX7_clear_37 rfl (lv_at hl 0 rfl) ?_
  refine lv_iconst hx hb dX7_clear_38 kI_0 ?_
  refine PR_11 hC hS m144 dX7_clear_39 (fun w_8 H locs ew_8 hS => ?_)
  have hp := hp w_8 ew_8
  exact hR _ _ _ _ _ dX7_clear_42 hp hS
def pX6_read_38 (post : Int32 → Wd → Prop) (b1 : Bool) : Nat → Int32 → Wd → Prop
  | 0, _, _ => False
  | n + 1, x2, w => ((1600 : Int32) ≤ x2 → (post (w.1 30 2) w)) ∧ (¬ (1600 : Int32) ≤ x2 → ((¬ (w.1 30 2) = 0 → (post (w.1 30 2) w)) ∧ ((w.1 30 2) = 0 → (((w.1 30 5) = (22 : Int32) → (post (w.1 30 2) w)) ∧ (¬ (w.1 30 5) = (22 : Int32) → (pX6_readLine (fun w_4 => ∀ x2_5, x2_5 = x2 + (1 : Int32) → pX6_read_38 post b1 n x2_5 w_4) w))))))
def pX6_read (post : Int32 → Wd → Prop) (b1 : Bool)  (w : Wd) : Prop := ∀ w_1, w_1 = sR w 2 b1 → pX7_clear (fun w_2 => ∀ w_3, w_3 = sI w_2 30 2 (0 : Int32) → ∀ w_4, w_4 = sI w_3 30 3 (-1 : Int32) → ∀ w_5, w_5 = sI w_4 30 7 (0 : Int32) → ∀ w_6, w_6 = sI w_5 30 4 (-1 : Int32) → pX6_take (fun w_7 => ∃ n9, pX6_read_38 post b1 n9 (0 : Int32) w_7) w_6) (w_1.2.2.2.2 2) w_1
set_option maxHeartbeats 4000000 in
set_option maxRecDepth 100000 in
theorem bX6_read_38 {p : Program} {l : Launch} {e : Env} {s : State} {m : MethodId} {args : Array Value} {below : List Frame} {meth : Method} {c : Code} {Q : State → Prop} {A : Nat → Prop} {g : Gw} {post : Int32 → Wd → Prop} {b1 : Bool} (hC : Cx p s m args c cX6_read RX6 3 g) (hR : RtI tabX p l e (rk 87) s m args below meth c Q cX6_read A g post)  : ∀ (n : Nat) (x2 : Int32) (w : Wd) (H : Heap) (locs : List Loc) (ls : Array Slot), pX6_read_38 post b1 n x2 w → St tabX A s.heap g w H locs → lv_has ls 3 [(0, .ref (g.2.2 30)), (1, .ref (g.2.2 (rl b1))), (2, .int x2)] → W p l e (rk 87) s m args below meth c H locs 0 0 Q (F0 m 38 ls []) := by
  have hx := hC.1
  have hb := hC.2.1
  intro n
  induction n with
  | zero =>
    intro x2 w H locs ls hp hS hl
    exact False.elim hp
  | succ n ih =>
    intro x2 w H locs ls hp hS hl
    unfold pX6_read_38 at hp
    refine lv_iload_n hx hb dX6_read_38 rfl (lv_at hl 2 rfl) ?_
    refine lv_sipush hx hb dX6_read_39 kS_1600 ?_
    refine lv_icmp_ge (tgt := 71) hx hb dX6_read_42 (by decide) (fun c_1 => ?_) (fun c_1 => ?_)
    · have hp := hp.1 c_1
      refine lv_aload_n hx hb dX6_read_71 rfl (lv_at hl 0 rfl) ?_
      refine G_30_2 hC hS m383 dX6_read_72 ?_
      exact hR _ _ _ _ _ _ dX6_read_75 hp hS
    · have hp := hp.2 c_1
      refine lv_aload_n hx hb dX6_read_45 rfl (lv_at hl 0 rfl) ?_
      refine G_30_2 hC hS m383 dX6_read_46 ?_
      refine lv_if_ne (tgt := 71) hx hb dX6_read_49 (by decide) (fun c_2 => ?_) (fun c_2 => ?_)
      · have hp := hp.1 c_2
        refine lv_aload_n hx hb dX6_read_71 rfl (lv_at hl 0 rfl) ?_
        refine G_30_2 hC hS m383 dX6_read_72 ?_
        exact hR _ _ _ _ _ _ dX6_read_75 hp hS
      · have hp := hp.2 c_2
        refine lv_aload_n hx hb dX6_read_52 rfl (lv_at hl 0 rfl) ?_
        refine G_30_5 hC hS m387 dX6_read_53 ?_
        refine lv_bipush hx hb dX6_read_56 kB_22 ?_
        refine lv_icmp_eq (tgt := 71) hx hb dX6_read_58 (by decide) (fun c_3 => ?_) (fun c_3 => ?_)
        · have hp := hp.1 c_3
          refine lv_aload_n hx hb dX6_read_71 rfl (lv_at hl 0 rfl) ?_
          refine G_30_2 hC hS m383 dX6_read_72 ?_
          exact hR _ _ _ _ _ _ dX6_read_75 hp hS
        · have hp := hp.2 c_3
          refine lv_aload_n hx hb dX6_read_61 rfl (lv_at hl 0 rfl) ?_
          refine q_cvV (As := []) (rest := []) hC hS hl.1 (rX6_readLine hp) cwX6_43 yvX6_readLine (rcv_30 hC hS) rfl rfl (Nat.le_of_ble_eq_true rfl) (rmk (by decide) (by decide)) dX6_read_62 (fun w_4 H locs hp hS => ?_)
          obtain ⟨x2_5, ex2_5⟩ : ∃ y : Int32, y = x2 + (1 : Int32) := ⟨_, rfl⟩
          have hp := hp x2_5 ex2_5
          refine lv_iinc (v := x2_5) (lv' := [(2, .int x2_5), (0, .ref (g.2.2 30)), (1, .ref (g.2.2 (rl b1)))]) hx hb dX6_read_65 hl (k := 2) rfl (by rw [ex2_5]; rfl) (by decide) rfl (fun ls hl => ?_)
          refine lv_goto (tgt := 38) hx hb dX6_read_68 (by decide) ?_
          exact ih x2_5 w_4 _ _ _ hp hS (lv_sub hl [1, 2, 0] rfl)
set_option maxHeartbeats 4000000 in
set_option maxRecDepth 100000 in
theorem rX6_read {l : Launch} {g : Gw} {w : Wd} {post : Int32 → Wd → Prop} {b1 : Bool}   (hp : pX6_read post b1  w) : MtI tabX l yX6_read cX6_read 3 (some .int) 87 g w [.ref (g.2.2 30), .ref (g.2.2 (rl b1))] post := by
  refine q_entI tabX_nd (by decide) rfl (Nat.le_of_ble_eq_true rfl) ?_
  intro p e s m args below meth c A Q ls hC hR hS hl
  have hx := hC.1
  have hb := hC.2.1
  have hl : lv_has ls 3 [(0, .ref (g.2.2 30)), (1, .ref (g.2.2 (rl b1)))] := hl
  unfold pX6_read at hp
  refine lv_aload_n hx hb dX6_read_0 rfl (lv_at hl 0 rfl) ?_
  refine lv_aload_n hx hb dX6_read_1 rfl (lv_at hl 1 rfl) ?_
  refine P_30_1 hC hS m150 dX6_read_2 (fun w_1 H locs ew_1 hS => ?_)
  have hp := hp w_1 ew_1
  refine lv_aload_n hx hb dX6_read_5 rfl (lv_at hl 0 rfl) ?_
  refine G_30_1 hC hS m150 dX6_read_6 ?_
  refine q_cvV (As := []) (rest := []) hC hS hl.1 (rX7_clear hp) cwX6_19 yvX7_clear (rcvR hC hS) rfl rfl (Nat.le_of_ble_eq_true rfl) (rmk (by decide) (by decide)) dX6_read_9 (fun w_2 H locs hp hS => ?_)
  refine lv_aload_n hx hb dX6_read_12 rfl (lv_at hl 0 rfl) ?_
  refine lv_iconst hx hb dX6_read_13 kI_0 ?_
  refine P_30_2 hC hS m383 dX6_read_14 (fun w_3 H locs ew_3 hS => ?_)
  have hp := hp w_3 ew_3
  refine lv_aload_n hx hb dX6_read_17 rfl (lv_at hl 0 rfl) ?_
  refine lv_iconst hx hb dX6_read_18 kI_m1 ?_
  refine P_30_3 hC hS m384 dX6_read_19 (fun w_4 H locs ew_4 hS => ?_)
  have hp := hp w_4 ew_4
  refine lv_aload_n hx hb dX6_read_22 rfl (lv_at hl 0 rfl) ?_
  refine lv_iconst hx hb dX6_read_23 kI_0 ?_
  refine P_30_7 hC hS m385 dX6_read_24 (fun w_5 H locs ew_5 hS => ?_)
  have hp := hp w_5 ew_5
  refine lv_aload_n hx hb dX6_read_27 rfl (lv_at hl 0 rfl) ?_
  refine lv_iconst hx hb dX6_read_28 kI_m1 ?_
  refine P_30_4 hC hS m386 dX6_read_29 (fun w_6 H locs ew_6 hS => ?_)
  have hp := hp w_6 ew_6
  refine lv_aload_n hx hb dX6_read_32 rfl (lv_at hl 0 rfl) ?_
  refine q_cvV (As := []) (rest := []) hC hS hl.1 (rX6_take hp) cwX6_37 yvX6_take (rcv_30 hC hS) rfl rfl (Nat.le_of_ble_eq_true rfl) (rmk (by decide) (by decide)) dX6_read_33 (fun w_7 H locs hp hS => ?_)
  refine lv_iconst hx hb dX6_read_36 kI_0 ?_
  refine lv_istore_n (lv' := [(2, .int (0 : Int32)), (0, .ref (g.2.2 30)), (1, .ref (g.2.2 (rl b1)))]) hx hb dX6_read_37 rfl hl (by decide) rfl (fun ls hl => ?_)
  obtain ⟨n9, hp⟩ := hp
  exact bX6_read_38 hC hR n9 (0 : Int32) w_7 _ _ _ hp hS (lv_sub hl [1, 2, 0] rfl)
def pX8_add (post : Wd → Prop) (x1 : Int32) (x2 : Int32) (x3 : Int64) (w : Wd) : Prop := ((w.1 20 3) < 0 → (post w)) ∧ (¬ (w.1 20 3) < 0 → (((1602 : Int32) ≤ (w.1 20 3) → (post w)) ∧ (¬ (1602 : Int32) ≤ (w.1 20 3) → (vp_in (w.1 20 3) 1602 ∧ ∀ w_3, w_3 = sA w 21 (w.1 20 3).toNatClampNeg x1 → vp_in (w_3.1 20 3) 1602 ∧ ∀ w_4, w_4 = sA w_3 22 (w_3.1 20 3).toNatClampNeg x2 → vp_in (w_4.1 20 3) 1602 ∧ ∀ w_5, w_5 = sB w_4 23 (w_4.1 20 3).toNatClampNeg x3 → ∀ w_6, w_6 = sI w_5 20 3 ((w_5.1 20 3) + (1 : Int32)) → post w_6))))
set_option maxHeartbeats 4000000 in
set_option maxRecDepth 100000 in
theorem rX8_add {l : Launch} {g : Gw} {w : Wd} {post : Wd → Prop}   {x1 : Int32} {x2 : Int32} {x3 : Int64} (hp : pX8_add post x1 x2 x3 w) : MtV tabX l yX8_add cX8_add 5 none 1 g w [.ref (g.2.2 20), .int x1, .int x2, .long x3] post := by
  refine q_entV tabX_nd (by decide) rfl (Nat.le_of_ble_eq_true rfl) ?_
  intro p e s m args below meth c A Q ls hC hR hS hl
  have hx := hC.1
  have hb := hC.2.1
  have hl : lv_has ls 5 [(0, .ref (g.2.2 20)), (1, .int x1), (2, .int x2), (3, .long x3)] := hl
  unfold pX8_add at hp
  refine lv_aload_n hx hb dX8_add_0 rfl (lv_at hl 0 rfl) ?_
  refine G_20_3 hC hS m345 dX8_add_1 ?_
  refine lv_if_lt (tgt := 59) hx hb dX8_add_4 (by decide) (fun c_1 => ?_) (fun c_1 => ?_)
  · have hp := hp.1 c_1
    exact hR _ _ _ _ _ dX8_add_59 hp hS
  · have hp := hp.2 c_1
    refine lv_aload_n hx hb dX8_add_7 rfl (lv_at hl 0 rfl) ?_
    refine G_20_3 hC hS m345 dX8_add_8 ?_
    refine lv_aload_n hx hb dX8_add_11 rfl (lv_at hl 0 rfl) ?_
    refine G_20_0 hC hS m65 dX8_add_12 ?_
    refine Na_21 hC hS dX8_add_15 ?_
    refine lv_icmp_ge (tgt := 59) hx hb dX8_add_16 (by decide) (fun c_2 => ?_) (fun c_2 => ?_)
    · have hp := hp.1 c_2
      exact hR _ _ _ _ _ dX8_add_59 hp hS
    · have hp := hp.2 c_2
      refine lv_aload_n hx hb dX8_add_19 rfl (lv_at hl 0 rfl) ?_
      refine G_20_0 hC hS m65 dX8_add_20 ?_
      refine lv_aload_n hx hb dX8_add_23 rfl (lv_at hl 0 rfl) ?_
      refine G_20_3 hC hS m345 dX8_add_24 ?_
      refine lv_iload_n hx hb dX8_add_27 rfl (lv_at hl 1 rfl) ?_
      refine Sa_21 hC hS hp.1 dX8_add_28 (fun w_3 H locs ew_3 hS => ?_)
      have hp := hp.2
      have hp := hp w_3 ew_3
      refine lv_aload_n hx hb dX8_add_29 rfl (lv_at hl 0 rfl) ?_
      refine G_20_1 hC hS m66 dX8_add_30 ?_
      refine lv_aload_n hx hb dX8_add_33 rfl (lv_at hl 0 rfl) ?_
      refine G_20_3 hC hS m345 dX8_add_34 ?_
      refine lv_iload_n hx hb dX8_add_37 rfl (lv_at hl 2 rfl) ?_
      refine Sa_22 hC hS hp.1 dX8_add_38 (fun w_4 H locs ew_4 hS => ?_)
      have hp := hp.2
      have hp := hp w_4 ew_4
      refine lv_aload_n hx hb dX8_add_39 rfl (lv_at hl 0 rfl) ?_
      refine G_20_2 hC hS m68 dX8_add_40 ?_
      refine lv_aload_n hx hb dX8_add_43 rfl (lv_at hl 0 rfl) ?_
      refine G_20_3 hC hS m345 dX8_add_44 ?_
      refine lv_lload_n hx hb dX8_add_47 rfl (lv_at hl 3 rfl) ?_
      refine Sa_23 hC hS hp.1 dX8_add_48 (fun w_5 H locs ew_5 hS => ?_)
      have hp := hp.2
      have hp := hp w_5 ew_5
      refine lv_aload_n hx hb dX8_add_49 rfl (lv_at hl 0 rfl) ?_
      refine lv_dup hx hb dX8_add_50 rfl ?_
      refine G_20_3 hC hS m345 dX8_add_51 ?_
      refine lv_iconst hx hb dX8_add_54 kI_1 ?_
      refine lv_iadd hx hb dX8_add_55 ?_
      refine P_20_3 hC hS m345 dX8_add_56 (fun w_6 H locs ew_6 hS => ?_)
      have hp := hp w_6 ew_6
      exact hR _ _ _ _ _ dX8_add_59 hp hS
def pX8_isDigit (post : Int32 → Wd → Prop) (x0 : Int32) (w : Wd) : Prop := (x0 < (48 : Int32) → (post (0 : Int32) w)) ∧ (¬ x0 < (48 : Int32) → (((57 : Int32) < x0 → (post (0 : Int32) w)) ∧ (¬ (57 : Int32) < x0 → (post (1 : Int32) w))))
set_option maxHeartbeats 4000000 in
set_option maxRecDepth 100000 in
theorem rX8_isDigit {l : Launch} {g : Gw} {w : Wd} {post : Int32 → Wd → Prop}   {x0 : Int32} (hp : pX8_isDigit post x0 w) : MtI tabX l yX8_isDigit cX8_isDigit 1 (some .boolean) 1 g w [.int x0] post := by
  refine q_entZ tabX_nd (by decide) rfl (Nat.le_of_ble_eq_true rfl) ?_
  intro p e s m args below meth c A Q ls hC hR hS hl
  have hx := hC.1
  have hb := hC.2.1
  have hl : lv_has ls 1 [(0, .int x0)] := hl
  unfold pX8_isDigit at hp
  refine lv_iload_n hx hb dX8_isDigit_0 rfl (lv_at hl 0 rfl) ?_
  refine lv_bipush hx hb dX8_isDigit_1 kB_48 ?_
  refine lv_icmp_lt (tgt := 16) hx hb dX8_isDigit_3 (by decide) (fun c_1 => ?_) (fun c_1 => ?_)
  · have hp := hp.1 c_1
    refine lv_iconst hx hb dX8_isDigit_16 kI_0 ?_
    exact hR _ _ _ _ _ _ dX8_isDigit_17 (by decide) hp hS
  · have hp := hp.2 c_1
    refine lv_iload_n hx hb dX8_isDigit_6 rfl (lv_at hl 0 rfl) ?_
    refine lv_bipush hx hb dX8_isDigit_7 kB_57 ?_
    refine lv_icmp_gt (tgt := 16) hx hb dX8_isDigit_9 (by decide) (fun c_2 => ?_) (fun c_2 => ?_)
    · have hp := hp.1 c_2
      refine lv_iconst hx hb dX8_isDigit_16 kI_0 ?_
      exact hR _ _ _ _ _ _ dX8_isDigit_17 (by decide) hp hS
    · have hp := hp.2 c_2
      refine lv_iconst hx hb dX8_isDigit_12 kI_1 ?_
      refine lv_goto (tgt := 17) hx hb dX8_isDigit_13 (by decide) ?_
      exact hR _ _ _ _ _ _ dX8_isDigit_17 (by decide) hp hS
def pX8_isLetter (post : Int32 → Wd → Prop) (x0 : Int32) (w : Wd) : Prop := (x0 < (97 : Int32) → (post (0 : Int32) w)) ∧ (¬ x0 < (97 : Int32) → (((122 : Int32) < x0 → (post (0 : Int32) w)) ∧ (¬ (122 : Int32) < x0 → (post (1 : Int32) w))))
set_option maxHeartbeats 4000000 in
set_option maxRecDepth 100000 in
theorem rX8_isLetter {l : Launch} {g : Gw} {w : Wd} {post : Int32 → Wd → Prop}   {x0 : Int32} (hp : pX8_isLetter post x0 w) : MtI tabX l yX8_isLetter cX8_isLetter 1 (some .boolean) 1 g w [.int x0] post := by
  refine q_entZ tabX_nd (by decide) rfl (Nat.le_of_ble_eq_true rfl) ?_
  intro p e s m args below meth c A Q ls hC hR hS hl
  have hx := hC.1
  have hb := hC.2.1
  have hl : lv_has ls 1 [(0, .int x0)] := hl
  unfold pX8_isLetter at hp
  refine lv_iload_n hx hb dX8_isLetter_0 rfl (lv_at hl 0 rfl) ?_
  refine lv_bipush hx hb dX8_isLetter_1 kB_97 ?_
  refine lv_icmp_lt (tgt := 16) hx hb dX8_isLetter_3 (by decide) (fun c_1 => ?_) (fun c_1 => ?_)
  · have hp := hp.1 c_1
    refine lv_iconst hx hb dX8_isLetter_16 kI_0 ?_
    exact hR _ _ _ _ _ _ dX8_isLetter_17 (by decide) hp hS
  · have hp := hp.2 c_1
    refine lv_iload_n hx hb dX8_isLetter_6 rfl (lv_at hl 0 rfl) ?_
    refine lv_bipush hx hb dX8_isLetter_7 kB_122 ?_
    refine lv_icmp_gt (tgt := 16) hx hb dX8_isLetter_9 (by decide) (fun c_2 => ?_) (fun c_2 => ?_)
    · have hp := hp.1 c_2
      refine lv_iconst hx hb dX8_isLetter_16 kI_0 ?_
      exact hR _ _ _ _ _ _ dX8_isLetter_17 (by decide) hp hS
    · have hp := hp.2 c_2
      refine lv_iconst hx hb dX8_isLetter_12 kI_1 ?_
      refine lv_goto (tgt := 17) hx hb dX8_isLetter_13 (by decide) ?_
      exact hR _ _ _ _ _ _ dX8_isLetter_17 (by decide) hp hS
def pX8_splitNumber_43 (post : Int32 → Wd → Prop) (x2 : Int32) (x3 : Int32) (x4 : Int32) (x5 : Int32) (w : Wd) : Prop := ((4 : Int32) < (x5 - x2) → (pX8_add (fun w_2 => post x3 w_2) (23 : Int32) x2 (0 : Int64) w)) ∧ (¬ (4 : Int32) < (x5 - x2) → ((x3 ≤ x5 → (pX8_add (fun w_4 => post x5 w_4) (21 : Int32) x2 ((x4).toInt64) w)) ∧ (¬ x3 ≤ x5 → (vp_in x5 1600 ∧ pX8_isLetter (fun r_5 w_6 => (r_5 = 0 → (pX8_add (fun w_8 => post x5 w_8) (21 : Int32) x2 ((x4).toInt64) w_6)) ∧ (¬ r_5 = 0 → (pX8_add (fun w_9 => post x3 w_9) (23 : Int32) x2 (0 : Int64) w_6))) (w.2.1 1 x5.toNatClampNeg) w))))
def pX8_splitNumber_6 (post : Int32 → Wd → Prop) : Nat → Int32 → Int32 → Int32 → Int32 → Wd → Prop
  | 0, _, _, _, _, _ => False
  | n + 1, x2, x3, x4, x5, w => (x3 ≤ x5 → (pX8_splitNumber_43 post x2 x3 x4 x5 w)) ∧ (¬ x3 ≤ x5 → (vp_in x5 1600 ∧ pX8_isDigit (fun r_2 w_3 => (r_2 = 0 → (pX8_splitNumber_43 post x2 x3 x4 x5 w_3)) ∧ (¬ r_2 = 0 → (vp_in x5 1600 ∧ ∀ x4_5, x4_5 = (((x4 * (10 : Int32)) + (w_3.2.1 1 x5.toNatClampNeg)) - (48 : Int32)) → ∀ x5_6, x5_6 = x5 + (1 : Int32) → pX8_splitNumber_6 post n x2 x3 x4_5 x5_6 w_3))) (w.2.1 1 x5.toNatClampNeg) w))
def pX8_splitNumber (post : Int32 → Wd → Prop) (x2 : Int32) (x3 : Int32) (w : Wd) : Prop := ∃ n9, pX8_splitNumber_6 post n9 x2 x3 (0 : Int32) x2 w
set_option maxHeartbeats 4000000 in
set_option maxRecDepth 100000 in
theorem bX8_splitNumber_43 {p : Program} {l : Launch} {e : Env} {s : State} {m : MethodId} {args : Array Value} {below : List Frame} {meth : Method} {c : Code} {Q : State → Prop} {A : Nat → Prop} {g : Gw} {post : Int32 → Wd → Prop}  (hC : Cx p s m args c cX8_splitNumber RX8 6 g) (hR : RtI tabX p l e (rk 2) s m args below meth c Q cX8_splitNumber A g post)  : ∀ (x2 : Int32) (x3 : Int32) (x4 : Int32) (x5 : Int32) (w : Wd) (H : Heap) (locs : List Loc) (ls : Array Slot), pX8_splitNumber_43 post x2 x3 x4 x5 w → St tabX A s.heap g w H locs → lv_has ls 6 [(0, .ref (g.2.2 20)), (1, .ref (g.2.2 1)), (2, .int x2), (3, .int x3), (4, .int x4), (5, .int x5)] → W p l e (rk 2) s m args below meth c H locs 0 0 Q (F0 m 43 ls []) := by
  have hx := hC.1
  have hb := hC.2.1
  intro x2 x3 x4 x5 w H locs ls hp hS hl
  unfold pX8_splitNumber_43 at hp
  refine lv_iload hx hb dX8_splitNumber_43 (lv_at hl 5 rfl) ?_
  refine lv_iload_n hx hb dX8_splitNumber_45 rfl (lv_at hl 2 rfl) ?_
  refine lv_isub hx hb dX8_splitNumber_46 ?_
  refine lv_iconst hx hb dX8_splitNumber_47 kI_4 ?_
  refine lv_icmp_gt (tgt := 67) hx hb dX8_splitNumber_48 (by decide) (fun c_1 => ?_) (fun c_1 => ?_)
  · have hp := hp.1 c_1
    refine lv_aload_n hx hb dX8_splitNumber_67 rfl (lv_at hl 0 rfl) ?_
    refine lv_bipush hx hb dX8_splitNumber_68 kB_23 ?_
    refine lv_iload_n hx hb dX8_splitNumber_70 rfl (lv_at hl 2 rfl) ?_
    refine lv_lconst hx hb dX8_splitNumber_71 kL_0 ?_
    refine q_cvV (As := [.int (23 : Int32), .int x2, .long (0 : Int64)]) (rest := []) hC hS hl.1 (rX8_add hp) cwX8_69 yvX8_add (rcv_20 hC hS) rfl rfl (Nat.le_of_ble_eq_true rfl) (rmk (by decide) (by decide)) dX8_splitNumber_72 (fun w_2 H locs hp hS => ?_)
    refine lv_iload_n hx hb dX8_splitNumber_75 rfl (lv_at hl 3 rfl) ?_
    exact hR _ _ _ _ _ _ dX8_splitNumber_76 hp hS
  · have hp := hp.2 c_1
    refine lv_iload hx hb dX8_splitNumber_51 (lv_at hl 5 rfl) ?_
    refine lv_iload_n hx hb dX8_splitNumber_53 rfl (lv_at hl 3 rfl) ?_
    refine lv_icmp_ge (tgt := 77) hx hb dX8_splitNumber_54 (by decide) (fun c_3 => ?_) (fun c_3 => ?_)
    · have hp := hp.1 c_3
      refine lv_aload_n hx hb dX8_splitNumber_77 rfl (lv_at hl 0 rfl) ?_
      refine lv_bipush hx hb dX8_splitNumber_78 kB_21 ?_
      refine lv_iload_n hx hb dX8_splitNumber_80 rfl (lv_at hl 2 rfl) ?_
      refine lv_iload hx hb dX8_splitNumber_81 (lv_at hl 4 rfl) ?_
      refine lv_i2l hx hb dX8_splitNumber_83 rfl ?_
      refine q_cvV (As := [.int (21 : Int32), .int x2, .long (x4).toInt64]) (rest := []) hC hS hl.1 (rX8_add hp) cwX8_69 yvX8_add (rcv_20 hC hS) rfl rfl (Nat.le_of_ble_eq_true rfl) (rmk (by decide) (by decide)) dX8_splitNumber_84 (fun w_4 H locs hp hS => ?_)
      refine lv_iload hx hb dX8_splitNumber_87 (lv_at hl 5 rfl) ?_
      exact hR _ _ _ _ _ _ dX8_splitNumber_89 hp hS
    · have hp := hp.2 c_3
      refine lv_aload_n hx hb dX8_splitNumber_57 rfl (lv_at hl 1 rfl) ?_
      refine lv_iload hx hb dX8_splitNumber_58 (lv_at hl 5 rfl) ?_
      refine La_1 hC hS hp.1 dX8_splitNumber_60 ?_
      have hp := hp.2
      refine q_csI (As := [.int (w.2.1 1 x5.toNatClampNeg)]) (rest := []) hC hS hl.1 (rX8_isLetter hp) cwX8_51 ysX8_isLetter rfl rfl (Nat.le_of_ble_eq_true rfl) (rmk (by decide) (by decide)) dX8_splitNumber_61 (fun r_5 w_6 H locs hp hS => ?_)
      refine lv_if_eq (tgt := 77) hx hb dX8_splitNumber_64 (by decide) (fun c_7 => ?_) (fun c_7 => ?_)
      · have hp := hp.1 c_7
        refine lv_aload_n hx hb dX8_splitNumber_77 rfl (lv_at hl 0 rfl) ?_
        refine lv_bipush hx hb dX8_splitNumber_78 kB_21 ?_
        refine lv_iload_n hx hb dX8_splitNumber_80 rfl (lv_at hl 2 rfl) ?_
        refine lv_iload hx hb dX8_splitNumber_81 (lv_at hl 4 rfl) ?_
        refine lv_i2l hx hb dX8_splitNumber_83 rfl ?_
        refine q_cvV (As := [.int (21 : Int32), .int x2, .long (x4).toInt64]) (rest := []) hC hS hl.1 (rX8_add hp) cwX8_69 yvX8_add (rcv_20 hC hS) rfl rfl (Nat.le_of_ble_eq_true rfl) (rmk (by decide) (by decide)) dX8_splitNumber_84 (fun w_8 H locs hp hS => ?_)
        refine lv_iload hx hb dX8_splitNumber_87 (lv_at hl 5 rfl) ?_
        exact hR _ _ _ _ _ _ dX8_splitNumber_89 hp hS
      · have hp := hp.2 c_7
        refine lv_aload_n hx hb dX8_splitNumber_67 rfl (lv_at hl 0 rfl) ?_
        refine lv_bipush hx hb dX8_splitNumber_68 kB_23 ?_
        refine lv_iload_n hx hb dX8_splitNumber_70 rfl (lv_at hl 2 rfl) ?_
        refine lv_lconst hx hb dX8_splitNumber_71 kL_0 ?_
        refine q_cvV (As := [.int (23 : Int32), .int x2, .long (0 : Int64)]) (rest := []) hC hS hl.1 (rX8_add hp) cwX8_69 yvX8_add (rcv_20 hC hS) rfl rfl (Nat.le_of_ble_eq_true rfl) (rmk (by decide) (by decide)) dX8_splitNumber_72 (fun w_9 H locs hp hS => ?_)
        refine lv_iload_n hx hb dX8_splitNumber_75 rfl (lv_at hl 3 rfl) ?_
        exact hR _ _ _ _ _ _ dX8_splitNumber_76 hp hS
set_option maxHeartbeats 4000000 in
set_option maxRecDepth 100000 in
theorem bX8_splitNumber_6 {p : Program} {l : Launch} {e : Env} {s : State} {m : MethodId} {args : Array Value} {below : List Frame} {meth : Method} {c : Code} {Q : State → Prop} {A : Nat → Prop} {g : Gw} {post : Int32 → Wd → Prop}  (hC : Cx p s m args c cX8_splitNumber RX8 6 g) (hR : RtI tabX p l e (rk 2) s m args below meth c Q cX8_splitNumber A g post)  : ∀ (n : Nat) (x2 : Int32) (x3 : Int32) (x4 : Int32) (x5 : Int32) (w : Wd) (H : Heap) (locs : List Loc) (ls : Array Slot), pX8_splitNumber_6 post n x2 x3 x4 x5 w → St tabX A s.heap g w H locs → lv_has ls 6 [(0, .ref (g.2.2 20)), (1, .ref (g.2.2 1)), (2, .int x2), (3, .int x3), (4, .int x4), (5, .int x5)] → W p l e (rk 2) s m args below meth c H locs 0 0 Q (F0 m 6 ls []) := by
  have hx := hC.1
  have hb := hC.2.1
  intro n
  induction n with
  | zero =>
    intro x2 x3 x4 x5 w H locs ls hp hS hl
    exact False.elim hp
  | succ n ih =>
    intro x2 x3 x4 x5 w H locs ls hp hS hl
    unfold pX8_splitNumber_6 at hp
    refine lv_iload hx hb dX8_splitNumber_6 (lv_at hl 5 rfl) ?_
    refine lv_iload_n hx hb dX8_splitNumber_8 rfl (lv_at hl 3 rfl) ?_
    refine lv_icmp_ge (tgt := 43) hx hb dX8_splitNumber_9 (by decide) (fun c_1 => ?_) (fun c_1 => ?_)
    · have hp := hp.1 c_1
      exact bX8_splitNumber_43 hC hR x2 x3 x4 x5 w _ _ _ hp hS (lv_sub hl [0, 1, 2, 3, 4, 5] rfl)
    · have hp := hp.2 c_1
      refine lv_aload_n hx hb dX8_splitNumber_12 rfl (lv_at hl 1 rfl) ?_
      refine lv_iload hx hb dX8_splitNumber_13 (lv_at hl 5 rfl) ?_
      refine La_1 hC hS hp.1 dX8_splitNumber_15 ?_
      have hp := hp.2
      refine q_csI (As := [.int (w.2.1 1 x5.toNatClampNeg)]) (rest := []) hC hS hl.1 (rX8_isDigit hp) cwX8_59 ysX8_isDigit rfl rfl (Nat.le_of_ble_eq_true rfl) (rmk (by decide) (by decide)) dX8_splitNumber_16 (fun r_2 w_3 H locs hp hS => ?_)
      refine lv_if_eq (tgt := 43) hx hb dX8_splitNumber_19 (by decide) (fun c_4 => ?_) (fun c_4 => ?_)
      · have hp := hp.1 c_4
        exact bX8_splitNumber_43 hC hR x2 x3 x4 x5 w_3 _ _ _ hp hS (lv_sub hl [0, 1, 2, 3, 4, 5] rfl)
      · have hp := hp.2 c_4
        refine lv_iload hx hb dX8_splitNumber_22 (lv_at hl 4 rfl) ?_
        refine lv_bipush hx hb dX8_splitNumber_24 kB_10 ?_
        refine lv_imul hx hb dX8_splitNumber_26 ?_
        refine lv_aload_n hx hb dX8_splitNumber_27 rfl (lv_at hl 1 rfl) ?_
        refine lv_iload hx hb dX8_splitNumber_28 (lv_at hl 5 rfl) ?_
        refine La_1 hC hS hp.1 dX8_splitNumber_30 ?_
        have hp := hp.2
        refine lv_iadd hx hb dX8_splitNumber_31 ?_
        refine lv_bipush hx hb dX8_splitNumber_32 kB_48 ?_
        refine lv_isub hx hb dX8_splitNumber_34 ?_
        refine lv_topi (fun x4_5 ex4_5 => ?_)
        have hp := hp x4_5 ex4_5
        refine lv_istore (lv' := [(4, .int x4_5), (0, .ref (g.2.2 20)), (1, .ref (g.2.2 1)), (2, .int x2), (3, .int x3), (5, .int x5)]) hx hb dX8_splitNumber_35 hl (by decide) rfl (fun ls hl => ?_)
        obtain ⟨x5_6, ex5_6⟩ : ∃ y : Int32, y = x5 + (1 : Int32) := ⟨_, rfl⟩
        have hp := hp x5_6 ex5_6
        refine lv_iinc (v := x5_6) (lv' := [(5, .int x5_6), (4, .int x4_5), (0, .ref (g.2.2 20)), (1, .ref (g.2.2 1)), (2, .int x2), (3, .int x3)]) hx hb dX8_splitNumber_37 hl (k := 5) rfl (by rw [ex5_6]; rfl) (by decide) rfl (fun ls hl => ?_)
        refine lv_goto (tgt := 6) hx hb dX8_splitNumber_40 (by decide) ?_
        exact ih x2 x3 x4_5 x5_6 w_3 _ _ _ hp hS (lv_sub hl [2, 3, 4, 5, 1, 0] rfl)
set_option maxHeartbeats 4000000 in
set_option maxRecDepth 100000 in
theorem rX8_splitNumber {l : Launch} {g : Gw} {w : Wd} {post : Int32 → Wd → Prop}   {x2 : Int32} {x3 : Int32} (hp : pX8_splitNumber post x2 x3 w) : MtI tabX l yX8_splitNumber cX8_splitNumber 6 (some .int) 2 g w [.ref (g.2.2 20), .ref (g.2.2 1), .int x2, .int x3] post := by
  refine q_entI tabX_nd (by decide) rfl (Nat.le_of_ble_eq_true rfl) ?_
  intro p e s m args below meth c A Q ls hC hR hS hl
  have hx := hC.1
  have hb := hC.2.1
  have hl : lv_has ls 6 [(0, .ref (g.2.2 20)), (1, .ref (g.2.2 1)), (2, .int x2), (3, .int x3)] := hl
  unfold pX8_splitNumber at hp
  refine lv_iconst hx hb dX8_splitNumber_0 kI_0 ?_
  refine lv_istore (lv' := [(4, .int (0 : Int32)), (0, .ref (g.2.2 20)), (1, .ref (g.2.2 1)), (2, .int x2), (3, .int x3)]) hx hb dX8_splitNumber_1 hl (by decide) rfl (fun ls hl => ?_)
  refine lv_iload_n hx hb dX8_splitNumber_3 rfl (lv_at hl 3 rfl) ?_
  refine lv_istore (lv' := [(5, .int x2), (4, .int (0 : Int32)), (0, .ref (g.2.2 20)), (1, .ref (g.2.2 1)), (2, .int x2), (3, .int x3)]) hx hb dX8_splitNumber_4 hl (by decide) rfl (fun ls hl => ?_)
  obtain ⟨n9, hp⟩ := hp
  exact bX8_splitNumber_6 hC hR n9 x2 x3 (0 : Int32) x2 w _ _ _ hp hS (lv_sub hl [2, 3, 4, 5, 1, 0] rfl)
def pX8_splitSign_43 (post : Int32 → Wd → Prop) (x1 : Int32) (x2 : Int32) (w : Wd) : Prop := pX8_add (fun w_1 => post (x2 + (1 : Int32)) w_1) x1 x2 (0 : Int64) w
def pX8_splitSign_18 (post : Int32 → Wd → Prop) (x1 : Int32) (x2 : Int32) (x3 : Int32) (t0 : Int32) (w : Wd) : Prop := (x1 = (59 : Int32) → (pX8_splitSign_43 post x1 x2 w)) ∧ (¬ x1 = (59 : Int32) → ((x1 = (40 : Int32) → (pX8_splitSign_43 post x1 x2 w)) ∧ (¬ x1 = (40 : Int32) → ((x1 = (41 : Int32) → (pX8_splitSign_43 post x1 x2 w)) ∧ (¬ x1 = (41 : Int32) → ((t0 = 0 → (pX8_add (fun w_5 => post x3 w_5) (23 : Int32) x2 (0 : Int64) w)) ∧ (¬ t0 = 0 → (pX8_splitSign_43 post x1 x2 w))))))))
def pX8_splitSign_17 (post : Int32 → Wd → Prop) (x1 : Int32) (x2 : Int32) (x3 : Int32) (w : Wd) : Prop := pX8_splitSign_18 post x1 x2 x3 (0 : Int32) w
def pX8_splitSign (post : Int32 → Wd → Prop) (x1 : Int32) (x2 : Int32) (x3 : Int32) (w : Wd) : Prop := (x1 ≤ (32 : Int32) → (pX8_splitSign_17 post x1 x2 x3 w)) ∧ (¬ x1 ≤ (32 : Int32) → (pX8_rankOf (fun r_2 w_3 => (r_2 < 0 → (pX8_splitSign_17 post x1 x2 x3 w_3)) ∧ (¬ r_2 < 0 → (pX8_splitSign_18 post x1 x2 x3 (1 : Int32) w_3))) x1 w))
set_option maxHeartbeats 4000000 in
set_option maxRecDepth 100000 in
theorem bX8_splitSign_43 {p : Program} {l : Launch} {e : Env} {s : State} {m : MethodId} {args : Array Value} {below : List Frame} {meth : Method} {c : Code} {Q : State → Prop} {A : Nat → Prop} {g : Gw} {post : Int32 → Wd → Prop}  (hC : Cx p s m args c cX8_splitSign RX8 5 g) (hR : RtI tabX p l e (rk 2) s m args below meth c Q cX8_splitSign A g post)  : ∀ (x1 : Int32) (x2 : Int32) (w : Wd) (H : Heap) (locs : List Loc) (ls : Array Slot), pX8_splitSign_43 post x1 x2 w → St tabX A s.heap g w H locs → lv_has ls 5 [(0, .ref (g.2.2 20)), (1, .int x1), (2, .int x2)] → W p l e (rk 2) s m args below meth c H locs 0 0 Q (F0 m 43 ls []) := by
  have hx := hC.1
  have hb := hC.2.1
  intro x1 x2 w H locs ls hp hS hl
  unfold pX8_splitSign_43 at hp
  refine lv_aload_n hx hb dX8_splitSign_43 rfl (lv_at hl 0 rfl) ?_
  refine lv_iload_n hx hb dX8_splitSign_44 rfl (lv_at hl 1 rfl) ?_
  refine lv_iload_n hx hb dX8_splitSign_45 rfl (lv_at hl 2 rfl) ?_
  refine lv_lconst hx hb dX8_splitSign_46 kL_0 ?_
  refine q_cvV (As := [.int x1, .int x2, .long (0 : Int64)]) (rest := []) hC hS hl.1 (rX8_add hp) cwX8_69 yvX8_add (rcv_20 hC hS) rfl rfl (Nat.le_of_ble_eq_true rfl) (rmk (by decide) (by decide)) dX8_splitSign_47 (fun w_1 H locs hp hS => ?_)
  refine lv_iload_n hx hb dX8_splitSign_50 rfl (lv_at hl 2 rfl) ?_
  refine lv_iconst hx hb dX8_splitSign_51 kI_1 ?_
  refine lv_iadd hx hb dX8_splitSign_52 ?_
  exact hR _ _ _ _ _ _ dX8_splitSign_53 hp hS
set_option maxHeartbeats 4000000 in
set_option maxRecDepth 100000 in
theorem bX8_splitSign_18 {p : Program} {l : Launch} {e : Env} {s : State} {m : MethodId} {args : Array Value} {below : List Frame} {meth : Method} {c : Code} {Q : State → Prop} {A : Nat → Prop} {g : Gw} {post : Int32 → Wd → Prop}  (hC : Cx p s m args c cX8_splitSign RX8 5 g) (hR : RtI tabX p l e (rk 2) s m args below meth c Q cX8_splitSign A g post)  : ∀ (x1 : Int32) (x2 : Int32) (x3 : Int32) (t0 : Int32) (w : Wd) (H : Heap) (locs : List Loc) (ls : Array Slot), pX8_splitSign_18 post x1 x2 x3 t0 w → St tabX A s.heap g w H locs → lv_has ls 5 [(0, .ref (g.2.2 20)), (1, .int x1), (2, .int x2), (3, .int x3)] → W p l e (rk 2) s m args below meth c H locs 0 0 Q (F0 m 18 ls [.int t0]) := by
  have hx := hC.1
  have hb := hC.2.1
  intro x1 x2 x3 t0 w H locs ls hp hS hl
  unfold pX8_splitSign_18 at hp
  refine lv_istore (lv' := [(4, .int t0), (0, .ref (g.2.2 20)), (1, .int x1), (2, .int x2), (3, .int x3)]) hx hb dX8_splitSign_18 hl (by decide) rfl (fun ls hl => ?_)
  refine lv_iload_n hx hb dX8_splitSign_20 rfl (lv_at hl 2 rfl) ?_
  refine lv_bipush hx hb dX8_splitSign_21 kB_59 ?_
  refine lv_icmp_eq (tgt := 43) hx hb dX8_splitSign_23 (by decide) (fun c_1 => ?_) (fun c_1 => ?_)
  · have hp := hp.1 c_1
    exact bX8_splitSign_43 hC hR x1 x2 w _ _ _ hp hS (lv_sub hl [1, 2, 3] rfl)
  · have hp := hp.2 c_1
    refine lv_iload_n hx hb dX8_splitSign_26 rfl (lv_at hl 2 rfl) ?_
    refine lv_bipush hx hb dX8_splitSign_27 kB_40 ?_
    refine lv_icmp_eq (tgt := 43) hx hb dX8_splitSign_29 (by decide) (fun c_2 => ?_) (fun c_2 => ?_)
    · have hp := hp.1 c_2
      exact bX8_splitSign_43 hC hR x1 x2 w _ _ _ hp hS (lv_sub hl [1, 2, 3] rfl)
    · have hp := hp.2 c_2
      refine lv_iload_n hx hb dX8_splitSign_32 rfl (lv_at hl 2 rfl) ?_
      refine lv_bipush hx hb dX8_splitSign_33 kB_41 ?_
      refine lv_icmp_eq (tgt := 43) hx hb dX8_splitSign_35 (by decide) (fun c_3 => ?_) (fun c_3 => ?_)
      · have hp := hp.1 c_3
        exact bX8_splitSign_43 hC hR x1 x2 w _ _ _ hp hS (lv_sub hl [1, 2, 3] rfl)
      · have hp := hp.2 c_3
        refine lv_iload hx hb dX8_splitSign_38 (lv_at hl 0 rfl) ?_
        refine lv_if_eq (tgt := 54) hx hb dX8_splitSign_40 (by decide) (fun c_4 => ?_) (fun c_4 => ?_)
        · have hp := hp.1 c_4
          refine lv_aload_n hx hb dX8_splitSign_54 rfl (lv_at hl 1 rfl) ?_
          refine lv_bipush hx hb dX8_splitSign_55 kB_23 ?_
          refine lv_iload_n hx hb dX8_splitSign_57 rfl (lv_at hl 3 rfl) ?_
          refine lv_lconst hx hb dX8_splitSign_58 kL_0 ?_
          refine q_cvV (As := [.int (23 : Int32), .int x2, .long (0 : Int64)]) (rest := []) hC hS hl.1 (rX8_add hp) cwX8_69 yvX8_add (rcv_20 hC hS) rfl rfl (Nat.le_of_ble_eq_true rfl) (rmk (by decide) (by decide)) dX8_splitSign_59 (fun w_5 H locs hp hS => ?_)
          refine lv_iload_n hx hb dX8_splitSign_62 rfl (lv_at hl 4 rfl) ?_
          exact hR _ _ _ _ _ _ dX8_splitSign_63 hp hS
        · have hp := hp.2 c_4
          exact bX8_splitSign_43 hC hR x1 x2 w _ _ _ hp hS (lv_sub hl [1, 2, 3] rfl)
set_option maxHeartbeats 4000000 in
set_option maxRecDepth 100000 in
theorem bX8_splitSign_17 {p : Program} {l : Launch} {e : Env} {s : State} {m : MethodId} {args : Array Value} {below : List Frame} {meth : Method} {c : Code} {Q : State → Prop} {A : Nat → Prop} {g : Gw} {post : Int32 → Wd → Prop}  (hC : Cx p s m args c cX8_splitSign RX8 5 g) (hR : RtI tabX p l e (rk 2) s m args below meth c Q cX8_splitSign A g post)  : ∀ (x1 : Int32) (x2 : Int32) (x3 : Int32) (w : Wd) (H : Heap) (locs : List Loc) (ls : Array Slot), pX8_splitSign_17 post x1 x2 x3 w → St tabX A s.heap g w H locs → lv_has ls 5 [(0, .ref (g.2.2 20)), (1, .int x1), (2, .int x2), (3, .int x3)] → W p l e (rk 2) s m args below meth c H locs 0 0 Q (F0 m 17 ls []) := by
  have hx := hC.1
  have hb := hC.2.1
  intro x1 x2 x3 w H locs ls hp hS hl
  unfold pX8_splitSign_17 at hp
  refine lv_iconst hx hb dX8_splitSign_17 kI_0 ?_
  exact bX8_splitSign_18 hC hR x1 x2 x3 (0 : Int32) w _ _ _ hp hS (lv_sub hl [0, 1, 2, 3] rfl)
set_option maxHeartbeats 4000000 in
set_option maxRecDepth 100000 in
theorem rX8_splitSign {l : Launch} {g : Gw} {w : Wd} {post : Int32 → Wd → Prop}   {x1 : Int32} {x2 : Int32} {x3 : Int32} (hp : pX8_splitSign post x1 x2 x3 w) : MtI tabX l yX8_splitSign cX8_splitSign 5 (some .int) 2 g w [.ref (g.2.2 20), .int x1, .int x2, .int x3] post := by
  refine q_entI tabX_nd (by decide) rfl (Nat.le_of_ble_eq_true rfl) ?_
  intro p e s m args below meth c A Q ls hC hR hS hl
  have hx := hC.1
  have hb := hC.2.1
  have hl : lv_has ls 5 [(0, .ref (g.2.2 20)), (1, .int x1), (2, .int x2), (3, .int x3)] := hl
  unfold pX8_splitSign at hp
  refine lv_iload_n hx hb dX8_splitSign_0 rfl (lv_at hl 1 rfl) ?_
  refine lv_bipush hx hb dX8_splitSign_1 kB_32 ?_
  refine lv_icmp_le (tgt := 17) hx hb dX8_splitSign_3 (by decide) (fun c_1 => ?_) (fun c_1 => ?_)
  · have hp := hp.1 c_1
    exact bX8_splitSign_17 hC hR x1 x2 x3 w _ _ _ hp hS (lv_sub hl [0, 1, 2, 3] rfl)
  · have hp := hp.2 c_1
    refine lv_iload_n hx hb dX8_splitSign_6 rfl (lv_at hl 1 rfl) ?_
    refine q_csI (As := [.int x1]) (rest := []) hC hS hl.1 (rX8_rankOf hp) cwX8_77 ysX8_rankOf rfl rfl (Nat.le_of_ble_eq_true rfl) (rmk (by decide) (by decide)) dX8_splitSign_7 (fun r_2 w_3 H locs hp hS => ?_)
    refine lv_if_lt (tgt := 17) hx hb dX8_splitSign_10 (by decide) (fun c_4 => ?_) (fun c_4 => ?_)
    · have hp := hp.1 c_4
      exact bX8_splitSign_17 hC hR x1 x2 x3 w_3 _ _ _ hp hS (lv_sub hl [0, 1, 2, 3] rfl)
    · have hp := hp.2 c_4
      refine lv_iconst hx hb dX8_splitSign_13 kI_1 ?_
      refine lv_goto (tgt := 18) hx hb dX8_splitSign_14 (by decide) ?_
      exact bX8_splitSign_18 hC hR x1 x2 x3 (1 : Int32) w_3 _ _ _ hp hS (lv_sub hl [0, 1, 2, 3] rfl)
def pX8_kindOf_2 (post : Int32 → Wd → Prop) : Nat → Int64 → Int32 → Wd → Prop
  | 0, _, _, _ => False
  | n + 1, x1, x3, w => ((17 : Int32) ≤ x3 → (post (20 : Int32) w)) ∧ (¬ (17 : Int32) ≤ x3 → (vp_in x3 17 ∧ (¬ (lg_cmp (w.2.2.2.1 25 x3.toNatClampNeg) x1) = 0 → (∀ x3_3, x3_3 = x3 + (1 : Int32) → pX8_kindOf_2 post n x1 x3_3 w)) ∧ ((lg_cmp (w.2.2.2.1 25 x3.toNatClampNeg) x1) = 0 → (post x3 w))))
def pX8_kindOf (post : Int32 → Wd → Prop) (x1 : Int64) (w : Wd) : Prop := ∃ n9, pX8_kindOf_2 post n9 x1 (0 : Int32) w
set_option maxHeartbeats 4000000 in
set_option maxRecDepth 100000 in
theorem bX8_kindOf_2 {p : Program} {l : Launch} {e : Env} {s : State} {m : MethodId} {args : Array Value} {below : List Frame} {meth : Method} {c : Code} {Q : State → Prop} {A : Nat → Prop} {g : Gw} {post : Int32 → Wd → Prop}  (hC : Cx p s m args c cX8_kindOf RX8 4 g) (hR : RtI tabX p l e (rk 1) s m args below meth c Q cX8_kindOf A g post)  : ∀ (n : Nat) (x1 : Int64) (x3 : Int32) (w : Wd) (H : Heap) (locs : List Loc) (ls : Array Slot), pX8_kindOf_2 post n x1 x3 w → St tabX A s.heap g w H locs → lv_has ls 4 [(0, .ref (g.2.2 20)), (1, .long x1), (3, .int x3)] → W p l e (rk 1) s m args below meth c H locs 0 0 Q (F0 m 2 ls []) := by
  have hx := hC.1
  have hb := hC.2.1
  intro n
  induction n with
  | zero =>
    intro x1 x3 w H locs ls hp hS hl
    exact False.elim hp
  | succ n ih =>
    intro x1 x3 w H locs ls hp hS hl
    unfold pX8_kindOf_2 at hp
    refine lv_iload_n hx hb dX8_kindOf_2 rfl (lv_at hl 2 rfl) ?_
    refine lv_aload_n hx hb dX8_kindOf_3 rfl (lv_at hl 0 rfl) ?_
    refine G_20_4 hC hS m69 dX8_kindOf_4 ?_
    refine Na_25 hC hS dX8_kindOf_7 ?_
    refine lv_icmp_ge (tgt := 30) hx hb dX8_kindOf_8 (by decide) (fun c_1 => ?_) (fun c_1 => ?_)
    · have hp := hp.1 c_1
      refine lv_bipush hx hb dX8_kindOf_30 kB_20 ?_
      exact hR _ _ _ _ _ _ dX8_kindOf_32 hp hS
    · have hp := hp.2 c_1
      refine lv_aload_n hx hb dX8_kindOf_11 rfl (lv_at hl 0 rfl) ?_
      refine G_20_4 hC hS m69 dX8_kindOf_12 ?_
      refine lv_iload_n hx hb dX8_kindOf_15 rfl (lv_at hl 2 rfl) ?_
      refine La_25 hC hS hp.1 dX8_kindOf_16 ?_
      have hp := hp.2
      refine lv_lload_n hx hb dX8_kindOf_17 rfl (lv_at hl 1 rfl) ?_
      refine W.lcmp hx hb dX8_kindOf_18 ?_
      refine lv_if_ne (tgt := 24) hx hb dX8_kindOf_19 (by decide) (fun c_2 => ?_) (fun c_2 => ?_)
      · have hp := hp.1 c_2
        obtain ⟨x3_3, ex3_3⟩ : ∃ y : Int32, y = x3 + (1 : Int32) := ⟨_, rfl⟩
        have hp := hp x3_3 ex3_3
        refine lv_iinc (v := x3_3) (lv' := [(3, .int x3_3), (0, .ref (g.2.2 20)), (1, .long x1)]) hx hb dX8_kindOf_24 hl (k := 2) rfl (by rw [ex3_3]; rfl) (by decide) rfl (fun ls hl => ?_)
        refine lv_goto (tgt := 2) hx hb dX8_kindOf_27 (by decide) ?_
        exact ih x1 x3_3 w _ _ _ hp hS (lv_sub hl [1, 2, 0] rfl)
      · have hp := hp.2 c_2
        refine lv_iload_n hx hb dX8_kindOf_22 rfl (lv_at hl 2 rfl) ?_
        exact hR _ _ _ _ _ _ dX8_kindOf_23 hp hS
set_option maxHeartbeats 4000000 in
set_option maxRecDepth 100000 in
theorem rX8_kindOf {l : Launch} {g : Gw} {w : Wd} {post : Int32 → Wd → Prop}   {x1 : Int64} (hp : pX8_kindOf post x1 w) : MtI tabX l yX8_kindOf cX8_kindOf 4 (some .int) 1 g w [.ref (g.2.2 20), .long x1] post := by
  refine q_entI tabX_nd (by decide) rfl (Nat.le_of_ble_eq_true rfl) ?_
  intro p e s m args below meth c A Q ls hC hR hS hl
  have hx := hC.1
  have hb := hC.2.1
  have hl : lv_has ls 4 [(0, .ref (g.2.2 20)), (1, .long x1)] := hl
  unfold pX8_kindOf at hp
  refine lv_iconst hx hb dX8_kindOf_0 kI_0 ?_
  refine lv_istore_n (lv' := [(3, .int (0 : Int32)), (0, .ref (g.2.2 20)), (1, .long x1)]) hx hb dX8_kindOf_1 rfl hl (by decide) rfl (fun ls hl => ?_)
  obtain ⟨n9, hp⟩ := hp
  exact bX8_kindOf_2 hC hR n9 x1 (0 : Int32) w _ _ _ hp hS (lv_sub hl [1, 2, 0] rfl)
def pX8_withLetter (post : Int64 → Wd → Prop) (x0 : Int64) (x2 : Int32) (w : Wd) : Prop := post ((((x0 * (27 : Int64)) + (x2).toInt64) - (97 : Int64)) + (1 : Int64)) w
set_option maxHeartbeats 4000000 in
set_option maxRecDepth 100000 in
theorem rX8_withLetter {l : Launch} {g : Gw} {w : Wd} {post : Int64 → Wd → Prop}   {x0 : Int64} {x2 : Int32} (hp : pX8_withLetter post x0 x2 w) : MtL tabX l yX8_withLetter cX8_withLetter 3 (some .long) 1 g w [.long x0, .int x2] post := by
  refine q_entL tabX_nd (by decide) rfl (Nat.le_of_ble_eq_true rfl) ?_
  intro p e s m args below meth c A Q ls hC hR hS hl
  have hx := hC.1
  have hb := hC.2.1
  have hl : lv_has ls 3 [(0, .long x0), (2, .int x2)] := hl
  unfold pX8_withLetter at hp
  refine lv_lload_n hx hb dX8_withLetter_0 rfl (lv_at hl 0 rfl) ?_
  refine lv_ldc2 hx hb hC.2.2.2.1 (hC.2.2.2.2.1 _ m122) dX8_withLetter_1 ?_
  refine lv_lmul hx hb dX8_withLetter_4 ?_
  refine lv_iload_n hx hb dX8_withLetter_5 rfl (lv_at hl 1 rfl) ?_
  refine lv_i2l hx hb dX8_withLetter_6 rfl ?_
  refine lv_ladd hx hb dX8_withLetter_7 ?_
  refine lv_ldc2 hx hb hC.2.2.2.1 (hC.2.2.2.2.1 _ m123) dX8_withLetter_8 ?_
  refine lv_lsub hx hb dX8_withLetter_11 ?_
  refine lv_lconst hx hb dX8_withLetter_12 kL_1 ?_
  refine lv_ladd hx hb dX8_withLetter_13 ?_
  exact hR _ _ _ _ _ _ dX8_withLetter_14 hp hS
def pX8_splitWord_39 (post : Int32 → Wd → Prop) (x2 : Int32) (x3 : Int32) (x4 : Int64) (x6 : Int32) (w : Wd) : Prop := ((x6 - x2) ≤ (8 : Int32) → (pX8_kindOf (fun r_2 w_3 => pX8_add (fun w_4 => post x6 w_4) r_2 x2 x4 w_3) x4 w)) ∧ (¬ (x6 - x2) ≤ (8 : Int32) → (pX8_add (fun w_5 => post x3 w_5) (23 : Int32) x2 (0 : Int64) w))
def pX8_splitWord_6 (post : Int32 → Wd → Prop) : Nat → Int32 → Int32 → Int64 → Int32 → Wd → Prop
  | 0, _, _, _, _, _ => False
  | n + 1, x2, x3, x4, x6, w => (x3 ≤ x6 → (pX8_splitWord_39 post x2 x3 x4 x6 w)) ∧ (¬ x3 ≤ x6 → (vp_in x6 1600 ∧ pX8_isLetter (fun r_2 w_3 => (r_2 = 0 → (pX8_splitWord_39 post x2 x3 x4 x6 w_3)) ∧ (¬ r_2 = 0 → (vp_in x6 1600 ∧ pX8_withLetter (fun r_5 w_6 => ∀ x6_7, x6_7 = x6 + (1 : Int32) → pX8_splitWord_6 post n x2 x3 r_5 x6_7 w_6) x4 (w_3.2.1 1 x6.toNatClampNeg) w_3))) (w.2.1 1 x6.toNatClampNeg) w))
def pX8_splitWord (post : Int32 → Wd → Prop) (x2 : Int32) (x3 : Int32) (w : Wd) : Prop := ∃ n9, pX8_splitWord_6 post n9 x2 x3 (0 : Int64) x2 w
set_option maxHeartbeats 4000000 in
set_option maxRecDepth 100000 in
theorem bX8_splitWord_39 {p : Program} {l : Launch} {e : Env} {s : State} {m : MethodId} {args : Array Value} {below : List Frame} {meth : Method} {c : Code} {Q : State → Prop} {A : Nat → Prop} {g : Gw} {post : Int32 → Wd → Prop}  (hC : Cx p s m args c cX8_splitWord RX8 7 g) (hR : RtI tabX p l e (rk 2) s m args below meth c Q cX8_splitWord A g post)  : ∀ (x2 : Int32) (x3 : Int32) (x4 : Int64) (x6 : Int32) (w : Wd) (H : Heap) (locs : List Loc) (ls : Array Slot), pX8_splitWord_39 post x2 x3 x4 x6 w → St tabX A s.heap g w H locs → lv_has ls 7 [(0, .ref (g.2.2 20)), (1, .ref (g.2.2 1)), (2, .int x2), (3, .int x3), (4, .long x4), (6, .int x6)] → W p l e (rk 2) s m args below meth c H locs 0 0 Q (F0 m 39 ls []) := by
  have hx := hC.1
  have hb := hC.2.1
  intro x2 x3 x4 x6 w H locs ls hp hS hl
  unfold pX8_splitWord_39 at hp
  refine lv_iload hx hb dX8_splitWord_39 (lv_at hl 5 rfl) ?_
  refine lv_iload_n hx hb dX8_splitWord_41 rfl (lv_at hl 2 rfl) ?_
  refine lv_isub hx hb dX8_splitWord_42 ?_
  refine lv_bipush hx hb dX8_splitWord_43 kB_8 ?_
  refine lv_icmp_le (tgt := 58) hx hb dX8_splitWord_45 (by decide) (fun c_1 => ?_) (fun c_1 => ?_)
  · have hp := hp.1 c_1
    refine lv_aload_n hx hb dX8_splitWord_58 rfl (lv_at hl 0 rfl) ?_
    refine lv_aload_n hx hb dX8_splitWord_59 rfl (lv_at hl 0 rfl) ?_
    refine lv_lload hx hb dX8_splitWord_60 (lv_at hl 4 rfl) ?_
    refine q_cvI (As := [.long x4]) (rest := [.ref (g.2.2 20)]) hC hS hl.1 (rX8_kindOf hp) cwX8_73 yvX8_kindOf (rcv_20 hC hS) rfl rfl (Nat.le_of_ble_eq_true rfl) (rmk (by decide) (by decide)) dX8_splitWord_62 (fun r_2 w_3 H locs hp hS => ?_)
    refine lv_iload_n hx hb dX8_splitWord_65 rfl (lv_at hl 2 rfl) ?_
    refine lv_lload hx hb dX8_splitWord_66 (lv_at hl 4 rfl) ?_
    refine q_cvV (As := [.int r_2, .int x2, .long x4]) (rest := []) hC hS hl.1 (rX8_add hp) cwX8_69 yvX8_add (rcv_20 hC hS) rfl rfl (Nat.le_of_ble_eq_true rfl) (rmk (by decide) (by decide)) dX8_splitWord_68 (fun w_4 H locs hp hS => ?_)
    refine lv_iload hx hb dX8_splitWord_71 (lv_at hl 5 rfl) ?_
    exact hR _ _ _ _ _ _ dX8_splitWord_73 hp hS
  · have hp := hp.2 c_1
    refine lv_aload_n hx hb dX8_splitWord_48 rfl (lv_at hl 0 rfl) ?_
    refine lv_bipush hx hb dX8_splitWord_49 kB_23 ?_
    refine lv_iload_n hx hb dX8_splitWord_51 rfl (lv_at hl 2 rfl) ?_
    refine lv_lconst hx hb dX8_splitWord_52 kL_0 ?_
    refine q_cvV (As := [.int (23 : Int32), .int x2, .long (0 : Int64)]) (rest := []) hC hS hl.1 (rX8_add hp) cwX8_69 yvX8_add (rcv_20 hC hS) rfl rfl (Nat.le_of_ble_eq_true rfl) (rmk (by decide) (by decide)) dX8_splitWord_53 (fun w_5 H locs hp hS => ?_)
    refine lv_iload_n hx hb dX8_splitWord_56 rfl (lv_at hl 3 rfl) ?_
    exact hR _ _ _ _ _ _ dX8_splitWord_57 hp hS
set_option maxHeartbeats 4000000 in
set_option maxRecDepth 100000 in
theorem bX8_splitWord_6 {p : Program} {l : Launch} {e : Env} {s : State} {m : MethodId} {args : Array Value} {below : List Frame} {meth : Method} {c : Code} {Q : State → Prop} {A : Nat → Prop} {g : Gw} {post : Int32 → Wd → Prop}  (hC : Cx p s m args c cX8_splitWord RX8 7 g) (hR : RtI tabX p l e (rk 2) s m args below meth c Q cX8_splitWord A g post)  : ∀ (n : Nat) (x2 : Int32) (x3 : Int32) (x4 : Int64) (x6 : Int32) (w : Wd) (H : Heap) (locs : List Loc) (ls : Array Slot), pX8_splitWord_6 post n x2 x3 x4 x6 w → St tabX A s.heap g w H locs → lv_has ls 7 [(0, .ref (g.2.2 20)), (1, .ref (g.2.2 1)), (2, .int x2), (3, .int x3), (4, .long x4), (6, .int x6)] → W p l e (rk 2) s m args below meth c H locs 0 0 Q (F0 m 6 ls []) := by
  have hx := hC.1
  have hb := hC.2.1
  intro n
  induction n with
  | zero =>
    intro x2 x3 x4 x6 w H locs ls hp hS hl
    exact False.elim hp
  | succ n ih =>
    intro x2 x3 x4 x6 w H locs ls hp hS hl
    unfold pX8_splitWord_6 at hp
    refine lv_iload hx hb dX8_splitWord_6 (lv_at hl 5 rfl) ?_
    refine lv_iload_n hx hb dX8_splitWord_8 rfl (lv_at hl 3 rfl) ?_
    refine lv_icmp_ge (tgt := 39) hx hb dX8_splitWord_9 (by decide) (fun c_1 => ?_) (fun c_1 => ?_)
    · have hp := hp.1 c_1
      exact bX8_splitWord_39 hC hR x2 x3 x4 x6 w _ _ _ hp hS (lv_sub hl [0, 1, 2, 3, 4, 5] rfl)
    · have hp := hp.2 c_1
      refine lv_aload_n hx hb dX8_splitWord_12 rfl (lv_at hl 1 rfl) ?_
      refine lv_iload hx hb dX8_splitWord_13 (lv_at hl 5 rfl) ?_
      refine La_1 hC hS hp.1 dX8_splitWord_15 ?_
      have hp := hp.2
      refine q_csI (As := [.int (w.2.1 1 x6.toNatClampNeg)]) (rest := []) hC hS hl.1 (rX8_isLetter hp) cwX8_51 ysX8_isLetter rfl rfl (Nat.le_of_ble_eq_true rfl) (rmk (by decide) (by decide)) dX8_splitWord_16 (fun r_2 w_3 H locs hp hS => ?_)
      refine lv_if_eq (tgt := 39) hx hb dX8_splitWord_19 (by decide) (fun c_4 => ?_) (fun c_4 => ?_)
      · have hp := hp.1 c_4
        exact bX8_splitWord_39 hC hR x2 x3 x4 x6 w_3 _ _ _ hp hS (lv_sub hl [0, 1, 2, 3, 4, 5] rfl)
      · have hp := hp.2 c_4
        refine lv_lload hx hb dX8_splitWord_22 (lv_at hl 4 rfl) ?_
        refine lv_aload_n hx hb dX8_splitWord_24 rfl (lv_at hl 1 rfl) ?_
        refine lv_iload hx hb dX8_splitWord_25 (lv_at hl 5 rfl) ?_
        refine La_1 hC hS hp.1 dX8_splitWord_27 ?_
        have hp := hp.2
        refine q_csL (As := [.long x4, .int (w_3.2.1 1 x6.toNatClampNeg)]) (rest := []) hC hS hl.1 (rX8_withLetter hp) cwX8_37 ysX8_withLetter rfl rfl (Nat.le_of_ble_eq_true rfl) (rmk (by decide) (by decide)) dX8_splitWord_28 (fun r_5 w_6 H locs hp hS => ?_)
        refine lv_lstore (lv' := [(4, .long r_5), (0, .ref (g.2.2 20)), (1, .ref (g.2.2 1)), (2, .int x2), (3, .int x3), (6, .int x6)]) hx hb dX8_splitWord_31 hl (by decide) rfl (fun ls hl => ?_)
        obtain ⟨x6_7, ex6_7⟩ : ∃ y : Int32, y = x6 + (1 : Int32) := ⟨_, rfl⟩
        have hp := hp x6_7 ex6_7
        refine lv_iinc (v := x6_7) (lv' := [(6, .int x6_7), (4, .long r_5), (0, .ref (g.2.2 20)), (1, .ref (g.2.2 1)), (2, .int x2), (3, .int x3)]) hx hb dX8_splitWord_33 hl (k := 5) rfl (by rw [ex6_7]; rfl) (by decide) rfl (fun ls hl => ?_)
        refine lv_goto (tgt := 6) hx hb dX8_splitWord_36 (by decide) ?_
        exact ih x2 x3 r_5 x6_7 w_6 _ _ _ hp hS (lv_sub hl [2, 3, 4, 5, 1, 0] rfl)
set_option maxHeartbeats 4000000 in
set_option maxRecDepth 100000 in
theorem rX8_splitWord {l : Launch} {g : Gw} {w : Wd} {post : Int32 → Wd → Prop}   {x2 : Int32} {x3 : Int32} (hp : pX8_splitWord post x2 x3 w) : MtI tabX l yX8_splitWord cX8_splitWord 7 (some .int) 2 g w [.ref (g.2.2 20), .ref (g.2.2 1), .int x2, .int x3] post := by
  refine q_entI tabX_nd (by decide) rfl (Nat.le_of_ble_eq_true rfl) ?_
  intro p e s m args below meth c A Q ls hC hR hS hl
  have hx := hC.1
  have hb := hC.2.1
  have hl : lv_has ls 7 [(0, .ref (g.2.2 20)), (1, .ref (g.2.2 1)), (2, .int x2), (3, .int x3)] := hl
  unfold pX8_splitWord at hp
  refine lv_lconst hx hb dX8_splitWord_0 kL_0 ?_
  refine lv_lstore (lv' := [(4, .long (0 : Int64)), (0, .ref (g.2.2 20)), (1, .ref (g.2.2 1)), (2, .int x2), (3, .int x3)]) hx hb dX8_splitWord_1 hl (by decide) rfl (fun ls hl => ?_)
  refine lv_iload_n hx hb dX8_splitWord_3 rfl (lv_at hl 3 rfl) ?_
  refine lv_istore (lv' := [(6, .int x2), (4, .long (0 : Int64)), (0, .ref (g.2.2 20)), (1, .ref (g.2.2 1)), (2, .int x2), (3, .int x3)]) hx hb dX8_splitWord_4 hl (by decide) rfl (fun ls hl => ?_)
  obtain ⟨n9, hp⟩ := hp
  exact bX8_splitWord_6 hC hR n9 x2 x3 (0 : Int64) x2 w _ _ _ hp hS (lv_sub hl [2, 3, 4, 5, 1, 0] rfl)
def pX8_split_116 (k18 : Int32 → Int32 → Int32 → Int32 → Wd → Prop) (post : Wd → Prop) (x2 : Int32) (x3 : Int32) (x4 : Int32) (x5 : Int32) (w : Wd) : Prop := ∀ x5_1, x5_1 = x5 + (1 : Int32) → k18 x2 x3 x4 x5_1 w
def pX8_split_57 (k18 : Int32 → Int32 → Int32 → Int32 → Wd → Prop) (post : Wd → Prop) (x2 : Int32) (x3 : Int32) (x4 : Int32) (x5 : Int32) (w : Wd) : Prop := ∀ x4_1, x4_1 = x4 + (1 : Int32) → pX8_split_116 k18 post x2 x3 x4_1 x5 w
def pX8_split_18 (post : Wd → Prop) : Nat → Int32 → Int32 → Int32 → Int32 → Wd → Prop
  | 0, _, _, _, _, _ => False
  | n + 1, x2, x3, x4, x5, w => ((1600 : Int32) ≤ x5 → (pX8_add (fun w_2 => post w_2) (22 : Int32) x2 (0 : Int64) w)) ∧ (¬ (1600 : Int32) ≤ x5 → ((x4 < 0 → (pX8_add (fun w_4 => post w_4) (22 : Int32) x2 (0 : Int64) w)) ∧ (¬ x4 < 0 → ((x3 ≤ x4 → (pX8_add (fun w_6 => post w_6) (22 : Int32) x2 (0 : Int64) w)) ∧ (¬ x3 ≤ x4 → (vp_in x4 1600 ∧ ∀ x6_7, x6_7 = (w.2.1 1 x4.toNatClampNeg) → (x6_7 = (32 : Int32) → (pX8_split_57 (pX8_split_18 post n) post x2 x3 x4 x5 w)) ∧ (¬ x6_7 = (32 : Int32) → ((¬ x6_7 = (10 : Int32) → (pX8_isLetter (fun r_10 w_11 => (r_10 = 0 → (pX8_isDigit (fun r_13 w_14 => (r_13 = 0 → (pX8_splitSign (fun r_16 w_17 => pX8_split_116 (pX8_split_18 post n) post x2 x3 r_16 x5 w_17) x6_7 x4 x3 w_14)) ∧ (¬ r_13 = 0 → (pX8_splitNumber (fun r_18 w_19 => pX8_split_116 (pX8_split_18 post n) post x2 x3 r_18 x5 w_19) x4 x3 w_14))) x6_7 w_11)) ∧ (¬ r_10 = 0 → (pX8_splitWord (fun r_20 w_21 => pX8_split_116 (pX8_split_18 post n) post x2 x3 r_20 x5 w_21) x4 x3 w_11))) x6_7 w)) ∧ (x6_7 = (10 : Int32) → (pX8_split_57 (pX8_split_18 post n) post x2 x3 x4 x5 w))))))))))
def pX8_split (post : Wd → Prop) (x2 : Int32) (w : Wd) : Prop := ∀ w_1, w_1 = sI w 20 3 (0 : Int32) → ∀ x3_2, x3_2 = (if (1600 : Int32) < x2 then (1600 : Int32) else x2) → ∃ n9, pX8_split_18 post n9 x2 x3_2 (0 : Int32) (0 : Int32) w_1
set_option maxHeartbeats 4000000 in
set_option maxRecDepth 100000 in
theorem bX8_split_116 {p : Program} {l : Launch} {e : Env} {s : State} {m : MethodId} {args : Array Value} {below : List Frame} {meth : Method} {c : Code} {Q : State → Prop} {A : Nat → Prop} {g : Gw} {post : Wd → Prop}  (hC : Cx p s m args c cX8_split RX8 7 g) (hR : RtV tabX p l e (rk 3) s m args below meth c Q cX8_split A g post)  {k18 : Int32 → Int32 → Int32 → Int32 → Wd → Prop} (hk18 : ∀ (x2 : Int32) (x3 : Int32) (x4 : Int32) (x5 : Int32) (w : Wd) (H : Heap) (locs : List Loc) (ls : Array Slot), k18 x2 x3 x4 x5 w → St tabX A s.heap g w H locs → lv_has ls 7 [(0, .ref (g.2.2 20)), (1, .ref (g.2.2 1)), (2, .int x2), (3, .int x3), (4, .int x4), (5, .int x5)] → W p l e (rk 3) s m args below meth c H locs 0 0 Q (F0 m 18 ls [])) : ∀ (x2 : Int32) (x3 : Int32) (x4 : Int32) (x5 : Int32) (w : Wd) (H : Heap) (locs : List Loc) (ls : Array Slot), pX8_split_116 k18 post x2 x3 x4 x5 w → St tabX A s.heap g w H locs → lv_has ls 7 [(0, .ref (g.2.2 20)), (1, .ref (g.2.2 1)), (2, .int x2), (3, .int x3), (4, .int x4), (5, .int x5)] → W p l e (rk 3) s m args below meth c H locs 0 0 Q (F0 m 116 ls []) := by
  have hx := hC.1
  have hb := hC.2.1
  intro x2 x3 x4 x5 w H locs ls hp hS hl
  unfold pX8_split_116 at hp
  obtain ⟨x5_1, ex5_1⟩ : ∃ y : Int32, y = x5 + (1 : Int32) := ⟨_, rfl⟩
  have hp := hp x5_1 ex5_1
  refine lv_iinc (v := x5_1) (lv' := [(5, .int x5_1), (0, .ref (g.2.2 20)), (1, .ref (g.2.2 1)), (2, .int x2), (3, .int x3), (4, .int x4)]) hx hb dX8_split_116 hl (k := 5) rfl (by rw [ex5_1]; rfl) (by decide) rfl (fun ls hl => ?_)
  refine lv_goto (tgt := 18) hx hb dX8_split_119 (by decide) ?_
  exact hk18 x2 x3 x4 x5_1 w _ _ _ hp hS (lv_sub hl [1, 2, 3, 4, 5, 0] rfl)
set_option maxHeartbeats 4000000 in
set_option maxRecDepth 100000 in
theorem bX8_split_57 {p : Program} {l : Launch} {e : Env} {s : State} {m : MethodId} {args : Array Value} {below : List Frame} {meth : Method} {c : Code} {Q : State → Prop} {A : Nat → Prop} {g : Gw} {post : Wd → Prop}  (hC : Cx p s m args c cX8_split RX8 7 g) (hR : RtV tabX p l e (rk 3) s m args below meth c Q cX8_split A g post)  {k18 : Int32 → Int32 → Int32 → Int32 → Wd → Prop} (hk18 : ∀ (x2 : Int32) (x3 : Int32) (x4 : Int32) (x5 : Int32) (w : Wd) (H : Heap) (locs : List Loc) (ls : Array Slot), k18 x2 x3 x4 x5 w → St tabX A s.heap g w H locs → lv_has ls 7 [(0, .ref (g.2.2 20)), (1, .ref (g.2.2 1)), (2, .int x2), (3, .int x3), (4, .int x4), (5, .int x5)] → W p l e (rk 3) s m args below meth c H locs 0 0 Q (F0 m 18 ls [])) : ∀ (x2 : Int32) (x3 : Int32) (x4 : Int32) (x5 : Int32) (w : Wd) (H : Heap) (locs : List Loc) (ls : Array Slot), pX8_split_57 k18 post x2 x3 x4 x5 w → St tabX A s.heap g w H locs → lv_has ls 7 [(0, .ref (g.2.2 20)), (1, .ref (g.2.2 1)), (2, .int x2), (3, .int x3), (4, .int x4), (5, .int x5)] → W p l e (rk 3) s m args below meth c H locs 0 0 Q (F0 m 57 ls []) := by
  have hx := hC.1
  have hb := hC.2.1
  intro x2 x3 x4 x5 w H locs ls hp hS hl
  unfold pX8_split_57 at hp
  obtain ⟨x4_1, ex4_1⟩ : ∃ y : Int32, y = x4 + (1 : Int32) := ⟨_, rfl⟩
  have hp := hp x4_1 ex4_1
  refine lv_iinc (v := x4_1) (lv' := [(4, .int x4_1), (0, .ref (g.2.2 20)), (1, .ref (g.2.2 1)), (2, .int x2), (3, .int x3), (5, .int x5)]) hx hb dX8_split_57 hl (k := 4) rfl (by rw [ex4_1]; rfl) (by decide) rfl (fun ls hl => ?_)
  refine lv_goto (tgt := 116) hx hb dX8_split_60 (by decide) ?_
  exact bX8_split_116 hC hR hk18 x2 x3 x4_1 x5 w _ _ _ hp hS (lv_sub hl [1, 2, 3, 4, 0, 5] rfl)
set_option maxHeartbeats 4000000 in
set_option maxRecDepth 100000 in
theorem bX8_split_18 {p : Program} {l : Launch} {e : Env} {s : State} {m : MethodId} {args : Array Value} {below : List Frame} {meth : Method} {c : Code} {Q : State → Prop} {A : Nat → Prop} {g : Gw} {post : Wd → Prop}  (hC : Cx p s m args c cX8_split RX8 7 g) (hR : RtV tabX p l e (rk 3) s m args below meth c Q cX8_split A g post)  : ∀ (n : Nat) (x2 : Int32) (x3 : Int32) (x4 : Int32) (x5 : Int32) (w : Wd) (H : Heap) (locs : List Loc) (ls : Array Slot), pX8_split_18 post n x2 x3 x4 x5 w → St tabX A s.heap g w H locs → lv_has ls 7 [(0, .ref (g.2.2 20)), (1, .ref (g.2.2 1)), (2, .int x2), (3, .int x3), (4, .int x4), (5, .int x5)] → W p l e (rk 3) s m args below meth c H locs 0 0 Q (F0 m 18 ls []) := by
  have hx := hC.1
  have hb := hC.2.1
  intro n
  induction n with
  | zero =>
    intro x2 x3 x4 x5 w H locs ls hp hS hl
    exact False.elim hp
  | succ n ih =>
    intro x2 x3 x4 x5 w H locs ls hp hS hl
    unfold pX8_split_18 at hp
    refine lv_iload hx hb dX8_split_18 (lv_at hl 5 rfl) ?_
    refine lv_sipush hx hb dX8_split_20 kS_1600 ?_
    refine lv_icmp_ge (tgt := 122) hx hb dX8_split_23 (by decide) (fun c_1 => ?_) (fun c_1 => ?_)
    · have hp := hp.1 c_1
      refine lv_aload_n hx hb dX8_split_122 rfl (lv_at hl 0 rfl) ?_
      refine lv_bipush hx hb dX8_split_123 kB_22 ?_
      refine lv_iload_n hx hb dX8_split_125 rfl (lv_at hl 2 rfl) ?_
      refine lv_lconst hx hb dX8_split_126 kL_0 ?_
      refine q_cvV (As := [.int (22 : Int32), .int x2, .long (0 : Int64)]) (rest := []) hC hS hl.1 (rX8_add hp) cwX8_69 yvX8_add (rcv_20 hC hS) rfl rfl (Nat.le_of_ble_eq_true rfl) (rmk (by decide) (by decide)) dX8_split_127 (fun w_2 H locs hp hS => ?_)
      exact hR _ _ _ _ _ dX8_split_130 hp hS
    · have hp := hp.2 c_1
      refine lv_iload hx hb dX8_split_26 (lv_at hl 4 rfl) ?_
      refine lv_if_lt (tgt := 122) hx hb dX8_split_28 (by decide) (fun c_3 => ?_) (fun c_3 => ?_)
      · have hp := hp.1 c_3
        refine lv_aload_n hx hb dX8_split_122 rfl (lv_at hl 0 rfl) ?_
        refine lv_bipush hx hb dX8_split_123 kB_22 ?_
        refine lv_iload_n hx hb dX8_split_125 rfl (lv_at hl 2 rfl) ?_
        refine lv_lconst hx hb dX8_split_126 kL_0 ?_
        refine q_cvV (As := [.int (22 : Int32), .int x2, .long (0 : Int64)]) (rest := []) hC hS hl.1 (rX8_add hp) cwX8_69 yvX8_add (rcv_20 hC hS) rfl rfl (Nat.le_of_ble_eq_true rfl) (rmk (by decide) (by decide)) dX8_split_127 (fun w_4 H locs hp hS => ?_)
        exact hR _ _ _ _ _ dX8_split_130 hp hS
      · have hp := hp.2 c_3
        refine lv_iload hx hb dX8_split_31 (lv_at hl 4 rfl) ?_
        refine lv_iload_n hx hb dX8_split_33 rfl (lv_at hl 3 rfl) ?_
        refine lv_icmp_ge (tgt := 122) hx hb dX8_split_34 (by decide) (fun c_5 => ?_) (fun c_5 => ?_)
        · have hp := hp.1 c_5
          refine lv_aload_n hx hb dX8_split_122 rfl (lv_at hl 0 rfl) ?_
          refine lv_bipush hx hb dX8_split_123 kB_22 ?_
          refine lv_iload_n hx hb dX8_split_125 rfl (lv_at hl 2 rfl) ?_
          refine lv_lconst hx hb dX8_split_126 kL_0 ?_
          refine q_cvV (As := [.int (22 : Int32), .int x2, .long (0 : Int64)]) (rest := []) hC hS hl.1 (rX8_add hp) cwX8_69 yvX8_add (rcv_20 hC hS) rfl rfl (Nat.le_of_ble_eq_true rfl) (rmk (by decide) (by decide)) dX8_split_127 (fun w_6 H locs hp hS => ?_)
          exact hR _ _ _ _ _ dX8_split_130 hp hS
        · have hp := hp.2 c_5
          refine lv_aload_n hx hb dX8_split_37 rfl (lv_at hl 1 rfl) ?_
          refine lv_iload hx hb dX8_split_38 (lv_at hl 4 rfl) ?_
          refine La_1 hC hS hp.1 dX8_split_40 ?_
          have hp := hp.2
          refine lv_topi (fun x6_7 ex6_7 => ?_)
          have hp := hp x6_7 ex6_7
          refine lv_istore (lv' := [(6, .int x6_7), (0, .ref (g.2.2 20)), (1, .ref (g.2.2 1)), (2, .int x2), (3, .int x3), (4, .int x4), (5, .int x5)]) hx hb dX8_split_41 hl (by decide) rfl (fun ls hl => ?_)
          refine lv_iload hx hb dX8_split_43 (lv_at hl 0 rfl) ?_
          refine lv_bipush hx hb dX8_split_45 kB_32 ?_
          refine lv_icmp_eq (tgt := 57) hx hb dX8_split_47 (by decide) (fun c_8 => ?_) (fun c_8 => ?_)
          · have hp := hp.1 c_8
            exact bX8_split_57 hC hR ih x2 x3 x4 x5 w _ _ _ hp hS (lv_sub hl [1, 2, 3, 4, 5, 6] rfl)
          · have hp := hp.2 c_8
            refine lv_iload hx hb dX8_split_50 (lv_at hl 0 rfl) ?_
            refine lv_bipush hx hb dX8_split_52 kB_10 ?_
            refine lv_icmp_ne (tgt := 63) hx hb dX8_split_54 (by decide) (fun c_9 => ?_) (fun c_9 => ?_)
            · have hp := hp.1 c_9
              refine lv_iload hx hb dX8_split_63 (lv_at hl 0 rfl) ?_
              refine q_csI (As := [.int x6_7]) (rest := []) hC hS hl.1 (rX8_isLetter hp) cwX8_51 ysX8_isLetter rfl rfl (Nat.le_of_ble_eq_true rfl) (rmk (by decide) (by decide)) dX8_split_65 (fun r_10 w_11 H locs hp hS => ?_)
              refine lv_if_eq (tgt := 84) hx hb dX8_split_68 (by decide) (fun c_12 => ?_) (fun c_12 => ?_)
              · have hp := hp.1 c_12
                refine lv_iload hx hb dX8_split_84 (lv_at hl 0 rfl) ?_
                refine q_csI (As := [.int x6_7]) (rest := []) hC hS hl.1 (rX8_isDigit hp) cwX8_59 ysX8_isDigit rfl rfl (Nat.le_of_ble_eq_true rfl) (rmk (by decide) (by decide)) dX8_split_86 (fun r_13 w_14 H locs hp hS => ?_)
                refine lv_if_eq (tgt := 105) hx hb dX8_split_89 (by decide) (fun c_15 => ?_) (fun c_15 => ?_)
                · have hp := hp.1 c_15
                  refine lv_aload_n hx hb dX8_split_105 rfl (lv_at hl 1 rfl) ?_
                  refine lv_iload hx hb dX8_split_106 (lv_at hl 0 rfl) ?_
                  refine lv_iload hx hb dX8_split_108 (lv_at hl 5 rfl) ?_
                  refine lv_iload_n hx hb dX8_split_110 rfl (lv_at hl 4 rfl) ?_
                  refine q_cvI (As := [.int x6_7, .int x4, .int x3]) (rest := []) hC hS hl.1 (rX8_splitSign hp) cwX8_65 yvX8_splitSign (rcv_20 hC hS) rfl rfl (Nat.le_of_ble_eq_true rfl) (rmk (by decide) (by decide)) dX8_split_111 (fun r_16 w_17 H locs hp hS => ?_)
                  refine lv_istore (lv' := [(4, .int r_16), (6, .int x6_7), (0, .ref (g.2.2 20)), (1, .ref (g.2.2 1)), (2, .int x2), (3, .int x3), (5, .int x5)]) hx hb dX8_split_114 hl (by decide) rfl (fun ls hl => ?_)
                  exact bX8_split_116 hC hR ih x2 x3 r_16 x5 w_17 _ _ _ hp hS (lv_sub hl [2, 3, 4, 5, 0, 6] rfl)
                · have hp := hp.2 c_15
                  refine lv_aload_n hx hb dX8_split_92 rfl (lv_at hl 1 rfl) ?_
                  refine lv_aload_n hx hb dX8_split_93 rfl (lv_at hl 2 rfl) ?_
                  refine lv_iload hx hb dX8_split_94 (lv_at hl 5 rfl) ?_
                  refine lv_iload_n hx hb dX8_split_96 rfl (lv_at hl 4 rfl) ?_
                  refine q_cvI (As := [.ref (g.2.2 1), .int x4, .int x3]) (rest := []) hC hS hl.1 (rX8_splitNumber hp) cwX8_62 yvX8_splitNumber (rcv_20 hC hS) rfl rfl (Nat.le_of_ble_eq_true rfl) (rmk (by decide) (by decide)) dX8_split_97 (fun r_18 w_19 H locs hp hS => ?_)
                  refine lv_istore (lv' := [(4, .int r_18), (6, .int x6_7), (0, .ref (g.2.2 20)), (1, .ref (g.2.2 1)), (2, .int x2), (3, .int x3), (5, .int x5)]) hx hb dX8_split_100 hl (by decide) rfl (fun ls hl => ?_)
                  refine lv_goto (tgt := 116) hx hb dX8_split_102 (by decide) ?_
                  exact bX8_split_116 hC hR ih x2 x3 r_18 x5 w_19 _ _ _ hp hS (lv_sub hl [2, 3, 4, 5, 0, 6] rfl)
              · have hp := hp.2 c_12
                refine lv_aload_n hx hb dX8_split_71 rfl (lv_at hl 1 rfl) ?_
                refine lv_aload_n hx hb dX8_split_72 rfl (lv_at hl 2 rfl) ?_
                refine lv_iload hx hb dX8_split_73 (lv_at hl 5 rfl) ?_
                refine lv_iload_n hx hb dX8_split_75 rfl (lv_at hl 4 rfl) ?_
                refine q_cvI (As := [.ref (g.2.2 1), .int x4, .int x3]) (rest := []) hC hS hl.1 (rX8_splitWord hp) cwX8_55 yvX8_splitWord (rcv_20 hC hS) rfl rfl (Nat.le_of_ble_eq_true rfl) (rmk (by decide) (by decide)) dX8_split_76 (fun r_20 w_21 H locs hp hS => ?_)
                refine lv_istore (lv' := [(4, .int r_20), (6, .int x6_7), (0, .ref (g.2.2 20)), (1, .ref (g.2.2 1)), (2, .int x2), (3, .int x3), (5, .int x5)]) hx hb dX8_split_79 hl (by decide) rfl (fun ls hl => ?_)
                refine lv_goto (tgt := 116) hx hb dX8_split_81 (by decide) ?_
                exact bX8_split_116 hC hR ih x2 x3 r_20 x5 w_21 _ _ _ hp hS (lv_sub hl [2, 3, 4, 5, 0, 6] rfl)
            · have hp := hp.2 c_9
              exact bX8_split_57 hC hR ih x2 x3 x4 x5 w _ _ _ hp hS (lv_sub hl [1, 2, 3, 4, 5, 6] rfl)
set_option maxHeartbeats 4000000 in
set_option maxRecDepth 100000 in
theorem rX8_split {l : Launch} {g : Gw} {w : Wd} {post : Wd → Prop}   {x2 : Int32} (hp : pX8_split post x2 w) : MtV tabX l yX8_split cX8_split 7 none 3 g w [.ref (g.2.2 20), .ref (g.2.2 1), .int x2] post := by
  refine q_entV tabX_nd (by decide) rfl (Nat.le_of_ble_eq_true rfl) ?_
  intro p e s m args below meth c A Q ls hC hR hS hl
  have hx := hC.1
  have hb := hC.2.1
  have hl : lv_has ls 7 [(0, .ref (g.2.2 20)), (1, .ref (g.2.2 1)), (2, .int x2)] := hl
  unfold pX8_split at hp
  refine lv_aload_n hx hb dX8_split_0 rfl (lv_at hl 0 rfl) ?_
  refine lv_iconst hx hb dX8_split_1 kI_0 ?_
  refine P_20_3 hC hS m345 dX8_split_2 (fun w_1 H locs ew_1 hS => ?_)
  have hp := hp w_1 ew_1
  refine lv_iload_n hx hb dX8_split_5 rfl (lv_at hl 2 rfl) ?_
  refine lv_aload_n hx hb dX8_split_6 rfl (lv_at hl 1 rfl) ?_
  refine Na_1 hC hS dX8_split_7 ?_
  refine q_min hC hl.1 m346 m347 m348 m349 (rmm (by decide) (Nat.le_of_ble_eq_true rfl)) dX8_split_8 ?_
  refine lv_topi (fun x3_2 ex3_2 => ?_)
  have hp := hp x3_2 ex3_2
  refine lv_istore_n (lv' := [(3, .int x3_2), (0, .ref (g.2.2 20)), (1, .ref (g.2.2 1)), (2, .int x2)]) hx hb dX8_split_11 rfl hl (by decide) rfl (fun ls hl => ?_)
  refine lv_iconst hx hb dX8_split_12 kI_0 ?_
  refine lv_istore (lv' := [(4, .int (0 : Int32)), (3, .int x3_2), (0, .ref (g.2.2 20)), (1, .ref (g.2.2 1)), (2, .int x2)]) hx hb dX8_split_13 hl (by decide) rfl (fun ls hl => ?_)
  refine lv_iconst hx hb dX8_split_15 kI_0 ?_
  refine lv_istore (lv' := [(5, .int (0 : Int32)), (4, .int (0 : Int32)), (3, .int x3_2), (0, .ref (g.2.2 20)), (1, .ref (g.2.2 1)), (2, .int x2)]) hx hb dX8_split_16 hl (by decide) rfl (fun ls hl => ?_)
  obtain ⟨n9, hp⟩ := hp
  exact bX8_split_18 hC hR n9 x2 x3_2 (0 : Int32) (0 : Int32) w_1 _ _ _ hp hS (lv_sub hl [3, 4, 5, 2, 1, 0] rfl)
def pX10_chancery (post : Int32 → Wd → Prop)  (w : Wd) : Prop := pX8_split (fun w_1 => pX6_read (fun r_2 w_3 => ∀ w_4, w_4 = sI w_3 0 14 r_2 → ∀ w_5, w_5 = sI w_4 0 15 (w_4.1 30 3) → ((w_5.1 0 14) = 0 → (∀ w_7, w_7 = sR w_5 0 (w_5.2.2.2.2 1) → ∀ w_8, w_8 = sR w_7 1 (w_5.2.2.2.2 0) → pX10_beginAnew (fun w_9 => post (w_9.1 (rl (w_9.2.2.2.2 0)) 2) w_9) w_8)) ∧ (¬ (w_5.1 0 14) = 0 → (post (-1 : Int32) w_5))) (w_1.2.2.2.2 1) w_1) (w.1 0 13) w
set_option maxHeartbeats 4000000 in
set_option maxRecDepth 100000 in
theorem rX10_chancery {l : Launch} {g : Gw} {w : Wd} {post : Int32 → Wd → Prop}    (hp : pX10_chancery post  w) : MtI tabX l yX10_chancery cX10_chancery 2 (some .int) 88 g w [.ref (g.2.2 0)] post := by
  refine q_entI tabX_nd (by decide) rfl (Nat.le_of_ble_eq_true rfl) ?_
  intro p e s m args below meth c A Q ls hC hR hS hl
  have hx := hC.1
  have hb := hC.2.1
  have hl : lv_has ls 2 [(0, .ref (g.2.2 0))] := hl
  unfold pX10_chancery at hp
  refine lv_aload_n hx hb dX10_chancery_0 rfl (lv_at hl 0 rfl) ?_
  refine G_0_1 hC hS m17 dX10_chancery_1 ?_
  refine lv_aload_n hx hb dX10_chancery_4 rfl (lv_at hl 0 rfl) ?_
  refine G_0_0 hC hS m13 dX10_chancery_5 ?_
  refine lv_aload_n hx hb dX10_chancery_8 rfl (lv_at hl 0 rfl) ?_
  refine G_0_13 hC hS m222 dX10_chancery_9 ?_
  refine q_cvV (As := [.ref (g.2.2 1), .int (w.1 0 13)]) (rest := []) hC hS hl.1 (rX8_split hp) cwX10_118 yvX8_split (rcv_20 hC hS) rfl rfl (Nat.le_of_ble_eq_true rfl) (rmk (by decide) (by decide)) dX10_chancery_12 (fun w_1 H locs hp hS => ?_)
  refine lv_aload_n hx hb dX10_chancery_15 rfl (lv_at hl 0 rfl) ?_
  refine lv_aload_n hx hb dX10_chancery_16 rfl (lv_at hl 0 rfl) ?_
  refine G_0_2 hC hS m26 dX10_chancery_17 ?_
  refine lv_aload_n hx hb dX10_chancery_20 rfl (lv_at hl 0 rfl) ?_
  refine G_0_17 hC hS m22 dX10_chancery_21 ?_
  refine q_cvI (As := [.ref (g.2.2 (rl (w_1.2.2.2.2 1)))]) (rest := [.ref (g.2.2 0)]) hC hS hl.1 (rX6_read hp) cwX10_122 yvX6_read (rcv_30 hC hS) rfl rfl (Nat.le_of_ble_eq_true rfl) (rmk (by decide) (by decide)) dX10_chancery_24 (fun r_2 w_3 H locs hp hS => ?_)
  refine P_0_14 hC hS m338 dX10_chancery_27 (fun w_4 H locs ew_4 hS => ?_)
  have hp := hp w_4 ew_4
  refine lv_aload_n hx hb dX10_chancery_30 rfl (lv_at hl 0 rfl) ?_
  refine lv_aload_n hx hb dX10_chancery_31 rfl (lv_at hl 0 rfl) ?_
  refine G_0_2 hC hS m26 dX10_chancery_32 ?_
  refine G_30_3 hC hS m339 dX10_chancery_35 ?_
  refine P_0_15 hC hS m60 dX10_chancery_38 (fun w_5 H locs ew_5 hS => ?_)
  have hp := hp w_5 ew_5
  refine lv_aload_n hx hb dX10_chancery_41 rfl (lv_at hl 0 rfl) ?_
  refine G_0_14 hC hS m338 dX10_chancery_42 ?_
  refine lv_if_eq (tgt := 50) hx hb dX10_chancery_45 (by decide) (fun c_6 => ?_) (fun c_6 => ?_)
  · have hp := hp.1 c_6
    refine lv_aload_n hx hb dX10_chancery_50 rfl (lv_at hl 0 rfl) ?_
    refine G_0_16 hC hS m21 dX10_chancery_51 ?_
    refine lv_astore_n (lv' := [(1, .ref (g.2.2 (rl (w_5.2.2.2.2 0)))), (0, .ref (g.2.2 0))]) hx hb dX10_chancery_54 rfl hl (by decide) rfl (fun ls hl => ?_)
    refine lv_aload_n hx hb dX10_chancery_55 rfl (lv_at hl 1 rfl) ?_
    refine lv_aload_n hx hb dX10_chancery_56 rfl (lv_at hl 1 rfl) ?_
    refine G_0_17 hC hS m22 dX10_chancery_57 ?_
    refine P_0_16 hC hS m21 dX10_chancery_60 (fun w_7 H locs ew_7 hS => ?_)
    have hp := hp w_7 ew_7
    refine lv_aload_n hx hb dX10_chancery_63 rfl (lv_at hl 1 rfl) ?_
    refine lv_aload_n hx hb dX10_chancery_64 rfl (lv_at hl 0 rfl) ?_
    refine P_0_17 hC hS m22 dX10_chancery_65 (fun w_8 H locs ew_8 hS => ?_)
    have hp := hp w_8 ew_8
    refine lv_aload_n hx hb dX10_chancery_68 rfl (lv_at hl 1 rfl) ?_
    refine q_cvV (As := []) (rest := []) hC hS hl.1 (rX10_beginAnew hp) cwX10_108 yvX10_beginAnew (rcv_0 hC hS) rfl rfl (Nat.le_of_ble_eq_true rfl) (rmk (by decide) (by decide)) dX10_chancery_69 (fun w_9 H locs hp hS => ?_)
    refine lv_aload_n hx hb dX10_chancery_72 rfl (lv_at hl 1 rfl) ?_
    refine G_0_16 hC hS m21 dX10_chancery_73 ?_
    refine GR_2 hC hS m340 dX10_chancery_76 ?_
    exact hR _ _ _ _ _ _ dX10_chancery_79 hp hS
  · have hp := hp.2 c_6
    refine lv_iconst hx hb dX10_chancery_48 kI_m1 ?_
    exact hR _ _ _ _ _ _ dX10_chancery_49 hp hS
def pX10_fault (post : Int32 → Wd → Prop) (x1 : Int32) (w : Wd) : Prop := (¬ x1 = 0 → ((¬ x1 = (1 : Int32) → (post (-1 : Int32) w)) ∧ (x1 = (1 : Int32) → (post (w.1 0 15) w)))) ∧ (x1 = 0 → (post (w.1 0 14) w))
set_option maxHeartbeats 4000000 in
set_option maxRecDepth 100000 in
theorem rX10_fault {l : Launch} {g : Gw} {w : Wd} {post : Int32 → Wd → Prop}   {x1 : Int32} (hp : pX10_fault post x1 w) : MtI tabX l yX10_fault cX10_fault 2 (some .int) 1 g w [.ref (g.2.2 0), .int x1] post := by
  refine q_entI tabX_nd (by decide) rfl (Nat.le_of_ble_eq_true rfl) ?_
  intro p e s m args below meth c A Q ls hC hR hS hl
  have hx := hC.1
  have hb := hC.2.1
  have hl : lv_has ls 2 [(0, .ref (g.2.2 0)), (1, .int x1)] := hl
  unfold pX10_fault at hp
  refine lv_iload_n hx hb dX10_fault_0 rfl (lv_at hl 1 rfl) ?_
  refine lv_if_ne (tgt := 9) hx hb dX10_fault_1 (by decide) (fun c_1 => ?_) (fun c_1 => ?_)
  · have hp := hp.1 c_1
    refine lv_iload_n hx hb dX10_fault_9 rfl (lv_at hl 1 rfl) ?_
    refine lv_iconst hx hb dX10_fault_10 kI_1 ?_
    refine lv_icmp_ne (tgt := 21) hx hb dX10_fault_11 (by decide) (fun c_2 => ?_) (fun c_2 => ?_)
    · have hp := hp.1 c_2
      refine lv_iconst hx hb dX10_fault_21 kI_m1 ?_
      exact hR _ _ _ _ _ _ dX10_fault_22 hp hS
    · have hp := hp.2 c_2
      refine lv_aload_n hx hb dX10_fault_14 rfl (lv_at hl 0 rfl) ?_
      refine G_0_15 hC hS m60 dX10_fault_15 ?_
      refine lv_goto (tgt := 22) hx hb dX10_fault_18 (by decide) ?_
      exact hR _ _ _ _ _ _ dX10_fault_22 hp hS
  · have hp := hp.2 c_1
    refine lv_aload_n hx hb dX10_fault_4 rfl (lv_at hl 0 rfl) ?_
    refine G_0_14 hC hS m338 dX10_fault_5 ?_
    exact hR _ _ _ _ _ _ dX10_fault_8 hp hS
def pX10_isSeal (post : Int32 → Wd → Prop) (x1 : Int32) (w : Wd) : Prop := (x1 < 0 → (post (0 : Int32) w)) ∧ (¬ x1 < 0 → (((w.1 160 0) ≤ x1 → (post (0 : Int32) w)) ∧ (¬ (w.1 160 0) ≤ x1 → (post (1 : Int32) w))))
set_option maxHeartbeats 4000000 in
set_option maxRecDepth 100000 in
theorem rX10_isSeal {l : Launch} {g : Gw} {w : Wd} {post : Int32 → Wd → Prop}   {x1 : Int32} (hp : pX10_isSeal post x1 w) : MtI tabX l yX10_isSeal cX10_isSeal 2 (some .boolean) 1 g w [.ref (g.2.2 0), .int x1] post := by
  refine q_entZ tabX_nd (by decide) rfl (Nat.le_of_ble_eq_true rfl) ?_
  intro p e s m args below meth c A Q ls hC hR hS hl
  have hx := hC.1
  have hb := hC.2.1
  have hl : lv_has ls 2 [(0, .ref (g.2.2 0)), (1, .int x1)] := hl
  unfold pX10_isSeal at hp
  refine lv_iload_n hx hb dX10_isSeal_0 rfl (lv_at hl 1 rfl) ?_
  refine lv_if_lt (tgt := 19) hx hb dX10_isSeal_1 (by decide) (fun c_1 => ?_) (fun c_1 => ?_)
  · have hp := hp.1 c_1
    refine lv_iconst hx hb dX10_isSeal_19 kI_0 ?_
    exact hR _ _ _ _ _ _ dX10_isSeal_20 (by decide) hp hS
  · have hp := hp.2 c_1
    refine lv_iload_n hx hb dX10_isSeal_4 rfl (lv_at hl 1 rfl) ?_
    refine lv_aload_n hx hb dX10_isSeal_5 rfl (lv_at hl 0 rfl) ?_
    refine G_0_3 hC hS m30 dX10_isSeal_6 ?_
    refine G_160_0 hC hS m622 dX10_isSeal_9 ?_
    refine lv_icmp_ge (tgt := 19) hx hb dX10_isSeal_12 (by decide) (fun c_2 => ?_) (fun c_2 => ?_)
    · have hp := hp.1 c_2
      refine lv_iconst hx hb dX10_isSeal_19 kI_0 ?_
      exact hR _ _ _ _ _ _ dX10_isSeal_20 (by decide) hp hS
    · have hp := hp.2 c_2
      refine lv_iconst hx hb dX10_isSeal_15 kI_1 ?_
      refine lv_goto (tgt := 20) hx hb dX10_isSeal_16 (by decide) ?_
      exact hR _ _ _ _ _ _ dX10_isSeal_20 (by decide) hp hS
def pX10_seal (post : Int32 → Wd → Prop) (x1 : Int32) (x2 : Int32) (w : Wd) : Prop := pX10_isSeal (fun r_1 w_2 => (¬ r_1 = 0 → ((x2.toInt < 0 ∨ 4 < x2.toInt → (post (-1 : Int32) w_2)) ∧ (x2.toInt = 0 → (vp_in x1 24 ∧ post (w_2.2.1 162 x1.toNatClampNeg) w_2)) ∧ (x2.toInt = 1 → (vp_in x1 24 ∧ post (w_2.2.1 163 x1.toNatClampNeg) w_2)) ∧ (x2.toInt = 2 → (vp_in x1 24 ∧ post (w_2.2.1 164 x1.toNatClampNeg) w_2)) ∧ (x2.toInt = 3 → (vp_in x1 24 ∧ post (w_2.2.1 165 x1.toNatClampNeg) w_2)) ∧ (x2.toInt = 4 → (vp_in x1 24 ∧ post (w_2.2.1 166 x1.toNatClampNeg) w_2)))) ∧ (r_1 = 0 → (post (-1 : Int32) w_2))) x1 w
set_option maxHeartbeats 4000000 in
set_option maxRecDepth 100000 in
theorem rX10_seal {l : Launch} {g : Gw} {w : Wd} {post : Int32 → Wd → Prop}   {x1 : Int32} {x2 : Int32} (hp : pX10_seal post x1 x2 w) : MtI tabX l yX10_seal cX10_seal 3 (some .int) 2 g w [.ref (g.2.2 0), .int x1, .int x2] post := by
  refine q_entI tabX_nd (by decide) rfl (Nat.le_of_ble_eq_true rfl) ?_
  intro p e s m args below meth c A Q ls hC hR hS hl
  have hx := hC.1
  have hb := hC.2.1
  have hl : lv_has ls 3 [(0, .ref (g.2.2 0)), (1, .int x1), (2, .int x2)] := hl
  unfold pX10_seal at hp
  refine lv_aload_n hx hb dX10_seal_0 rfl (lv_at hl 0 rfl) ?_
  refine lv_iload_n hx hb dX10_seal_1 rfl (lv_at hl 1 rfl) ?_
  refine q_cvI (As := [.int x1]) (rest := []) hC hS hl.1 (rX10_isSeal hp) cwX10_149 yvX10_isSeal (rcv_0 hC hS) rfl rfl (Nat.le_of_ble_eq_true rfl) (rmk (by decide) (by decide)) dX10_seal_2 (fun r_1 w_2 H locs hp hS => ?_)
  refine lv_if_ne (tgt := 10) hx hb dX10_seal_5 (by decide) (fun c_3 => ?_) (fun c_3 => ?_)
  · have hp := hp.1 c_3
    refine lv_iload_n hx hb dX10_seal_10 rfl (lv_at hl 2 rfl) ?_
    by_cases c_4 : x2.toInt < 0 ∨ 4 < x2.toInt
    · have hp := hp.1 c_4
      refine lv_tableOut (tgt := 94) hx hb dX10_seal_11 c_4 (by decide) ?_
      refine lv_iconst hx hb dX10_seal_94 kI_m1 ?_
      exact hR _ _ _ _ _ _ dX10_seal_95 hp hS
    · have hp := hp.2
      have c_41 : ¬ x2.toInt < 0 := fun z => c_4 (Or.inl z)
      have c_42 : ¬ 4 < x2.toInt := fun z => c_4 (Or.inr z)
      rcases (show x2.toInt = 0 ∨ x2.toInt = 1 ∨ x2.toInt = 2 ∨ x2.toInt = 3 ∨ x2.toInt = 4 by omega) with c_43 | c_43 | c_43 | c_43 | c_43
      · have hp := hp.1 c_43
        refine lv_tableIn (tgt := 44) hx hb dX10_seal_11 c_41 c_42 (by rw [c_43]; rfl) (by decide) ?_
        refine lv_aload_n hx hb dX10_seal_44 rfl (lv_at hl 0 rfl) ?_
        refine G_0_3 hC hS m30 dX10_seal_45 ?_
        refine G_160_1 hC hS m613 dX10_seal_48 ?_
        refine lv_iload_n hx hb dX10_seal_51 rfl (lv_at hl 1 rfl) ?_
        refine La_162 hC hS hp.1 dX10_seal_52 ?_
        have hp := hp.2
        exact hR _ _ _ _ _ _ dX10_seal_53 hp hS
      · have hp := hp.2.1 c_43
        refine lv_tableIn (tgt := 54) hx hb dX10_seal_11 c_41 c_42 (by rw [c_43]; rfl) (by decide) ?_
        refine lv_aload_n hx hb dX10_seal_54 rfl (lv_at hl 0 rfl) ?_
        refine G_0_3 hC hS m30 dX10_seal_55 ?_
        refine G_160_2 hC hS m614 dX10_seal_58 ?_
        refine lv_iload_n hx hb dX10_seal_61 rfl (lv_at hl 1 rfl) ?_
        refine La_163 hC hS hp.1 dX10_seal_62 ?_
        have hp := hp.2
        exact hR _ _ _ _ _ _ dX10_seal_63 hp hS
      · have hp := hp.2.2.1 c_43
        refine lv_tableIn (tgt := 64) hx hb dX10_seal_11 c_41 c_42 (by rw [c_43]; rfl) (by decide) ?_
        refine lv_aload_n hx hb dX10_seal_64 rfl (lv_at hl 0 rfl) ?_
        refine G_0_3 hC hS m30 dX10_seal_65 ?_
        refine G_160_3 hC hS m615 dX10_seal_68 ?_
        refine lv_iload_n hx hb dX10_seal_71 rfl (lv_at hl 1 rfl) ?_
        refine La_164 hC hS hp.1 dX10_seal_72 ?_
        have hp := hp.2
        exact hR _ _ _ _ _ _ dX10_seal_73 hp hS
      · have hp := hp.2.2.2.1 c_43
        refine lv_tableIn (tgt := 74) hx hb dX10_seal_11 c_41 c_42 (by rw [c_43]; rfl) (by decide) ?_
        refine lv_aload_n hx hb dX10_seal_74 rfl (lv_at hl 0 rfl) ?_
        refine G_0_3 hC hS m30 dX10_seal_75 ?_
        refine G_160_4 hC hS m616 dX10_seal_78 ?_
        refine lv_iload_n hx hb dX10_seal_81 rfl (lv_at hl 1 rfl) ?_
        refine La_165 hC hS hp.1 dX10_seal_82 ?_
        have hp := hp.2
        exact hR _ _ _ _ _ _ dX10_seal_83 hp hS
      · have hp := hp.2.2.2.2 c_43
        refine lv_tableIn (tgt := 84) hx hb dX10_seal_11 c_41 c_42 (by rw [c_43]; rfl) (by decide) ?_
        refine lv_aload_n hx hb dX10_seal_84 rfl (lv_at hl 0 rfl) ?_
        refine G_0_3 hC hS m30 dX10_seal_85 ?_
        refine G_160_5 hC hS m617 dX10_seal_88 ?_
        refine lv_iload_n hx hb dX10_seal_91 rfl (lv_at hl 1 rfl) ?_
        refine La_166 hC hS hp.1 dX10_seal_92 ?_
        have hp := hp.2
        exact hR _ _ _ _ _ _ dX10_seal_93 hp hS
  · have hp := hp.2 c_3
    refine lv_iconst hx hb dX10_seal_8 kI_m1 ?_
    exact hR _ _ _ _ _ _ dX10_seal_9 hp hS
def pX10_shown (post : Int32 → Wd → Prop) (x1 : Int32) (x2 : Int32) (w : Wd) : Prop := (x1 < 0 → (post (-1 : Int32) w)) ∧ (¬ x1 < 0 → ((x1 < (w.1 160 6) → ((x2.toInt < 0 ∨ 2 < x2.toInt → (post (-1 : Int32) w)) ∧ (x2.toInt = 0 → (vp_in x1 40 ∧ post (w.2.1 168 x1.toNatClampNeg) w)) ∧ (x2.toInt = 1 → (vp_in x1 40 ∧ post (w.2.1 169 x1.toNatClampNeg) w)) ∧ (x2.toInt = 2 → (vp_in x1 40 ∧ post (w.2.1 170 x1.toNatClampNeg) w)))) ∧ (¬ x1 < (w.1 160 6) → (post (-1 : Int32) w))))
set_option maxHeartbeats 4000000 in
set_option maxRecDepth 100000 in
theorem rX10_shown {l : Launch} {g : Gw} {w : Wd} {post : Int32 → Wd → Prop}   {x1 : Int32} {x2 : Int32} (hp : pX10_shown post x1 x2 w) : MtI tabX l yX10_shown cX10_shown 3 (some .int) 1 g w [.ref (g.2.2 0), .int x1, .int x2] post := by
  refine q_entI tabX_nd (by decide) rfl (Nat.le_of_ble_eq_true rfl) ?_
  intro p e s m args below meth c A Q ls hC hR hS hl
  have hx := hC.1
  have hb := hC.2.1
  have hl : lv_has ls 3 [(0, .ref (g.2.2 0)), (1, .int x1), (2, .int x2)] := hl
  unfold pX10_shown at hp
  refine lv_iload_n hx hb dX10_shown_0 rfl (lv_at hl 1 rfl) ?_
  refine lv_if_lt (tgt := 15) hx hb dX10_shown_1 (by decide) (fun c_1 => ?_) (fun c_1 => ?_)
  · have hp := hp.1 c_1
    refine lv_iconst hx hb dX10_shown_15 kI_m1 ?_
    exact hR _ _ _ _ _ _ dX10_shown_16 hp hS
  · have hp := hp.2 c_1
    refine lv_iload_n hx hb dX10_shown_4 rfl (lv_at hl 1 rfl) ?_
    refine lv_aload_n hx hb dX10_shown_5 rfl (lv_at hl 0 rfl) ?_
    refine G_0_3 hC hS m30 dX10_shown_6 ?_
    refine G_160_6 hC hS m642 dX10_shown_9 ?_
    refine lv_icmp_lt (tgt := 17) hx hb dX10_shown_12 (by decide) (fun c_2 => ?_) (fun c_2 => ?_)
    · have hp := hp.1 c_2
      refine lv_iload_n hx hb dX10_shown_17 rfl (lv_at hl 2 rfl) ?_
      by_cases c_3 : x2.toInt < 0 ∨ 2 < x2.toInt
      · have hp := hp.1 c_3
        refine lv_tableOut (tgt := 74) hx hb dX10_shown_18 c_3 (by decide) ?_
        refine lv_iconst hx hb dX10_shown_74 kI_m1 ?_
        exact hR _ _ _ _ _ _ dX10_shown_75 hp hS
      · have hp := hp.2
        have c_31 : ¬ x2.toInt < 0 := fun z => c_3 (Or.inl z)
        have c_32 : ¬ 2 < x2.toInt := fun z => c_3 (Or.inr z)
        rcases (show x2.toInt = 0 ∨ x2.toInt = 1 ∨ x2.toInt = 2 by omega) with c_33 | c_33 | c_33
        · have hp := hp.1 c_33
          refine lv_tableIn (tgt := 44) hx hb dX10_shown_18 c_31 c_32 (by rw [c_33]; rfl) (by decide) ?_
          refine lv_aload_n hx hb dX10_shown_44 rfl (lv_at hl 0 rfl) ?_
          refine G_0_3 hC hS m30 dX10_shown_45 ?_
          refine G_160_7 hC hS m643 dX10_shown_48 ?_
          refine lv_iload_n hx hb dX10_shown_51 rfl (lv_at hl 1 rfl) ?_
          refine La_168 hC hS hp.1 dX10_shown_52 ?_
          have hp := hp.2
          exact hR _ _ _ _ _ _ dX10_shown_53 hp hS
        · have hp := hp.2.1 c_33
          refine lv_tableIn (tgt := 54) hx hb dX10_shown_18 c_31 c_32 (by rw [c_33]; rfl) (by decide) ?_
          refine lv_aload_n hx hb dX10_shown_54 rfl (lv_at hl 0 rfl) ?_
          refine G_0_3 hC hS m30 dX10_shown_55 ?_
          refine G_160_8 hC hS m644 dX10_shown_58 ?_
          refine lv_iload_n hx hb dX10_shown_61 rfl (lv_at hl 1 rfl) ?_
          refine La_169 hC hS hp.1 dX10_shown_62 ?_
          have hp := hp.2
          exact hR _ _ _ _ _ _ dX10_shown_63 hp hS
        · have hp := hp.2.2 c_33
          refine lv_tableIn (tgt := 64) hx hb dX10_shown_18 c_31 c_32 (by rw [c_33]; rfl) (by decide) ?_
          refine lv_aload_n hx hb dX10_shown_64 rfl (lv_at hl 0 rfl) ?_
          refine G_0_3 hC hS m30 dX10_shown_65 ?_
          refine G_160_9 hC hS m645 dX10_shown_68 ?_
          refine lv_iload_n hx hb dX10_shown_71 rfl (lv_at hl 1 rfl) ?_
          refine La_170 hC hS hp.1 dX10_shown_72 ?_
          have hp := hp.2
          exact hR _ _ _ _ _ _ dX10_shown_73 hp hS
    · have hp := hp.2 c_2
      refine lv_iconst hx hb dX10_shown_15 kI_m1 ?_
      exact hR _ _ _ _ _ _ dX10_shown_16 hp hS
def pX7_rows (post : Int32 → Wd → Prop) (b : Bool)  (w : Wd) : Prop := post ((1 : Int32) <<< ((w.1 (rl b) 0) &&& 31)) w
set_option maxHeartbeats 4000000 in
set_option maxRecDepth 100000 in
theorem rX7_rows {l : Launch} {g : Gw} {w : Wd} {post : Int32 → Wd → Prop} {b : Bool}   (hp : pX7_rows post b  w) : MtI tabX l yX7_rows cX7_rows 1 (some .int) 1 g w [.ref (g.2.2 (rl b))] post := by
  refine q_entI tabX_nd (by decide) rfl (Nat.le_of_ble_eq_true rfl) ?_
  intro p e s m args below meth c A Q ls hC hR hS hl
  have hx := hC.1
  have hb := hC.2.1
  have hl : lv_has ls 1 [(0, .ref (g.2.2 (rl b)))] := hl
  unfold pX7_rows at hp
  refine lv_iconst hx hb dX7_rows_0 kI_1 ?_
  refine lv_aload_n hx hb dX7_rows_1 rfl (lv_at hl 0 rfl) ?_
  refine GR_0 hC hS m137 dX7_rows_2 ?_
  refine lv_ishl hx hb dX7_rows_5 ?_
  exact hR _ _ _ _ _ _ dX7_rows_6 hp hS
def pX10_isRow (post : Int32 → Wd → Prop) (x1 : Int32) (w : Wd) : Prop := (x1 < 0 → (post (0 : Int32) w)) ∧ (¬ x1 < 0 → (pX7_rows (fun r_2 w_3 => (r_2 ≤ x1 → (post (0 : Int32) w_3)) ∧ (¬ r_2 ≤ x1 → (post (1 : Int32) w_3))) (w.2.2.2.2 0) w))
set_option maxHeartbeats 4000000 in
set_option maxRecDepth 100000 in
theorem rX10_isRow {l : Launch} {g : Gw} {w : Wd} {post : Int32 → Wd → Prop}   {x1 : Int32} (hp : pX10_isRow post x1 w) : MtI tabX l yX10_isRow cX10_isRow 2 (some .boolean) 2 g w [.ref (g.2.2 0), .int x1] post := by
  refine q_entZ tabX_nd (by decide) rfl (Nat.le_of_ble_eq_true rfl) ?_
  intro p e s m args below meth c A Q ls hC hR hS hl
  have hx := hC.1
  have hb := hC.2.1
  have hl : lv_has ls 2 [(0, .ref (g.2.2 0)), (1, .int x1)] := hl
  unfold pX10_isRow at hp
  refine lv_iload_n hx hb dX10_isRow_0 rfl (lv_at hl 1 rfl) ?_
  refine lv_if_lt (tgt := 19) hx hb dX10_isRow_1 (by decide) (fun c_1 => ?_) (fun c_1 => ?_)
  · have hp := hp.1 c_1
    refine lv_iconst hx hb dX10_isRow_19 kI_0 ?_
    exact hR _ _ _ _ _ _ dX10_isRow_20 (by decide) hp hS
  · have hp := hp.2 c_1
    refine lv_iload_n hx hb dX10_isRow_4 rfl (lv_at hl 1 rfl) ?_
    refine lv_aload_n hx hb dX10_isRow_5 rfl (lv_at hl 0 rfl) ?_
    refine G_0_16 hC hS m21 dX10_isRow_6 ?_
    refine q_cvI (As := []) (rest := [.int x1]) hC hS hl.1 (rX7_rows hp) cwX10_240 yvX7_rows (rcvR hC hS) rfl rfl (Nat.le_of_ble_eq_true rfl) (rmk (by decide) (by decide)) dX10_isRow_9 (fun r_2 w_3 H locs hp hS => ?_)
    refine lv_icmp_ge (tgt := 19) hx hb dX10_isRow_12 (by decide) (fun c_4 => ?_) (fun c_4 => ?_)
    · have hp := hp.1 c_4
      refine lv_iconst hx hb dX10_isRow_19 kI_0 ?_
      exact hR _ _ _ _ _ _ dX10_isRow_20 (by decide) hp hS
    · have hp := hp.2 c_4
      refine lv_iconst hx hb dX10_isRow_15 kI_1 ?_
      refine lv_goto (tgt := 20) hx hb dX10_isRow_16 (by decide) ?_
      exact hR _ _ _ _ _ _ dX10_isRow_20 (by decide) hp hS
def pX10_prints_92 (k30 : Int32 → Int32 → Int32 → Int32 → Int32 → Int32 → Wd → Prop) (post : Int32 → Wd → Prop) (x1 : Int32) (x2 : Int32) (x3 : Int32) (x4 : Int32) (x5 : Int32) (x6 : Int32) (w : Wd) : Prop := ∀ x6_1, x6_1 = x6 + (1 : Int32) → k30 x1 x2 x3 x4 x5 x6_1 w
def pX10_prints_75 (k30 : Int32 → Int32 → Int32 → Int32 → Int32 → Int32 → Wd → Prop) (post : Int32 → Wd → Prop) (x1 : Int32) (x2 : Int32) (x3 : Int32) (x6 : Int32) (t0 : Int32) (w : Wd) : Prop := vp_in x6 40 ∧ ∀ x5_1, x5_1 = (w.2.1 170 x6.toNatClampNeg) → ∀ x3_2, x3_2 = x3 + (1 : Int32) → pX10_prints_92 k30 post x1 x2 x3_2 t0 x5_1 x6 w
def pX10_prints_30 (post : Int32 → Wd → Prop) : Nat → Int32 → Int32 → Int32 → Int32 → Int32 → Int32 → Wd → Prop
  | 0, _, _, _, _, _, _, _ => False
  | n + 1, x1, x2, x3, x4, x5, x6, w => ((w.1 160 6) ≤ x6 → ((¬ x2 = 0 → ((¬ x2 = (1 : Int32) → (post x5 w)) ∧ (x2 = (1 : Int32) → (post x4 w)))) ∧ (x2 = 0 → (post x3 w)))) ∧ (¬ (w.1 160 6) ≤ x6 → (vp_in x6 40 ∧ (¬ (w.2.1 168 x6.toNatClampNeg) = x1 → (pX10_prints_92 (pX10_prints_30 post n) post x1 x2 x3 x4 x5 x6 w)) ∧ ((w.2.1 168 x6.toNatClampNeg) = x1 → ((¬ x3 = 0 → (pX10_prints_75 (pX10_prints_30 post n) post x1 x2 x3 x6 x4 w)) ∧ (x3 = 0 → (vp_in x6 40 ∧ pX10_prints_75 (pX10_prints_30 post n) post x1 x2 x3 x6 (w.2.1 170 x6.toNatClampNeg) w))))))
def pX10_prints (post : Int32 → Wd → Prop) (x1 : Int32) (x2 : Int32) (w : Wd) : Prop := pX10_isRow (fun r_1 w_2 => (r_1 = 0 → (post (-1 : Int32) w_2)) ∧ (¬ r_1 = 0 → ((x2 < 0 → (post (-1 : Int32) w_2)) ∧ (¬ x2 < 0 → ((x2 ≤ (2 : Int32) → (∃ n9, pX10_prints_30 post n9 x1 x2 (0 : Int32) (-1 : Int32) (-1 : Int32) (0 : Int32) w_2)) ∧ (¬ x2 ≤ (2 : Int32) → (post (-1 : Int32) w_2))))))) x1 w
set_option maxHeartbeats 4000000 in
set_option maxRecDepth 100000 in
theorem bX10_prints_92 {p : Program} {l : Launch} {e : Env} {s : State} {m : MethodId} {args : Array Value} {below : List Frame} {meth : Method} {c : Code} {Q : State → Prop} {A : Nat → Prop} {g : Gw} {post : Int32 → Wd → Prop}  (hC : Cx p s m args c cX10_prints RX10 7 g) (hR : RtI tabX p l e (rk 3) s m args below meth c Q cX10_prints A g post)  {k30 : Int32 → Int32 → Int32 → Int32 → Int32 → Int32 → Wd → Prop} (hk30 : ∀ (x1 : Int32) (x2 : Int32) (x3 : Int32) (x4 : Int32) (x5 : Int32) (x6 : Int32) (w : Wd) (H : Heap) (locs : List Loc) (ls : Array Slot), k30 x1 x2 x3 x4 x5 x6 w → St tabX A s.heap g w H locs → lv_has ls 7 [(0, .ref (g.2.2 0)), (1, .int x1), (2, .int x2), (3, .int x3), (4, .int x4), (5, .int x5), (6, .int x6)] → W p l e (rk 3) s m args below meth c H locs 0 0 Q (F0 m 30 ls [])) : ∀ (x1 : Int32) (x2 : Int32) (x3 : Int32) (x4 : Int32) (x5 : Int32) (x6 : Int32) (w : Wd) (H : Heap) (locs : List Loc) (ls : Array Slot), pX10_prints_92 k30 post x1 x2 x3 x4 x5 x6 w → St tabX A s.heap g w H locs → lv_has ls 7 [(0, .ref (g.2.2 0)), (1, .int x1), (2, .int x2), (3, .int x3), (4, .int x4), (5, .int x5), (6, .int x6)] → W p l e (rk 3) s m args below meth c H locs 0 0 Q (F0 m 92 ls []) := by
  have hx := hC.1
  have hb := hC.2.1
  intro x1 x2 x3 x4 x5 x6 w H locs ls hp hS hl
  unfold pX10_prints_92 at hp
  obtain ⟨x6_1, ex6_1⟩ : ∃ y : Int32, y = x6 + (1 : Int32) := ⟨_, rfl⟩
  have hp := hp x6_1 ex6_1
  refine lv_iinc (v := x6_1) (lv' := [(6, .int x6_1), (0, .ref (g.2.2 0)), (1, .int x1), (2, .int x2), (3, .int x3), (4, .int x4), (5, .int x5)]) hx hb dX10_prints_92 hl (k := 6) rfl (by rw [ex6_1]; rfl) (by decide) rfl (fun ls hl => ?_)
  refine lv_goto (tgt := 30) hx hb dX10_prints_95 (by decide) ?_
  exact hk30 x1 x2 x3 x4 x5 x6_1 w _ _ _ hp hS (lv_sub hl [1, 2, 3, 4, 5, 6, 0] rfl)
set_option maxHeartbeats 4000000 in
set_option maxRecDepth 100000 in
theorem bX10_prints_75 {p : Program} {l : Launch} {e : Env} {s : State} {m : MethodId} {args : Array Value} {below : List Frame} {meth : Method} {c : Code} {Q : State → Prop} {A : Nat → Prop} {g : Gw} {post : Int32 → Wd → Prop}  (hC : Cx p s m args c cX10_prints RX10 7 g) (hR : RtI tabX p l e (rk 3) s m args below meth c Q cX10_prints A g post)  {k30 : Int32 → Int32 → Int32 → Int32 → Int32 → Int32 → Wd → Prop} (hk30 : ∀ (x1 : Int32) (x2 : Int32) (x3 : Int32) (x4 : Int32) (x5 : Int32) (x6 : Int32) (w : Wd) (H : Heap) (locs : List Loc) (ls : Array Slot), k30 x1 x2 x3 x4 x5 x6 w → St tabX A s.heap g w H locs → lv_has ls 7 [(0, .ref (g.2.2 0)), (1, .int x1), (2, .int x2), (3, .int x3), (4, .int x4), (5, .int x5), (6, .int x6)] → W p l e (rk 3) s m args below meth c H locs 0 0 Q (F0 m 30 ls [])) : ∀ (x1 : Int32) (x2 : Int32) (x3 : Int32) (x6 : Int32) (t0 : Int32) (w : Wd) (H : Heap) (locs : List Loc) (ls : Array Slot), pX10_prints_75 k30 post x1 x2 x3 x6 t0 w → St tabX A s.heap g w H locs → lv_has ls 7 [(0, .ref (g.2.2 0)), (1, .int x1), (2, .int x2), (3, .int x3), (6, .int x6)] → W p l e (rk 3) s m args below meth c H locs 0 0 Q (F0 m 75 ls [.int t0]) := by
  have hx := hC.1
  have hb := hC.2.1
  intro x1 x2 x3 x6 t0 w H locs ls hp hS hl
  unfold pX10_prints_75 at hp
  refine lv_istore (lv' := [(4, .int t0), (0, .ref (g.2.2 0)), (1, .int x1), (2, .int x2), (3, .int x3), (6, .int x6)]) hx hb dX10_prints_75 hl (by decide) rfl (fun ls hl => ?_)
  refine lv_aload_n hx hb dX10_prints_77 rfl (lv_at hl 1 rfl) ?_
  refine G_0_3 hC hS m30 dX10_prints_78 ?_
  refine G_160_9 hC hS m645 dX10_prints_81 ?_
  refine lv_iload hx hb dX10_prints_84 (lv_at hl 5 rfl) ?_
  refine La_170 hC hS hp.1 dX10_prints_86 ?_
  have hp := hp.2
  refine lv_topi (fun x5_1 ex5_1 => ?_)
  have hp := hp x5_1 ex5_1
  refine lv_istore (lv' := [(5, .int x5_1), (4, .int t0), (0, .ref (g.2.2 0)), (1, .int x1), (2, .int x2), (3, .int x3), (6, .int x6)]) hx hb dX10_prints_87 hl (by decide) rfl (fun ls hl => ?_)
  obtain ⟨x3_2, ex3_2⟩ : ∃ y : Int32, y = x3 + (1 : Int32) := ⟨_, rfl⟩
  have hp := hp x3_2 ex3_2
  refine lv_iinc (v := x3_2) (lv' := [(3, .int x3_2), (5, .int x5_1), (4, .int t0), (0, .ref (g.2.2 0)), (1, .int x1), (2, .int x2), (6, .int x6)]) hx hb dX10_prints_89 hl (k := 5) rfl (by rw [ex3_2]; rfl) (by decide) rfl (fun ls hl => ?_)
  exact bX10_prints_92 hC hR hk30 x1 x2 x3_2 t0 x5_1 x6 w _ _ _ hp hS (lv_sub hl [3, 4, 5, 0, 2, 1, 6] rfl)
set_option maxHeartbeats 4000000 in
set_option maxRecDepth 100000 in
theorem bX10_prints_30 {p : Program} {l : Launch} {e : Env} {s : State} {m : MethodId} {args : Array Value} {below : List Frame} {meth : Method} {c : Code} {Q : State → Prop} {A : Nat → Prop} {g : Gw} {post : Int32 → Wd → Prop}  (hC : Cx p s m args c cX10_prints RX10 7 g) (hR : RtI tabX p l e (rk 3) s m args below meth c Q cX10_prints A g post)  : ∀ (n : Nat) (x1 : Int32) (x2 : Int32) (x3 : Int32) (x4 : Int32) (x5 : Int32) (x6 : Int32) (w : Wd) (H : Heap) (locs : List Loc) (ls : Array Slot), pX10_prints_30 post n x1 x2 x3 x4 x5 x6 w → St tabX A s.heap g w H locs → lv_has ls 7 [(0, .ref (g.2.2 0)), (1, .int x1), (2, .int x2), (3, .int x3), (4, .int x4), (5, .int x5), (6, .int x6)] → W p l e (rk 3) s m args below meth c H locs 0 0 Q (F0 m 30 ls []) := by
  have hx := hC.1
  have hb := hC.2.1
  intro n
  induction n with
  | zero =>
    intro x1 x2 x3 x4 x5 x6 w H locs ls hp hS hl
    exact False.elim hp
  | succ n ih =>
    intro x1 x2 x3 x4 x5 x6 w H locs ls hp hS hl
    unfold pX10_prints_30 at hp
    refine lv_iload hx hb dX10_prints_30 (lv_at hl 6 rfl) ?_
    refine lv_aload_n hx hb dX10_prints_32 rfl (lv_at hl 0 rfl) ?_
    refine G_0_3 hC hS m30 dX10_prints_33 ?_
    refine G_160_6 hC hS m642 dX10_prints_36 ?_
    refine lv_icmp_ge (tgt := 98) hx hb dX10_prints_39 (by decide) (fun c_1 => ?_) (fun c_1 => ?_)
    · have hp := hp.1 c_1
      refine lv_iload_n hx hb dX10_prints_98 rfl (lv_at hl 2 rfl) ?_
      refine lv_if_ne (tgt := 104) hx hb dX10_prints_99 (by decide) (fun c_2 => ?_) (fun c_2 => ?_)
      · have hp := hp.1 c_2
        refine lv_iload_n hx hb dX10_prints_104 rfl (lv_at hl 2 rfl) ?_
        refine lv_iconst hx hb dX10_prints_105 kI_1 ?_
        refine lv_icmp_ne (tgt := 114) hx hb dX10_prints_106 (by decide) (fun c_3 => ?_) (fun c_3 => ?_)
        · have hp := hp.1 c_3
          refine lv_iload hx hb dX10_prints_114 (lv_at hl 5 rfl) ?_
          exact hR _ _ _ _ _ _ dX10_prints_116 hp hS
        · have hp := hp.2 c_3
          refine lv_iload hx hb dX10_prints_109 (lv_at hl 4 rfl) ?_
          refine lv_goto (tgt := 116) hx hb dX10_prints_111 (by decide) ?_
          exact hR _ _ _ _ _ _ dX10_prints_116 hp hS
      · have hp := hp.2 c_2
        refine lv_iload_n hx hb dX10_prints_102 rfl (lv_at hl 3 rfl) ?_
        exact hR _ _ _ _ _ _ dX10_prints_103 hp hS
    · have hp := hp.2 c_1
      refine lv_aload_n hx hb dX10_prints_42 rfl (lv_at hl 0 rfl) ?_
      refine G_0_3 hC hS m30 dX10_prints_43 ?_
      refine G_160_7 hC hS m643 dX10_prints_46 ?_
      refine lv_iload hx hb dX10_prints_49 (lv_at hl 6 rfl) ?_
      refine La_168 hC hS hp.1 dX10_prints_51 ?_
      have hp := hp.2
      refine lv_iload_n hx hb dX10_prints_52 rfl (lv_at hl 1 rfl) ?_
      refine lv_icmp_ne (tgt := 92) hx hb dX10_prints_53 (by decide) (fun c_4 => ?_) (fun c_4 => ?_)
      · have hp := hp.1 c_4
        exact bX10_prints_92 hC hR ih x1 x2 x3 x4 x5 x6 w _ _ _ hp hS (lv_sub hl [0, 1, 2, 3, 4, 5, 6] rfl)
      · have hp := hp.2 c_4
        refine lv_iload_n hx hb dX10_prints_56 rfl (lv_at hl 3 rfl) ?_
        refine lv_if_ne (tgt := 73) hx hb dX10_prints_57 (by decide) (fun c_5 => ?_) (fun c_5 => ?_)
        · have hp := hp.1 c_5
          refine lv_iload hx hb dX10_prints_73 (lv_at hl 4 rfl) ?_
          exact bX10_prints_75 hC hR ih x1 x2 x3 x6 x4 w _ _ _ hp hS (lv_sub hl [0, 1, 2, 3, 6] rfl)
        · have hp := hp.2 c_5
          refine lv_aload_n hx hb dX10_prints_60 rfl (lv_at hl 0 rfl) ?_
          refine G_0_3 hC hS m30 dX10_prints_61 ?_
          refine G_160_9 hC hS m645 dX10_prints_64 ?_
          refine lv_iload hx hb dX10_prints_67 (lv_at hl 6 rfl) ?_
          refine La_170 hC hS hp.1 dX10_prints_69 ?_
          have hp := hp.2
          refine lv_goto (tgt := 75) hx hb dX10_prints_70 (by decide) ?_
          exact bX10_prints_75 hC hR ih x1 x2 x3 x6 (w.2.1 170 x6.toNatClampNeg) w _ _ _ hp hS (lv_sub hl [0, 1, 2, 3, 6] rfl)
set_option maxHeartbeats 4000000 in
set_option maxRecDepth 100000 in
theorem rX10_prints {l : Launch} {g : Gw} {w : Wd} {post : Int32 → Wd → Prop}   {x1 : Int32} {x2 : Int32} (hp : pX10_prints post x1 x2 w) : MtI tabX l yX10_prints cX10_prints 7 (some .int) 3 g w [.ref (g.2.2 0), .int x1, .int x2] post := by
  refine q_entI tabX_nd (by decide) rfl (Nat.le_of_ble_eq_true rfl) ?_
  intro p e s m args below meth c A Q ls hC hR hS hl
  have hx := hC.1
  have hb := hC.2.1
  have hl : lv_has ls 7 [(0, .ref (g.2.2 0)), (1, .int x1), (2, .int x2)] := hl
  unfold pX10_prints at hp
  refine lv_aload_n hx hb dX10_prints_0 rfl (lv_at hl 0 rfl) ?_
  refine lv_iload_n hx hb dX10_prints_1 rfl (lv_at hl 1 rfl) ?_
  refine q_cvI (As := [.int x1]) (rest := []) hC hS hl.1 (rX10_isRow hp) cwX10_180 yvX10_isRow (rcv_0 hC hS) rfl rfl (Nat.le_of_ble_eq_true rfl) (rmk (by decide) (by decide)) dX10_prints_2 (fun r_1 w_2 H locs hp hS => ?_)
  refine lv_if_eq (tgt := 17) hx hb dX10_prints_5 (by decide) (fun c_3 => ?_) (fun c_3 => ?_)
  · have hp := hp.1 c_3
    refine lv_iconst hx hb dX10_prints_17 kI_m1 ?_
    exact hR _ _ _ _ _ _ dX10_prints_18 hp hS
  · have hp := hp.2 c_3
    refine lv_iload_n hx hb dX10_prints_8 rfl (lv_at hl 2 rfl) ?_
    refine lv_if_lt (tgt := 17) hx hb dX10_prints_9 (by decide) (fun c_4 => ?_) (fun c_4 => ?_)
    · have hp := hp.1 c_4
      refine lv_iconst hx hb dX10_prints_17 kI_m1 ?_
      exact hR _ _ _ _ _ _ dX10_prints_18 hp hS
    · have hp := hp.2 c_4
      refine lv_iload_n hx hb dX10_prints_12 rfl (lv_at hl 2 rfl) ?_
      refine lv_iconst hx hb dX10_prints_13 kI_2 ?_
      refine lv_icmp_le (tgt := 19) hx hb dX10_prints_14 (by decide) (fun c_5 => ?_) (fun c_5 => ?_)
      · have hp := hp.1 c_5
        refine lv_iconst hx hb dX10_prints_19 kI_0 ?_
        refine lv_istore_n (lv' := [(3, .int (0 : Int32)), (0, .ref (g.2.2 0)), (1, .int x1), (2, .int x2)]) hx hb dX10_prints_20 rfl hl (by decide) rfl (fun ls hl => ?_)
        refine lv_iconst hx hb dX10_prints_21 kI_m1 ?_
        refine lv_istore (lv' := [(4, .int (-1 : Int32)), (3, .int (0 : Int32)), (0, .ref (g.2.2 0)), (1, .int x1), (2, .int x2)]) hx hb dX10_prints_22 hl (by decide) rfl (fun ls hl => ?_)
        refine lv_iconst hx hb dX10_prints_24 kI_m1 ?_
        refine lv_istore (lv' := [(5, .int (-1 : Int32)), (4, .int (-1 : Int32)), (3, .int (0 : Int32)), (0, .ref (g.2.2 0)), (1, .int x1), (2, .int x2)]) hx hb dX10_prints_25 hl (by decide) rfl (fun ls hl => ?_)
        refine lv_iconst hx hb dX10_prints_27 kI_0 ?_
        refine lv_istore (lv' := [(6, .int (0 : Int32)), (5, .int (-1 : Int32)), (4, .int (-1 : Int32)), (3, .int (0 : Int32)), (0, .ref (g.2.2 0)), (1, .int x1), (2, .int x2)]) hx hb dX10_prints_28 hl (by decide) rfl (fun ls hl => ?_)
        obtain ⟨n9, hp⟩ := hp
        exact bX10_prints_30 hC hR n9 x1 x2 (0 : Int32) (-1 : Int32) (-1 : Int32) (0 : Int32) w_2 _ _ _ hp hS (lv_sub hl [4, 5, 6, 3, 2, 1, 0] rfl)
      · have hp := hp.2 c_5
        refine lv_iconst hx hb dX10_prints_17 kI_m1 ?_
        exact hR _ _ _ _ _ _ dX10_prints_18 hp hS
def pX10_turn (post : Int32 → Wd → Prop) (x0 : Int32) (x1 : Int32) (w : Wd) : Prop := ∀ x2_1, x2_1 = (((x0 &&& (21845 : Int32)) <<< ((1 : Int32) &&& 31)) ||| ((x0.toUInt32 >>> ((1 : Int32).toUInt32 &&& Int32.toUInt32 31)).toInt32 &&& (21845 : Int32))) → ∀ x2_2, x2_2 = (((x2_1 &&& (13107 : Int32)) <<< ((2 : Int32) &&& 31)) ||| ((x2_1.toUInt32 >>> ((2 : Int32).toUInt32 &&& Int32.toUInt32 31)).toInt32 &&& (13107 : Int32))) → ∀ x2_3, x2_3 = (((x2_2 &&& (3855 : Int32)) <<< ((4 : Int32) &&& 31)) ||| ((x2_2.toUInt32 >>> ((4 : Int32).toUInt32 &&& Int32.toUInt32 31)).toInt32 &&& (3855 : Int32))) → ∀ x2_4, x2_4 = (((x2_3 &&& (255 : Int32)) <<< ((8 : Int32) &&& 31)) ||| ((x2_3.toUInt32 >>> ((8 : Int32).toUInt32 &&& Int32.toUInt32 31)).toInt32 &&& (255 : Int32))) → post ((x2_4.toUInt32 >>> (((16 : Int32) - x1).toUInt32 &&& Int32.toUInt32 31)).toInt32) w
set_option maxHeartbeats 4000000 in
set_option maxRecDepth 100000 in
theorem rX10_turn {l : Launch} {g : Gw} {w : Wd} {post : Int32 → Wd → Prop}   {x0 : Int32} {x1 : Int32} (hp : pX10_turn post x0 x1 w) : MtI tabX l yX10_turn cX10_turn 3 (some .int) 1 g w [.int x0, .int x1] post := by
  refine q_entI tabX_nd (by decide) rfl (Nat.le_of_ble_eq_true rfl) ?_
  intro p e s m args below meth c A Q ls hC hR hS hl
  have hx := hC.1
  have hb := hC.2.1
  have hl : lv_has ls 3 [(0, .int x0), (1, .int x1)] := hl
  unfold pX10_turn at hp
  refine lv_iload_n hx hb dX10_turn_0 rfl (lv_at hl 0 rfl) ?_
  refine lv_sipush hx hb dX10_turn_1 kS_21845 ?_
  refine lv_iand hx hb dX10_turn_4 ?_
  refine lv_iconst hx hb dX10_turn_5 kI_1 ?_
  refine lv_ishl hx hb dX10_turn_6 ?_
  refine lv_iload_n hx hb dX10_turn_7 rfl (lv_at hl 0 rfl) ?_
  refine lv_iconst hx hb dX10_turn_8 kI_1 ?_
  refine lv_iushr hx hb dX10_turn_9 rfl ?_
  refine lv_sipush hx hb dX10_turn_10 kS_21845 ?_
  refine lv_iand hx hb dX10_turn_13 ?_
  refine lv_ior hx hb dX10_turn_14 ?_
  refine lv_topi (fun x2_1 ex2_1 => ?_)
  have hp := hp x2_1 ex2_1
  refine lv_istore_n (lv' := [(2, .int x2_1), (0, .int x0), (1, .int x1)]) hx hb dX10_turn_15 rfl hl (by decide) rfl (fun ls hl => ?_)
  refine lv_iload_n hx hb dX10_turn_16 rfl (lv_at hl 0 rfl) ?_
  refine lv_sipush hx hb dX10_turn_17 kS_13107 ?_
  refine lv_iand hx hb dX10_turn_20 ?_
  refine lv_iconst hx hb dX10_turn_21 kI_2 ?_
  refine lv_ishl hx hb dX10_turn_22 ?_
  refine lv_iload_n hx hb dX10_turn_23 rfl (lv_at hl 0 rfl) ?_
  refine lv_iconst hx hb dX10_turn_24 kI_2 ?_
  refine lv_iushr hx hb dX10_turn_25 rfl ?_
  refine lv_sipush hx hb dX10_turn_26 kS_13107 ?_
  refine lv_iand hx hb dX10_turn_29 ?_
  refine lv_ior hx hb dX10_turn_30 ?_
  refine lv_topi (fun x2_2 ex2_2 => ?_)
  have hp := hp x2_2 ex2_2
  refine lv_istore_n (lv' := [(2, .int x2_2), (0, .int x0), (1, .int x1)]) hx hb dX10_turn_31 rfl hl (by decide) rfl (fun ls hl => ?_)
  refine lv_iload_n hx hb dX10_turn_32 rfl (lv_at hl 0 rfl) ?_
  refine lv_sipush hx hb dX10_turn_33 kS_3855 ?_
  refine lv_iand hx hb dX10_turn_36 ?_
  refine lv_iconst hx hb dX10_turn_37 kI_4 ?_
  refine lv_ishl hx hb dX10_turn_38 ?_
  refine lv_iload_n hx hb dX10_turn_39 rfl (lv_at hl 0 rfl) ?_
  refine lv_iconst hx hb dX10_turn_40 kI_4 ?_
  refine lv_iushr hx hb dX10_turn_41 rfl ?_
  refine lv_sipush hx hb dX10_turn_42 kS_3855 ?_
  refine lv_iand hx hb dX10_turn_45 ?_
  refine lv_ior hx hb dX10_turn_46 ?_
  refine lv_topi (fun x2_3 ex2_3 => ?_)
  have hp := hp x2_3 ex2_3
  refine lv_istore_n (lv' := [(2, .int x2_3), (0, .int x0), (1, .int x1)]) hx hb dX10_turn_47 rfl hl (by decide) rfl (fun ls hl => ?_)
  refine lv_iload_n hx hb dX10_turn_48 rfl (lv_at hl 0 rfl) ?_
  refine lv_sipush hx hb dX10_turn_49 kS_255 ?_
  refine lv_iand hx hb dX10_turn_52 ?_
  refine lv_bipush hx hb dX10_turn_53 kB_8 ?_
  refine lv_ishl hx hb dX10_turn_55 ?_
  refine lv_iload_n hx hb dX10_turn_56 rfl (lv_at hl 0 rfl) ?_
  refine lv_bipush hx hb dX10_turn_57 kB_8 ?_
  refine lv_iushr hx hb dX10_turn_59 rfl ?_
  refine lv_sipush hx hb dX10_turn_60 kS_255 ?_
  refine lv_iand hx hb dX10_turn_63 ?_
  refine lv_ior hx hb dX10_turn_64 ?_
  refine lv_topi (fun x2_4 ex2_4 => ?_)
  have hp := hp x2_4 ex2_4
  refine lv_istore_n (lv' := [(2, .int x2_4), (0, .int x0), (1, .int x1)]) hx hb dX10_turn_65 rfl hl (by decide) rfl (fun ls hl => ?_)
  refine lv_iload_n hx hb dX10_turn_66 rfl (lv_at hl 0 rfl) ?_
  refine lv_bipush hx hb dX10_turn_67 kB_16 ?_
  refine lv_iload_n hx hb dX10_turn_69 rfl (lv_at hl 2 rfl) ?_
  refine lv_isub hx hb dX10_turn_70 ?_
  refine lv_iushr hx hb dX10_turn_71 rfl ?_
  exact hR _ _ _ _ _ _ dX10_turn_72 hp hS
def pX10_turned (post : Int32 → Wd → Prop) (x1 : Int32) (w : Wd) : Prop := pX10_isRow (fun r_1 w_2 => (r_1 = 0 → (post (-1 : Int32) w_2)) ∧ (¬ r_1 = 0 → (pX10_turn (fun r_4 w_5 => post r_4 w_5) x1 (w_2.1 (rl (w_2.2.2.2.2 0)) 0) w_2))) x1 w
set_option maxHeartbeats 4000000 in
set_option maxRecDepth 100000 in
theorem rX10_turned {l : Launch} {g : Gw} {w : Wd} {post : Int32 → Wd → Prop}   {x1 : Int32} (hp : pX10_turned post x1 w) : MtI tabX l yX10_turned cX10_turned 2 (some .int) 3 g w [.ref (g.2.2 0), .int x1] post := by
  refine q_entI tabX_nd (by decide) rfl (Nat.le_of_ble_eq_true rfl) ?_
  intro p e s m args below meth c A Q ls hC hR hS hl
  have hx := hC.1
  have hb := hC.2.1
  have hl : lv_has ls 2 [(0, .ref (g.2.2 0)), (1, .int x1)] := hl
  unfold pX10_turned at hp
  refine lv_aload_n hx hb dX10_turned_0 rfl (lv_at hl 0 rfl) ?_
  refine lv_iload_n hx hb dX10_turned_1 rfl (lv_at hl 1 rfl) ?_
  refine q_cvI (As := [.int x1]) (rest := []) hC hS hl.1 (rX10_isRow hp) cwX10_180 yvX10_isRow (rcv_0 hC hS) rfl rfl (Nat.le_of_ble_eq_true rfl) (rmk (by decide) (by decide)) dX10_turned_2 (fun r_1 w_2 H locs hp hS => ?_)
  refine lv_if_eq (tgt := 22) hx hb dX10_turned_5 (by decide) (fun c_3 => ?_) (fun c_3 => ?_)
  · have hp := hp.1 c_3
    refine lv_iconst hx hb dX10_turned_22 kI_m1 ?_
    exact hR _ _ _ _ _ _ dX10_turned_23 hp hS
  · have hp := hp.2 c_3
    refine lv_iload_n hx hb dX10_turned_8 rfl (lv_at hl 1 rfl) ?_
    refine lv_aload_n hx hb dX10_turned_9 rfl (lv_at hl 0 rfl) ?_
    refine G_0_16 hC hS m21 dX10_turned_10 ?_
    refine GR_0 hC hS m678 dX10_turned_13 ?_
    refine q_csI (As := [.int x1, .int (w_2.1 (rl (w_2.2.2.2.2 0)) 0)]) (rest := []) hC hS hl.1 (rX10_turn hp) cwX10_186 ysX10_turn rfl rfl (Nat.le_of_ble_eq_true rfl) (rmk (by decide) (by decide)) dX10_turned_16 (fun r_4 w_5 H locs hp hS => ?_)
    refine lv_goto (tgt := 23) hx hb dX10_turned_19 (by decide) ?_
    exact hR _ _ _ _ _ _ dX10_turned_23 hp hS
def pX10_isHand (post : Int32 → Wd → Prop) (x1 : Int32) (w : Wd) : Prop := (x1 < 0 → (post (0 : Int32) w)) ∧ (¬ x1 < 0 → (((w.1 (rl (w.2.2.2.2 0)) 2) ≤ x1 → (post (0 : Int32) w)) ∧ (¬ (w.1 (rl (w.2.2.2.2 0)) 2) ≤ x1 → (post (1 : Int32) w))))
set_option maxHeartbeats 4000000 in
set_option maxRecDepth 100000 in
theorem rX10_isHand {l : Launch} {g : Gw} {w : Wd} {post : Int32 → Wd → Prop}   {x1 : Int32} (hp : pX10_isHand post x1 w) : MtI tabX l yX10_isHand cX10_isHand 2 (some .boolean) 1 g w [.ref (g.2.2 0), .int x1] post := by
  refine q_entZ tabX_nd (by decide) rfl (Nat.le_of_ble_eq_true rfl) ?_
  intro p e s m args below meth c A Q ls hC hR hS hl
  have hx := hC.1
  have hb := hC.2.1
  have hl : lv_has ls 2 [(0, .ref (g.2.2 0)), (1, .int x1)] := hl
  unfold pX10_isHand at hp
  refine lv_iload_n hx hb dX10_isHand_0 rfl (lv_at hl 1 rfl) ?_
  refine lv_if_lt (tgt := 19) hx hb dX10_isHand_1 (by decide) (fun c_1 => ?_) (fun c_1 => ?_)
  · have hp := hp.1 c_1
    refine lv_iconst hx hb dX10_isHand_19 kI_0 ?_
    exact hR _ _ _ _ _ _ dX10_isHand_20 (by decide) hp hS
  · have hp := hp.2 c_1
    refine lv_iload_n hx hb dX10_isHand_4 rfl (lv_at hl 1 rfl) ?_
    refine lv_aload_n hx hb dX10_isHand_5 rfl (lv_at hl 0 rfl) ?_
    refine G_0_16 hC hS m21 dX10_isHand_6 ?_
    refine GR_2 hC hS m340 dX10_isHand_9 ?_
    refine lv_icmp_ge (tgt := 19) hx hb dX10_isHand_12 (by decide) (fun c_2 => ?_) (fun c_2 => ?_)
    · have hp := hp.1 c_2
      refine lv_iconst hx hb dX10_isHand_19 kI_0 ?_
      exact hR _ _ _ _ _ _ dX10_isHand_20 (by decide) hp hS
    · have hp := hp.2 c_2
      refine lv_iconst hx hb dX10_isHand_15 kI_1 ?_
      refine lv_goto (tgt := 20) hx hb dX10_isHand_16 (by decide) ?_
      exact hR _ _ _ _ _ _ dX10_isHand_20 (by decide) hp hS
