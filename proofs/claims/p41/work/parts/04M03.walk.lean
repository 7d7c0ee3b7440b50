def pX11_would (post : Int32 → Wd → Prop) (x1 : Int32) (x2 : Int32) (x3 : Int32) (x4 : Int32) (w : Wd) : Prop := pX11_isRow (fun r_1 w_2 => (r_1 = 0 → (post (-1 : Int32) w_2)) ∧ (¬ r_1 = 0 → (pX11_isHand (fun r_4 w_5 => (r_4 = 0 → (post (-1 : Int32) w_5)) ∧ (¬ r_4 = 0 → (pX11_isHeat (fun r_7 w_8 => (r_7 = 0 → (post (-1 : Int32) w_8)) ∧ (¬ r_7 = 0 → (pX11_isIn (fun r_10 w_11 => (r_10 = 0 → (post (-1 : Int32) w_11)) ∧ (¬ r_10 = 0 → (pX11_castOf (fun r_13 w_14 => post r_13 w_14) x1 x2 x3 x4 w_11))) x4 (0 : Int32) (99 : Int32) w_8))) x3 w_5))) x2 w_2))) x1 w
set_option maxHeartbeats 4000000 in
set_option maxRecDepth 100000 in
theorem rX11_would {l : Launch} {g : Gw} {w : Wd} {post : Int32 → Wd → Prop}   {x1 : Int32} {x2 : Int32} {x3 : Int32} {x4 : Int32} (hp : pX11_would post x1 x2 x3 x4 w) : MtI tabM l yX11_would cX11_would 5 (some .int) 4 g w [.ref (g.2.2 300), .int x1, .int x2, .int x3, .int x4] post := by
  refine q_entI tabM_nd (by decide) rfl (Nat.le_of_ble_eq_true rfl) ?_
  intro p e s m args below meth c A Q ls hC hR hS hl
  have hx := hC.1
  have hb := hC.2.1
  have hl : lv_has ls 5 [(0, .ref (g.2.2 300)), (1, .int x1), (2, .int x2), (3, .int x3), (4, .int x4)] := hl
  unfold pX11_would at hp
  refine lv_aload_n hx hb dX11_would_0 rfl (lv_at hl 0 rfl) ?_
  refine lv_iload_n hx hb dX11_would_1 rfl (lv_at hl 1 rfl) ?_
  refine q_cvI (As := [.int x1]) (rest := []) hC hS hl.1 (rX11_isRow hp) cwX11_358 yvX11_isRow (rcv_300 hC hS) rfl rfl (Nat.le_of_ble_eq_true rfl) (rmk (by decide) (by decide)) dX11_would_2 (fun r_1 w_2 H locs hp hS => ?_)
  refine lv_if_eq (tgt := 46) hx hb dX11_would_5 (by decide) (fun c_3 => ?_) (fun c_3 => ?_)
  · have hp := hp.1 c_3
    refine lv_iconst hx hb dX11_would_46 kI_m1 ?_
    exact hR _ _ _ _ _ _ dX11_would_47 hp hS
  · have hp := hp.2 c_3
    refine lv_aload_n hx hb dX11_would_8 rfl (lv_at hl 0 rfl) ?_
    refine lv_iload_n hx hb dX11_would_9 rfl (lv_at hl 2 rfl) ?_
    refine q_cvI (As := [.int x2]) (rest := []) hC hS hl.1 (rX11_isHand hp) cwX11_361 yvX11_isHand (rcv_300 hC hS) rfl rfl (Nat.le_of_ble_eq_true rfl) (rmk (by decide) (by decide)) dX11_would_10 (fun r_4 w_5 H locs hp hS => ?_)
    refine lv_if_eq (tgt := 46) hx hb dX11_would_13 (by decide) (fun c_6 => ?_) (fun c_6 => ?_)
    · have hp := hp.1 c_6
      refine lv_iconst hx hb dX11_would_46 kI_m1 ?_
      exact hR _ _ _ _ _ _ dX11_would_47 hp hS
    · have hp := hp.2 c_6
      refine lv_iload_n hx hb dX11_would_16 rfl (lv_at hl 3 rfl) ?_
      refine q_csI (As := [.int x3]) (rest := []) hC hS hl.1 (rX11_isHeat hp) cwX11_364 ysX11_isHeat rfl rfl (Nat.le_of_ble_eq_true rfl) (rmk (by decide) (by decide)) dX11_would_17 (fun r_7 w_8 H locs hp hS => ?_)
      refine lv_if_eq (tgt := 46) hx hb dX11_would_20 (by decide) (fun c_9 => ?_) (fun c_9 => ?_)
      · have hp := hp.1 c_9
        refine lv_iconst hx hb dX11_would_46 kI_m1 ?_
        exact hR _ _ _ _ _ _ dX11_would_47 hp hS
      · have hp := hp.2 c_9
        refine lv_iload hx hb dX11_would_23 (lv_at hl 4 rfl) ?_
        refine lv_iconst hx hb dX11_would_25 kI_0 ?_
        refine lv_bipush hx hb dX11_would_26 kB_99 ?_
        refine q_csI (As := [.int x4, .int (0 : Int32), .int (99 : Int32)]) (rest := []) hC hS hl.1 (rX11_isIn hp) cwX11_345 ysX11_isIn rfl rfl (Nat.le_of_ble_eq_true rfl) (rmk (by decide) (by decide)) dX11_would_28 (fun r_10 w_11 H locs hp hS => ?_)
        refine lv_if_eq (tgt := 46) hx hb dX11_would_31 (by decide) (fun c_12 => ?_) (fun c_12 => ?_)
        · have hp := hp.1 c_12
          refine lv_iconst hx hb dX11_would_46 kI_m1 ?_
          exact hR _ _ _ _ _ _ dX11_would_47 hp hS
        · have hp := hp.2 c_12
          refine lv_aload_n hx hb dX11_would_34 rfl (lv_at hl 0 rfl) ?_
          refine lv_iload_n hx hb dX11_would_35 rfl (lv_at hl 1 rfl) ?_
          refine lv_iload_n hx hb dX11_would_36 rfl (lv_at hl 2 rfl) ?_
          refine lv_iload_n hx hb dX11_would_37 rfl (lv_at hl 3 rfl) ?_
          refine lv_iload hx hb dX11_would_38 (lv_at hl 4 rfl) ?_
          refine q_cvI (As := [.int x1, .int x2, .int x3, .int x4]) (rest := []) hC hS hl.1 (rX11_castOf hp) cwX11_367 yvX11_castOf (rcv_300 hC hS) rfl rfl (Nat.le_of_ble_eq_true rfl) (rmk (by decide) (by decide)) dX11_would_40 (fun r_13 w_14 H locs hp hS => ?_)
          refine lv_goto (tgt := 47) hx hb dX11_would_43 (by decide) ?_
          exact hR _ _ _ _ _ _ dX11_would_47 hp hS
def pX11_keepAct_52 (post : Wd → Prop) : Nat → Int32 → Wd → Prop
  | 0, _, _ => False
  | n + 1, x1, w => ((221 : Int32) ≤ x1 → (∀ w_2, w_2 = sI w 300 42 ((w.1 300 42) + (1 : Int32)) → ∀ w_3, w_3 = sI w_2 300 43 (0 : Int32) → post w_3)) ∧ (¬ (221 : Int32) ≤ x1 → (vp_in x1 221 ∧ vp_in (((221 : Int32) * (w.1 300 42)) + x1) 9061 ∧ ∀ w_4, w_4 = sA w 342 (((221 : Int32) * (w.1 300 42)) + x1).toNatClampNeg (w.2.1 341 x1.toNatClampNeg) → ∀ x1_5, x1_5 = x1 + (1 : Int32) → pX11_keepAct_52 post n x1_5 w_4))
def pX11_keepAct_50 (post : Wd → Prop)  (w : Wd) : Prop := ∃ n9, pX11_keepAct_52 post n9 (0 : Int32) w
def pX11_keepAct_11 (post : Wd → Prop) : Nat → Int32 → Wd → Prop
  | 0, _, _ => False
  | n + 1, x1, w => ((8840 : Int32) ≤ x1 → (∀ w_2, w_2 = sI w 300 42 ((w.1 300 42) - (1 : Int32)) → pX11_keepAct_50 post  w_2)) ∧ (¬ (8840 : Int32) ≤ x1 → (vp_in (x1 + (221 : Int32)) 9061 ∧ vp_in x1 9061 ∧ ∀ w_3, w_3 = sA w 342 x1.toNatClampNeg (w.2.1 342 (x1 + (221 : Int32)).toNatClampNeg) → ∀ x1_4, x1_4 = x1 + (1 : Int32) → pX11_keepAct_11 post n x1_4 w_3))
def pX11_keepAct (post : Wd → Prop)  (w : Wd) : Prop := (¬ (w.1 300 42) = (40 : Int32) → (pX11_keepAct_50 post  w)) ∧ ((w.1 300 42) = (40 : Int32) → (∃ n9, pX11_keepAct_11 post n9 (0 : Int32) w))
set_option maxHeartbeats 4000000 in
set_option maxRecDepth 100000 in
theorem bX11_keepAct_52 {p : Program} {l : Launch} {e : Env} {s : State} {m : MethodId} {args : Array Value} {below : List Frame} {meth : Method} {c : Code} {Q : State → Prop} {A : Nat → Prop} {g : Gw} {post : Wd → Prop}  (hC : Cx p s m args c cX11_keepAct RX11 2 g) (hR : RtV tabM p l e (rk 1) s m args below meth c Q cX11_keepAct A g post)  : ∀ (n : Nat) (x1 : Int32) (w : Wd) (H : Heap) (locs : List Loc) (ls : Array Slot), pX11_keepAct_52 post n x1 w → St tabM A s.heap g w H locs → lv_has ls 2 [(0, .ref (g.2.2 300)), (1, .int x1)] → W p l e (rk 1) s m args below meth c H locs 0 0 Q (F0 m 52 ls []) := by
  have hx := hC.1
  have hb := hC.2.1
  intro n
  induction n with
  | zero =>
    intro x1 w H locs ls hp hS hl
    exact False.elim hp
  | succ n ih =>
    intro x1 w H locs ls hp hS hl
    unfold pX11_keepAct_52 at hp
    refine lv_iload_n hx hb dX11_keepAct_52 rfl (lv_at hl 1 rfl) ?_
    refine lv_sipush hx hb dX11_keepAct_53 kS_221 ?_
    refine lv_icmp_ge (tgt := 86) hx hb dX11_keepAct_56 (by decide) (fun c_1 => ?_) (fun c_1 => ?_)
    · have hp := hp.1 c_1
      refine lv_aload_n hx hb dX11_keepAct_86 rfl (lv_at hl 0 rfl) ?_
      refine lv_dup hx hb dX11_keepAct_87 rfl ?_
      refine G_300_42 hC hS m309 dX11_keepAct_88 ?_
      refine lv_iconst hx hb dX11_keepAct_91 kI_1 ?_
      refine lv_iadd hx hb dX11_keepAct_92 ?_
      refine P_300_42 hC hS m309 dX11_keepAct_93 (fun w_2 H locs ew_2 hS => ?_)
      have hp := hp w_2 ew_2
      refine lv_aload_n hx hb dX11_keepAct_96 rfl (lv_at hl 0 rfl) ?_
      refine lv_iconst hx hb dX11_keepAct_97 kI_0 ?_
      refine P_300_43 hC hS m310 dX11_keepAct_98 (fun w_3 H locs ew_3 hS => ?_)
      have hp := hp w_3 ew_3
      exact hR _ _ _ _ _ dX11_keepAct_101 hp hS
    · have hp := hp.2 c_1
      refine lv_aload_n hx hb dX11_keepAct_59 rfl (lv_at hl 0 rfl) ?_
      refine G_300_41 hC hS m275 dX11_keepAct_60 ?_
      refine lv_sipush hx hb dX11_keepAct_63 kS_221 ?_
      refine lv_aload_n hx hb dX11_keepAct_66 rfl (lv_at hl 0 rfl) ?_
      refine G_300_42 hC hS m309 dX11_keepAct_67 ?_
      refine lv_imul hx hb dX11_keepAct_70 ?_
      refine lv_iload_n hx hb dX11_keepAct_71 rfl (lv_at hl 1 rfl) ?_
      refine lv_iadd hx hb dX11_keepAct_72 ?_
      refine lv_aload_n hx hb dX11_keepAct_73 rfl (lv_at hl 0 rfl) ?_
      refine G_300_40 hC hS m274 dX11_keepAct_74 ?_
      refine lv_iload_n hx hb dX11_keepAct_77 rfl (lv_at hl 1 rfl) ?_
      refine La_341 hC hS hp.1 dX11_keepAct_78 ?_
      have hp := hp.2
      refine Sa_342 hC hS hp.1 dX11_keepAct_79 (fun w_4 H locs ew_4 hS => ?_)
      have hp := hp.2
      have hp := hp w_4 ew_4
      obtain ⟨x1_5, ex1_5⟩ : ∃ y : Int32, y = x1 + (1 : Int32) := ⟨_, rfl⟩
      have hp := hp x1_5 ex1_5
      refine lv_iinc (v := x1_5) (lv' := [(1, .int x1_5), (0, .ref (g.2.2 300))]) hx hb dX11_keepAct_80 hl (k := 1) rfl (by rw [ex1_5]; rfl) (by decide) rfl (fun ls hl => ?_)
      refine lv_goto (tgt := 52) hx hb dX11_keepAct_83 (by decide) ?_
      exact ih x1_5 w_4 _ _ _ hp hS (lv_sub hl [1, 0] rfl)
set_option maxHeartbeats 4000000 in
set_option maxRecDepth 100000 in
theorem bX11_keepAct_50 {p : Program} {l : Launch} {e : Env} {s : State} {m : MethodId} {args : Array Value} {below : List Frame} {meth : Method} {c : Code} {Q : State → Prop} {A : Nat → Prop} {g : Gw} {post : Wd → Prop}  (hC : Cx p s m args c cX11_keepAct RX11 2 g) (hR : RtV tabM p l e (rk 1) s m args below meth c Q cX11_keepAct A g post)  : ∀  (w : Wd) (H : Heap) (locs : List Loc) (ls : Array Slot), pX11_keepAct_50 post  w → St tabM A s.heap g w H locs → lv_has ls 2 [(0, .ref (g.2.2 300))] → W p l e (rk 1) s m args below meth c H locs 0 0 Q (F0 m 50 ls []) := by
  have hx := hC.1
  have hb := hC.2.1
  intro  w H locs ls hp hS hl
  unfold pX11_keepAct_50 at hp
  refine lv_iconst hx hb dX11_keepAct_50 kI_0 ?_
  refine lv_istore_n (lv' := [(1, .int (0 : Int32)), (0, .ref (g.2.2 300))]) hx hb dX11_keepAct_51 rfl hl (by decide) rfl (fun ls hl => ?_)
  obtain ⟨n9, hp⟩ := hp
  exact bX11_keepAct_52 hC hR n9 (0 : Int32) w _ _ _ hp hS (lv_sub hl [1, 0] rfl)
set_option maxHeartbeats 4000000 in
set_option maxRecDepth 100000 in
theorem bX11_keepAct_11 {p : Program} {l : Launch} {e : Env} {s : State} {m : MethodId} {args : Array Value} {below : List Frame} {meth : Method} {c : Code} {Q : State → Prop} {A : Nat → Prop} {g : Gw} {post : Wd → Prop}  (hC : Cx p s m args c cX11_keepAct RX11 2 g) (hR : RtV tabM p l e (rk 1) s m args below meth c Q cX11_keepAct A g post)  : ∀ (n : Nat) (x1 : Int32) (w : Wd) (H : Heap) (locs : List Loc) (ls : Array Slot), pX11_keepAct_11 post n x1 w → St tabM A s.heap g w H locs → lv_has ls 2 [(0, .ref (g.2.2 300)), (1, .int x1)] → W p l e (rk 1) s m args below meth c H locs 0 0 Q (F0 m 11 ls []) := by
  have hx := hC.1
  have hb := hC.2.1
  intro n
  induction n with
  | zero =>
    intro x1 w H locs ls hp hS hl
    exact False.elim hp
  | succ n ih =>
    intro x1 w H locs ls hp hS hl
    unfold pX11_keepAct_11 at hp
    refine lv_iload_n hx hb dX11_keepAct_11 rfl (lv_at hl 1 rfl) ?_
    refine lv_sipush hx hb dX11_keepAct_12 kS_8840 ?_
    refine lv_icmp_ge (tgt := 40) hx hb dX11_keepAct_15 (by decide) (fun c_1 => ?_) (fun c_1 => ?_)
    · have hp := hp.1 c_1
      refine lv_aload_n hx hb dX11_keepAct_40 rfl (lv_at hl 0 rfl) ?_
      refine lv_dup hx hb dX11_keepAct_41 rfl ?_
      refine G_300_42 hC hS m309 dX11_keepAct_42 ?_
      refine lv_iconst hx hb dX11_keepAct_45 kI_1 ?_
      refine lv_isub hx hb dX11_keepAct_46 ?_
      refine P_300_42 hC hS m309 dX11_keepAct_47 (fun w_2 H locs ew_2 hS => ?_)
      have hp := hp w_2 ew_2
      exact bX11_keepAct_50 hC hR  w_2 _ _ _ hp hS (lv_sub hl [0] rfl)
    · have hp := hp.2 c_1
      refine lv_aload_n hx hb dX11_keepAct_18 rfl (lv_at hl 0 rfl) ?_
      refine G_300_41 hC hS m275 dX11_keepAct_19 ?_
      refine lv_iload_n hx hb dX11_keepAct_22 rfl (lv_at hl 1 rfl) ?_
      refine lv_aload_n hx hb dX11_keepAct_23 rfl (lv_at hl 0 rfl) ?_
      refine G_300_41 hC hS m275 dX11_keepAct_24 ?_
      refine lv_iload_n hx hb dX11_keepAct_27 rfl (lv_at hl 1 rfl) ?_
      refine lv_sipush hx hb dX11_keepAct_28 kS_221 ?_
      refine lv_iadd hx hb dX11_keepAct_31 ?_
      refine La_342 hC hS hp.1 dX11_keepAct_32 ?_
      have hp := hp.2
      refine Sa_342 hC hS hp.1 dX11_keepAct_33 (fun w_3 H locs ew_3 hS => ?_)
      have hp := hp.2
      have hp := hp w_3 ew_3
      obtain ⟨x1_4, ex1_4⟩ : ∃ y : Int32, y = x1 + (1 : Int32) := ⟨_, rfl⟩
      have hp := hp x1_4 ex1_4
      refine lv_iinc (v := x1_4) (lv' := [(1, .int x1_4), (0, .ref (g.2.2 300))]) hx hb dX11_keepAct_34 hl (k := 1) rfl (by rw [ex1_4]; rfl) (by decide) rfl (fun ls hl => ?_)
      refine lv_goto (tgt := 11) hx hb dX11_keepAct_37 (by decide) ?_
      exact ih x1_4 w_3 _ _ _ hp hS (lv_sub hl [1, 0] rfl)
set_option maxHeartbeats 4000000 in
set_option maxRecDepth 100000 in
theorem rX11_keepAct {l : Launch} {g : Gw} {w : Wd} {post : Wd → Prop}    (hp : pX11_keepAct post  w) : MtV tabM l yX11_keepAct cX11_keepAct 2 none 1 g w [.ref (g.2.2 300)] post := by
  refine q_entV tabM_nd (by decide) rfl (Nat.le_of_ble_eq_true rfl) ?_
  intro p e s m args below meth c A Q ls hC hR hS hl
  have hx := hC.1
  have hb := hC.2.1
  have hl : lv_has ls 2 [(0, .ref (g.2.2 300))] := hl
  unfold pX11_keepAct at hp
  refine lv_aload_n hx hb dX11_keepAct_0 rfl (lv_at hl 0 rfl) ?_
  refine G_300_42 hC hS m309 dX11_keepAct_1 ?_
  refine lv_bipush hx hb dX11_keepAct_4 kB_40 ?_
  refine lv_icmp_ne (tgt := 50) hx hb dX11_keepAct_6 (by decide) (fun c_1 => ?_) (fun c_1 => ?_)
  · have hp := hp.1 c_1
    exact bX11_keepAct_50 hC hR  w _ _ _ hp hS (lv_sub hl [0] rfl)
  · have hp := hp.2 c_1
    refine lv_iconst hx hb dX11_keepAct_9 kI_0 ?_
    refine lv_istore_n (lv' := [(1, .int (0 : Int32)), (0, .ref (g.2.2 300))]) hx hb dX11_keepAct_10 rfl hl (by decide) rfl (fun ls hl => ?_)
    obtain ⟨n9, hp⟩ := hp
    exact bX11_keepAct_11 hC hR n9 (0 : Int32) w _ _ _ hp hS (lv_sub hl [1, 0] rfl)
def pX11_rowOf (post : Int32 → Wd → Prop) (x1 : Int32) (w : Wd) : Prop := vp_in ((4 : Int32) * x1) 221 ∧ post (w.2.1 341 ((4 : Int32) * x1).toNatClampNeg) w
set_option maxHeartbeats 4000000 in
set_option maxRecDepth 100000 in
theorem rX11_rowOf {l : Launch} {g : Gw} {w : Wd} {post : Int32 → Wd → Prop}   {x1 : Int32} (hp : pX11_rowOf post x1 w) : MtI tabM l yX11_rowOf cX11_rowOf 2 (some .int) 1 g w [.ref (g.2.2 300), .int x1] post := by
  refine q_entI tabM_nd (by decide) rfl (Nat.le_of_ble_eq_true rfl) ?_
  intro p e s m args below meth c A Q ls hC hR hS hl
  have hx := hC.1
  have hb := hC.2.1
  have hl : lv_has ls 2 [(0, .ref (g.2.2 300)), (1, .int x1)] := hl
  unfold pX11_rowOf at hp
  refine lv_aload_n hx hb dX11_rowOf_0 rfl (lv_at hl 0 rfl) ?_
  refine G_300_40 hC hS m274 dX11_rowOf_1 ?_
  refine lv_iconst hx hb dX11_rowOf_4 kI_4 ?_
  refine lv_iload_n hx hb dX11_rowOf_5 rfl (lv_at hl 1 rfl) ?_
  refine lv_imul hx hb dX11_rowOf_6 ?_
  refine La_341 hC hS hp.1 dX11_rowOf_7 ?_
  have hp := hp.2
  exact hR _ _ _ _ _ _ dX11_rowOf_8 hp hS
def pX11_cast (post : Int32 → Wd → Prop) (x1 : Int32) (x2 : Int32) (x3 : Int32) (w : Wd) : Prop := pX11_isSeal (fun r_1 w_2 => (r_1 = 0 → (post (-1 : Int32) w_2)) ∧ (¬ r_1 = 0 → (pX11_isHand (fun r_4 w_5 => (r_4 = 0 → (post (-1 : Int32) w_5)) ∧ (¬ r_4 = 0 → (pX11_isHeat (fun r_7 w_8 => (r_7 = 0 → (post (-1 : Int32) w_8)) ∧ (¬ r_7 = 0 → (((w_8.2.1 341 (216 : Int32).toNatClampNeg) = (24 : Int32) → (post (-1 : Int32) w_8)) ∧ (¬ (w_8.2.1 341 (216 : Int32).toNatClampNeg) = (24 : Int32) → ((((1 : Int32) + x3) ≤ (w_8.2.1 341 (218 : Int32).toNatClampNeg) → (pX11_keepAct (fun w_12 => ∀ x4_13, x4_13 = (w_12.2.1 341 (216 : Int32).toNatClampNeg) → ∀ w_14, w_14 = sA w_12 341 (220 : Int32).toNatClampNeg ((((137 : Int32) * (w_12.2.1 341 (220 : Int32).toNatClampNeg)) + (71 : Int32)) - (((137 : Int32) * (w_12.2.1 341 (220 : Int32).toNatClampNeg)) + (71 : Int32)) / (1000 : Int32) * (1000 : Int32)) → pX11_rowOf (fun r_15 w_16 => pX11_castOf (fun r_17 w_18 => vp_in ((4 : Int32) * x4_13) 221 ∧ ∀ w_19, w_19 = sA w_18 341 ((4 : Int32) * x4_13).toNatClampNeg r_17 → vp_in (((4 : Int32) * x4_13) + (1 : Int32)) 221 ∧ ∀ w_20, w_20 = sA w_19 341 (((4 : Int32) * x4_13) + (1 : Int32)).toNatClampNeg x1 → vp_in (((4 : Int32) * x4_13) + (2 : Int32)) 221 ∧ ∀ w_21, w_21 = sA w_20 341 (((4 : Int32) * x4_13) + (2 : Int32)).toNatClampNeg x2 → vp_in (((4 : Int32) * x4_13) + (3 : Int32)) 221 ∧ ∀ w_22, w_22 = sA w_21 341 (((4 : Int32) * x4_13) + (3 : Int32)).toNatClampNeg (w_21.2.1 341 (219 : Int32).toNatClampNeg) → ∀ w_23, w_23 = sA w_22 341 (216 : Int32).toNatClampNeg ((w_22.2.1 341 (216 : Int32).toNatClampNeg) + (1 : Int32)) → ∀ w_24, w_24 = sA w_23 341 (218 : Int32).toNatClampNeg ((w_23.2.1 341 (218 : Int32).toNatClampNeg) - ((1 : Int32) + x3)) → post x4_13 w_24) r_15 x2 x3 ((w_16.2.1 341 (220 : Int32).toNatClampNeg) - (w_16.2.1 341 (220 : Int32).toNatClampNeg) / (100 : Int32) * (100 : Int32)) w_16) x1 w_14) w_8)) ∧ (¬ ((1 : Int32) + x3) ≤ (w_8.2.1 341 (218 : Int32).toNatClampNeg) → (post (-1 : Int32) w_8))))))) x3 w_5))) x2 w_2))) x1 w
set_option maxHeartbeats 4000000 in
set_option maxRecDepth 100000 in
theorem rX11_cast {l : Launch} {g : Gw} {w : Wd} {post : Int32 → Wd → Prop}   {x1 : Int32} {x2 : Int32} {x3 : Int32} (hp : pX11_cast post x1 x2 x3 w) : MtI tabM l yX11_cast cX11_cast 5 (some .int) 4 g w [.ref (g.2.2 300), .int x1, .int x2, .int x3] post := by
  refine q_entI tabM_nd (by decide) rfl (Nat.le_of_ble_eq_true rfl) ?_
  intro p e s m args below meth c A Q ls hC hR hS hl
  have hx := hC.1
  have hb := hC.2.1
  have hl : lv_has ls 5 [(0, .ref (g.2.2 300)), (1, .int x1), (2, .int x2), (3, .int x3)] := hl
  unfold pX11_cast at hp
  refine lv_aload_n hx hb dX11_cast_0 rfl (lv_at hl 0 rfl) ?_
  refine lv_iload_n hx hb dX11_cast_1 rfl (lv_at hl 1 rfl) ?_
  refine q_cvI (As := [.int x1]) (rest := []) hC hS hl.1 (rX11_isSeal hp) cwX11_383 yvX11_isSeal (rcv_300 hC hS) rfl rfl (Nat.le_of_ble_eq_true rfl) (rmk (by decide) (by decide)) dX11_cast_2 (fun r_1 w_2 H locs hp hS => ?_)
  refine lv_if_eq (tgt := 50) hx hb dX11_cast_5 (by decide) (fun c_3 => ?_) (fun c_3 => ?_)
  · have hp := hp.1 c_3
    refine lv_iconst hx hb dX11_cast_50 kI_m1 ?_
    exact hR _ _ _ _ _ _ dX11_cast_51 hp hS
  · have hp := hp.2 c_3
    refine lv_aload_n hx hb dX11_cast_8 rfl (lv_at hl 0 rfl) ?_
    refine lv_iload_n hx hb dX11_cast_9 rfl (lv_at hl 2 rfl) ?_
    refine q_cvI (As := [.int x2]) (rest := []) hC hS hl.1 (rX11_isHand hp) cwX11_361 yvX11_isHand (rcv_300 hC hS) rfl rfl (Nat.le_of_ble_eq_true rfl) (rmk (by decide) (by decide)) dX11_cast_10 (fun r_4 w_5 H locs hp hS => ?_)
    refine lv_if_eq (tgt := 50) hx hb dX11_cast_13 (by decide) (fun c_6 => ?_) (fun c_6 => ?_)
    · have hp := hp.1 c_6
      refine lv_iconst hx hb dX11_cast_50 kI_m1 ?_
      exact hR _ _ _ _ _ _ dX11_cast_51 hp hS
    · have hp := hp.2 c_6
      refine lv_iload_n hx hb dX11_cast_16 rfl (lv_at hl 3 rfl) ?_
      refine q_csI (As := [.int x3]) (rest := []) hC hS hl.1 (rX11_isHeat hp) cwX11_364 ysX11_isHeat rfl rfl (Nat.le_of_ble_eq_true rfl) (rmk (by decide) (by decide)) dX11_cast_17 (fun r_7 w_8 H locs hp hS => ?_)
      refine lv_if_eq (tgt := 50) hx hb dX11_cast_20 (by decide) (fun c_9 => ?_) (fun c_9 => ?_)
      · have hp := hp.1 c_9
        refine lv_iconst hx hb dX11_cast_50 kI_m1 ?_
        exact hR _ _ _ _ _ _ dX11_cast_51 hp hS
      · have hp := hp.2 c_9
        refine lv_aload_n hx hb dX11_cast_23 rfl (lv_at hl 0 rfl) ?_
        refine G_300_40 hC hS m274 dX11_cast_24 ?_
        refine lv_sipush hx hb dX11_cast_27 kS_216 ?_
        refine La_341 hC hS (by unfold vp_in; decide) dX11_cast_30 ?_
        refine lv_bipush hx hb dX11_cast_31 kB_24 ?_
        refine lv_icmp_eq (tgt := 50) hx hb dX11_cast_33 (by decide) (fun c_10 => ?_) (fun c_10 => ?_)
        · have hp := hp.1 c_10
          refine lv_iconst hx hb dX11_cast_50 kI_m1 ?_
          exact hR _ _ _ _ _ _ dX11_cast_51 hp hS
        · have hp := hp.2 c_10
          refine lv_aload_n hx hb dX11_cast_36 rfl (lv_at hl 0 rfl) ?_
          refine G_300_40 hC hS m274 dX11_cast_37 ?_
          refine lv_sipush hx hb dX11_cast_40 kS_218 ?_
          refine La_341 hC hS (by unfold vp_in; decide) dX11_cast_43 ?_
          refine lv_iconst hx hb dX11_cast_44 kI_1 ?_
          refine lv_iload_n hx hb dX11_cast_45 rfl (lv_at hl 3 rfl) ?_
          refine lv_iadd hx hb dX11_cast_46 ?_
          refine lv_icmp_ge (tgt := 52) hx hb dX11_cast_47 (by decide) (fun c_11 => ?_) (fun c_11 => ?_)
          · have hp := hp.1 c_11
            refine lv_aload_n hx hb dX11_cast_52 rfl (lv_at hl 0 rfl) ?_
            refine q_cvV (As := []) (rest := []) hC hS hl.1 (rX11_keepAct hp) cwX11_389 yvX11_keepAct (rcv_300 hC hS) rfl rfl (Nat.le_of_ble_eq_true rfl) (rmk (by decide) (by decide)) dX11_cast_53 (fun w_12 H locs hp hS => ?_)
            refine lv_aload_n hx hb dX11_cast_56 rfl (lv_at hl 0 rfl) ?_
            refine G_300_40 hC hS m274 dX11_cast_57 ?_
            refine lv_sipush hx hb dX11_cast_60 kS_216 ?_
            refine La_341 hC hS (by unfold vp_in; decide) dX11_cast_63 ?_
            refine lv_topi (fun x4_13 ex4_13 => ?_)
            have hp := hp x4_13 ex4_13
            refine lv_istore (lv' := [(4, .int x4_13), (0, .ref (g.2.2 300)), (1, .int x1), (2, .int x2), (3, .int x3)]) hx hb dX11_cast_64 hl (by decide) rfl (fun ls hl => ?_)
            refine lv_aload_n hx hb dX11_cast_66 rfl (lv_at hl 1 rfl) ?_
            refine G_300_40 hC hS m274 dX11_cast_67 ?_
            refine lv_sipush hx hb dX11_cast_70 kS_220 ?_
            refine lv_sipush hx hb dX11_cast_73 kS_137 ?_
            refine lv_aload_n hx hb dX11_cast_76 rfl (lv_at hl 1 rfl) ?_
            refine G_300_40 hC hS m274 dX11_cast_77 ?_
            refine lv_sipush hx hb dX11_cast_80 kS_220 ?_
            refine La_341 hC hS (by unfold vp_in; decide) dX11_cast_83 ?_
            refine lv_imul hx hb dX11_cast_84 ?_
            refine lv_bipush hx hb dX11_cast_85 kB_71 ?_
            refine lv_iadd hx hb dX11_cast_87 ?_
            refine lv_sipush hx hb dX11_cast_88 kS_1000 ?_
            refine lv_irem hx hb dX11_cast_91 (by decide) ?_
            refine Sa_341 hC hS (by unfold vp_in; decide) dX11_cast_92 (fun w_14 H locs ew_14 hS => ?_)
            have hp := hp w_14 ew_14
            refine lv_aload_n hx hb dX11_cast_93 rfl (lv_at hl 1 rfl) ?_
            refine G_300_40 hC hS m274 dX11_cast_94 ?_
            refine lv_iconst hx hb dX11_cast_97 kI_4 ?_
            refine lv_iload hx hb dX11_cast_98 (lv_at hl 0 rfl) ?_
            refine lv_imul hx hb dX11_cast_100 ?_
            refine lv_aload_n hx hb dX11_cast_101 rfl (lv_at hl 1 rfl) ?_
            refine lv_aload_n hx hb dX11_cast_102 rfl (lv_at hl 1 rfl) ?_
            refine lv_iload_n hx hb dX11_cast_103 rfl (lv_at hl 2 rfl) ?_
            refine q_cvI (As := [.int x1]) (rest := [.ref (g.2.2 300), .int ((4 : Int32) * x4_13), .ref (g.2.2 341)]) hC hS hl.1 (rX11_rowOf hp) cwX11_392 yvX11_rowOf (rcv_300 hC hS) rfl rfl (Nat.le_of_ble_eq_true rfl) (rmk (by decide) (by decide)) dX11_cast_104 (fun r_15 w_16 H locs hp hS => ?_)
            refine lv_iload_n hx hb dX11_cast_107 rfl (lv_at hl 3 rfl) ?_
            refine lv_iload_n hx hb dX11_cast_108 rfl (lv_at hl 4 rfl) ?_
            refine lv_aload_n hx hb dX11_cast_109 rfl (lv_at hl 1 rfl) ?_
            refine G_300_40 hC hS m274 dX11_cast_110 ?_
            refine lv_sipush hx hb dX11_cast_113 kS_220 ?_
            refine La_341 hC hS (by unfold vp_in; decide) dX11_cast_116 ?_
            refine lv_bipush hx hb dX11_cast_117 kB_100 ?_
            refine lv_irem hx hb dX11_cast_119 (by decide) ?_
            refine q_cvI (As := [.int r_15, .int x2, .int x3, .int ((w_16.2.1 341 (220 : Int32).toNatClampNeg) - (w_16.2.1 341 (220 : Int32).toNatClampNeg) / (100 : Int32) * (100 : Int32))]) (rest := [.int ((4 : Int32) * x4_13), .ref (g.2.2 341)]) hC hS hl.1 (rX11_castOf hp) cwX11_367 yvX11_castOf (rcv_300 hC hS) rfl rfl (Nat.le_of_ble_eq_true rfl) (rmk (by decide) (by decide)) dX11_cast_120 (fun r_17 w_18 H locs hp hS => ?_)
            refine Sa_341 hC hS hp.1 dX11_cast_123 (fun w_19 H locs ew_19 hS => ?_)
            have hp := hp.2
            have hp := hp w_19 ew_19
            refine lv_aload_n hx hb dX11_cast_124 rfl (lv_at hl 1 rfl) ?_
            refine G_300_40 hC hS m274 dX11_cast_125 ?_
            refine lv_iconst hx hb dX11_cast_128 kI_4 ?_
            refine lv_iload hx hb dX11_cast_129 (lv_at hl 0 rfl) ?_
            refine lv_imul hx hb dX11_cast_131 ?_
            refine lv_iconst hx hb dX11_cast_132 kI_1 ?_
            refine lv_iadd hx hb dX11_cast_133 ?_
            refine lv_iload_n hx hb dX11_cast_134 rfl (lv_at hl 2 rfl) ?_
            refine Sa_341 hC hS hp.1 dX11_cast_135 (fun w_20 H locs ew_20 hS => ?_)
            have hp := hp.2
            have hp := hp w_20 ew_20
            refine lv_aload_n hx hb dX11_cast_136 rfl (lv_at hl 1 rfl) ?_
            refine G_300_40 hC hS m274 dX11_cast_137 ?_
            refine lv_iconst hx hb dX11_cast_140 kI_4 ?_
            refine lv_iload hx hb dX11_cast_141 (lv_at hl 0 rfl) ?_
            refine lv_imul hx hb dX11_cast_143 ?_
            refine lv_iconst hx hb dX11_cast_144 kI_2 ?_
            refine lv_iadd hx hb dX11_cast_145 ?_
            refine lv_iload_n hx hb dX11_cast_146 rfl (lv_at hl 3 rfl) ?_
            refine Sa_341 hC hS hp.1 dX11_cast_147 (fun w_21 H locs ew_21 hS => ?_)
            have hp := hp.2
            have hp := hp w_21 ew_21
            refine lv_aload_n hx hb dX11_cast_148 rfl (lv_at hl 1 rfl) ?_
            refine G_300_40 hC hS m274 dX11_cast_149 ?_
            refine lv_iconst hx hb dX11_cast_152 kI_4 ?_
            refine lv_iload hx hb dX11_cast_153 (lv_at hl 0 rfl) ?_
            refine lv_imul hx hb dX11_cast_155 ?_
            refine lv_iconst hx hb dX11_cast_156 kI_3 ?_
            refine lv_iadd hx hb dX11_cast_157 ?_
            refine lv_aload_n hx hb dX11_cast_158 rfl (lv_at hl 1 rfl) ?_
            refine G_300_40 hC hS m274 dX11_cast_159 ?_
            refine lv_sipush hx hb dX11_cast_162 kS_219 ?_
            refine La_341 hC hS (by unfold vp_in; decide) dX11_cast_165 ?_
            refine Sa_341 hC hS hp.1 dX11_cast_166 (fun w_22 H locs ew_22 hS => ?_)
            have hp := hp.2
            have hp := hp w_22 ew_22
            refine lv_aload_n hx hb dX11_cast_167 rfl (lv_at hl 1 rfl) ?_
            refine G_300_40 hC hS m274 dX11_cast_168 ?_
            refine lv_sipush hx hb dX11_cast_171 kS_216 ?_
            refine lv_dup2_11 hx hb dX11_cast_174 rfl rfl ?_
            refine La_341 hC hS (by unfold vp_in; decide) dX11_cast_175 ?_
            refine lv_iconst hx hb dX11_cast_176 kI_1 ?_
            refine lv_iadd hx hb dX11_cast_177 ?_
            refine Sa_341 hC hS (by unfold vp_in; decide) dX11_cast_178 (fun w_23 H locs ew_23 hS => ?_)
            have hp := hp w_23 ew_23
            refine lv_aload_n hx hb dX11_cast_179 rfl (lv_at hl 1 rfl) ?_
            refine G_300_40 hC hS m274 dX11_cast_180 ?_
            refine lv_sipush hx hb dX11_cast_183 kS_218 ?_
            refine lv_dup2_11 hx hb dX11_cast_186 rfl rfl ?_
            refine La_341 hC hS (by unfold vp_in; decide) dX11_cast_187 ?_
            refine lv_iconst hx hb dX11_cast_188 kI_1 ?_
            refine lv_iload_n hx hb dX11_cast_189 rfl (lv_at hl 4 rfl) ?_
            refine lv_iadd hx hb dX11_cast_190 ?_
            refine lv_isub hx hb dX11_cast_191 ?_
            refine Sa_341 hC hS (by unfold vp_in; decide) dX11_cast_192 (fun w_24 H locs ew_24 hS => ?_)
            have hp := hp w_24 ew_24
            refine lv_iload hx hb dX11_cast_193 (lv_at hl 0 rfl) ?_
            exact hR _ _ _ _ _ _ dX11_cast_195 hp hS
          · have hp := hp.2 c_11
            refine lv_iconst hx hb dX11_cast_50 kI_m1 ?_
            exact hR _ _ _ _ _ _ dX11_cast_51 hp hS
def pX11_print (post : Int32 → Wd → Prop) (x1 : Int32) (w : Wd) : Prop := pX11_isSeal (fun r_1 w_2 => (r_1 = 0 → (post (-1 : Int32) w_2)) ∧ (¬ r_1 = 0 → (((w_2.2.1 341 (217 : Int32).toNatClampNeg) = (40 : Int32) → (post (-1 : Int32) w_2)) ∧ (¬ (w_2.2.1 341 (217 : Int32).toNatClampNeg) = (40 : Int32) → ((¬ (w_2.2.1 341 (218 : Int32).toNatClampNeg) = 0 → (pX11_keepAct (fun w_6 => ∀ x2_7, x2_7 = (w_6.2.1 341 (217 : Int32).toNatClampNeg) → pX11_rowOf (fun r_8 w_9 => pX11_turnedRow (fun r_10 w_11 => vp_in ((96 : Int32) + ((3 : Int32) * x2_7)) 221 ∧ ∀ w_12, w_12 = sA w_11 341 ((96 : Int32) + ((3 : Int32) * x2_7)).toNatClampNeg r_10 → vp_in (((96 : Int32) + ((3 : Int32) * x2_7)) + (1 : Int32)) 221 ∧ ∀ w_13, w_13 = sA w_12 341 (((96 : Int32) + ((3 : Int32) * x2_7)) + (1 : Int32)).toNatClampNeg x1 → vp_in (((96 : Int32) + ((3 : Int32) * x2_7)) + (2 : Int32)) 221 ∧ ∀ w_14, w_14 = sA w_13 341 (((96 : Int32) + ((3 : Int32) * x2_7)) + (2 : Int32)).toNatClampNeg (w_13.2.1 341 (219 : Int32).toNatClampNeg) → ∀ w_15, w_15 = sA w_14 341 (217 : Int32).toNatClampNeg ((w_14.2.1 341 (217 : Int32).toNatClampNeg) + (1 : Int32)) → ∀ w_16, w_16 = sA w_15 341 (218 : Int32).toNatClampNeg ((w_15.2.1 341 (218 : Int32).toNatClampNeg) - (1 : Int32)) → post x2_7 w_16) r_8 w_9) x1 w_6) w_2)) ∧ ((w_2.2.1 341 (218 : Int32).toNatClampNeg) = 0 → (post (-1 : Int32) w_2))))))) x1 w
set_option maxHeartbeats 4000000 in
set_option maxRecDepth 100000 in
theorem rX11_print {l : Launch} {g : Gw} {w : Wd} {post : Int32 → Wd → Prop}   {x1 : Int32} (hp : pX11_print post x1 w) : MtI tabM l yX11_print cX11_print 3 (some .int) 3 g w [.ref (g.2.2 300), .int x1] post := by
  refine q_entI tabM_nd (by decide) rfl (Nat.le_of_ble_eq_true rfl) ?_
  intro p e s m args below meth c A Q ls hC hR hS hl
  have hx := hC.1
  have hb := hC.2.1
  have hl : lv_has ls 3 [(0, .ref (g.2.2 300)), (1, .int x1)] := hl
  unfold pX11_print at hp
  refine lv_aload_n hx hb dX11_print_0 rfl (lv_at hl 0 rfl) ?_
  refine lv_iload_n hx hb dX11_print_1 rfl (lv_at hl 1 rfl) ?_
  refine q_cvI (As := [.int x1]) (rest := []) hC hS hl.1 (rX11_isSeal hp) cwX11_383 yvX11_isSeal (rcv_300 hC hS) rfl rfl (Nat.le_of_ble_eq_true rfl) (rmk (by decide) (by decide)) dX11_print_2 (fun r_1 w_2 H locs hp hS => ?_)
  refine lv_if_eq (tgt := 32) hx hb dX11_print_5 (by decide) (fun c_3 => ?_) (fun c_3 => ?_)
  · have hp := hp.1 c_3
    refine lv_iconst hx hb dX11_print_32 kI_m1 ?_
    exact hR _ _ _ _ _ _ dX11_print_33 hp hS
  · have hp := hp.2 c_3
    refine lv_aload_n hx hb dX11_print_8 rfl (lv_at hl 0 rfl) ?_
    refine G_300_40 hC hS m274 dX11_print_9 ?_
    refine lv_sipush hx hb dX11_print_12 kS_217 ?_
    refine La_341 hC hS (by unfold vp_in; decide) dX11_print_15 ?_
    refine lv_bipush hx hb dX11_print_16 kB_40 ?_
    refine lv_icmp_eq (tgt := 32) hx hb dX11_print_18 (by decide) (fun c_4 => ?_) (fun c_4 => ?_)
    · have hp := hp.1 c_4
      refine lv_iconst hx hb dX11_print_32 kI_m1 ?_
      exact hR _ _ _ _ _ _ dX11_print_33 hp hS
    · have hp := hp.2 c_4
      refine lv_aload_n hx hb dX11_print_21 rfl (lv_at hl 0 rfl) ?_
      refine G_300_40 hC hS m274 dX11_print_22 ?_
      refine lv_sipush hx hb dX11_print_25 kS_218 ?_
      refine La_341 hC hS (by unfold vp_in; decide) dX11_print_28 ?_
      refine lv_if_ne (tgt := 34) hx hb dX11_print_29 (by decide) (fun c_5 => ?_) (fun c_5 => ?_)
      · have hp := hp.1 c_5
        refine lv_aload_n hx hb dX11_print_34 rfl (lv_at hl 0 rfl) ?_
        refine q_cvV (As := []) (rest := []) hC hS hl.1 (rX11_keepAct hp) cwX11_389 yvX11_keepAct (rcv_300 hC hS) rfl rfl (Nat.le_of_ble_eq_true rfl) (rmk (by decide) (by decide)) dX11_print_35 (fun w_6 H locs hp hS => ?_)
        refine lv_aload_n hx hb dX11_print_38 rfl (lv_at hl 0 rfl) ?_
        refine G_300_40 hC hS m274 dX11_print_39 ?_
        refine lv_sipush hx hb dX11_print_42 kS_217 ?_
        refine La_341 hC hS (by unfold vp_in; decide) dX11_print_45 ?_
        refine lv_topi (fun x2_7 ex2_7 => ?_)
        have hp := hp x2_7 ex2_7
        refine lv_istore_n (lv' := [(2, .int x2_7), (0, .ref (g.2.2 300)), (1, .int x1)]) hx hb dX11_print_46 rfl hl (by decide) rfl (fun ls hl => ?_)
        refine lv_aload_n hx hb dX11_print_47 rfl (lv_at hl 1 rfl) ?_
        refine G_300_40 hC hS m274 dX11_print_48 ?_
        refine lv_bipush hx hb dX11_print_51 kB_96 ?_
        refine lv_iconst hx hb dX11_print_53 kI_3 ?_
        refine lv_iload_n hx hb dX11_print_54 rfl (lv_at hl 0 rfl) ?_
        refine lv_imul hx hb dX11_print_55 ?_
        refine lv_iadd hx hb dX11_print_56 ?_
        refine lv_aload_n hx hb dX11_print_57 rfl (lv_at hl 1 rfl) ?_
        refine lv_aload_n hx hb dX11_print_58 rfl (lv_at hl 1 rfl) ?_
        refine lv_iload_n hx hb dX11_print_59 rfl (lv_at hl 2 rfl) ?_
        refine q_cvI (As := [.int x1]) (rest := [.ref (g.2.2 300), .int ((96 : Int32) + ((3 : Int32) * x2_7)), .ref (g.2.2 341)]) hC hS hl.1 (rX11_rowOf hp) cwX11_392 yvX11_rowOf (rcv_300 hC hS) rfl rfl (Nat.le_of_ble_eq_true rfl) (rmk (by decide) (by decide)) dX11_print_60 (fun r_8 w_9 H locs hp hS => ?_)
        refine q_cvI (As := [.int r_8]) (rest := [.int ((96 : Int32) + ((3 : Int32) * x2_7)), .ref (g.2.2 341)]) hC hS hl.1 (rX11_turnedRow hp) cwX11_349 yvX11_turnedRow (rcv_300 hC hS) rfl rfl (Nat.le_of_ble_eq_true rfl) (rmk (by decide) (by decide)) dX11_print_63 (fun r_10 w_11 H locs hp hS => ?_)
        refine Sa_341 hC hS hp.1 dX11_print_66 (fun w_12 H locs ew_12 hS => ?_)
        have hp := hp.2
        have hp := hp w_12 ew_12
        refine lv_aload_n hx hb dX11_print_67 rfl (lv_at hl 1 rfl) ?_
        refine G_300_40 hC hS m274 dX11_print_68 ?_
        refine lv_bipush hx hb dX11_print_71 kB_96 ?_
        refine lv_iconst hx hb dX11_print_73 kI_3 ?_
        refine lv_iload_n hx hb dX11_print_74 rfl (lv_at hl 0 rfl) ?_
        refine lv_imul hx hb dX11_print_75 ?_
        refine lv_iadd hx hb dX11_print_76 ?_
        refine lv_iconst hx hb dX11_print_77 kI_1 ?_
        refine lv_iadd hx hb dX11_print_78 ?_
        refine lv_iload_n hx hb dX11_print_79 rfl (lv_at hl 2 rfl) ?_
        refine Sa_341 hC hS hp.1 dX11_print_80 (fun w_13 H locs ew_13 hS => ?_)
        have hp := hp.2
        have hp := hp w_13 ew_13
        refine lv_aload_n hx hb dX11_print_81 rfl (lv_at hl 1 rfl) ?_
        refine G_300_40 hC hS m274 dX11_print_82 ?_
        refine lv_bipush hx hb dX11_print_85 kB_96 ?_
        refine lv_iconst hx hb dX11_print_87 kI_3 ?_
        refine lv_iload_n hx hb dX11_print_88 rfl (lv_at hl 0 rfl) ?_
        refine lv_imul hx hb dX11_print_89 ?_
        refine lv_iadd hx hb dX11_print_90 ?_
        refine lv_iconst hx hb dX11_print_91 kI_2 ?_
        refine lv_iadd hx hb dX11_print_92 ?_
        refine lv_aload_n hx hb dX11_print_93 rfl (lv_at hl 1 rfl) ?_
        refine G_300_40 hC hS m274 dX11_print_94 ?_
        refine lv_sipush hx hb dX11_print_97 kS_219 ?_
        refine La_341 hC hS (by unfold vp_in; decide) dX11_print_100 ?_
        refine Sa_341 hC hS hp.1 dX11_print_101 (fun w_14 H locs ew_14 hS => ?_)
        have hp := hp.2
        have hp := hp w_14 ew_14
        refine lv_aload_n hx hb dX11_print_102 rfl (lv_at hl 1 rfl) ?_
        refine G_300_40 hC hS m274 dX11_print_103 ?_
        refine lv_sipush hx hb dX11_print_106 kS_217 ?_
        refine lv_dup2_11 hx hb dX11_print_109 rfl rfl ?_
        refine La_341 hC hS (by unfold vp_in; decide) dX11_print_110 ?_
        refine lv_iconst hx hb dX11_print_111 kI_1 ?_
        refine lv_iadd hx hb dX11_print_112 ?_
        refine Sa_341 hC hS (by unfold vp_in; decide) dX11_print_113 (fun w_15 H locs ew_15 hS => ?_)
        have hp := hp w_15 ew_15
        refine lv_aload_n hx hb dX11_print_114 rfl (lv_at hl 1 rfl) ?_
        refine G_300_40 hC hS m274 dX11_print_115 ?_
        refine lv_sipush hx hb dX11_print_118 kS_218 ?_
        refine lv_dup2_11 hx hb dX11_print_121 rfl rfl ?_
        refine La_341 hC hS (by unfold vp_in; decide) dX11_print_122 ?_
        refine lv_iconst hx hb dX11_print_123 kI_1 ?_
        refine lv_isub hx hb dX11_print_124 ?_
        refine Sa_341 hC hS (by unfold vp_in; decide) dX11_print_125 (fun w_16 H locs ew_16 hS => ?_)
        have hp := hp w_16 ew_16
        refine lv_iload_n hx hb dX11_print_126 rfl (lv_at hl 0 rfl) ?_
        exact hR _ _ _ _ _ _ dX11_print_127 hp hS
      · have hp := hp.2 c_5
        refine lv_iconst hx hb dX11_print_32 kI_m1 ?_
        exact hR _ _ _ _ _ _ dX11_print_33 hp hS
def pX11_crack (post : Int32 → Wd → Prop) (x1 : Int32) (x2 : Int32) (w : Wd) : Prop := pX11_isSeal (fun r_1 w_2 => (r_1 = 0 → (post (0 : Int32) w_2)) ∧ (¬ r_1 = 0 → (pX11_width (fun r_4 w_5 => pX11_isIn (fun r_6 w_7 => (r_6 = 0 → (post (0 : Int32) w_7)) ∧ (¬ r_6 = 0 → (pX11_rowOf (fun r_9 w_10 => (¬ ((r_9 >>> (x2 &&& 31)) &&& (1 : Int32)) = 0 → (pX11_keepAct (fun w_12 => vp_in ((4 : Int32) * x1) 221 ∧ vp_in ((4 : Int32) * x1) 221 ∧ ∀ w_13, w_13 = sA w_12 341 ((4 : Int32) * x1).toNatClampNeg ((w_12.2.1 341 ((4 : Int32) * x1).toNatClampNeg) - ((1 : Int32) <<< (x2 &&& 31))) → post (1 : Int32) w_13) w_10)) ∧ (((r_9 >>> (x2 &&& 31)) &&& (1 : Int32)) = 0 → (post (0 : Int32) w_10))) x1 w_7))) x2 (0 : Int32) (r_4 - (1 : Int32)) w_5) w_2))) x1 w
set_option maxHeartbeats 4000000 in
set_option maxRecDepth 100000 in
theorem rX11_crack {l : Launch} {g : Gw} {w : Wd} {post : Int32 → Wd → Prop}   {x1 : Int32} {x2 : Int32} (hp : pX11_crack post x1 x2 w) : MtI tabM l yX11_crack cX11_crack 3 (some .boolean) 3 g w [.ref (g.2.2 300), .int x1, .int x2] post := by
  refine q_entZ tabM_nd (by decide) rfl (Nat.le_of_ble_eq_true rfl) ?_
  intro p e s m args below meth c A Q ls hC hR hS hl
  have hx := hC.1
  have hb := hC.2.1
  have hl : lv_has ls 3 [(0, .ref (g.2.2 300)), (1, .int x1), (2, .int x2)] := hl
  unfold pX11_crack at hp
  refine lv_aload_n hx hb dX11_crack_0 rfl (lv_at hl 0 rfl) ?_
  refine lv_iload_n hx hb dX11_crack_1 rfl (lv_at hl 1 rfl) ?_
  refine q_cvI (As := [.int x1]) (rest := []) hC hS hl.1 (rX11_isSeal hp) cwX11_383 yvX11_isSeal (rcv_300 hC hS) rfl rfl (Nat.le_of_ble_eq_true rfl) (rmk (by decide) (by decide)) dX11_crack_2 (fun r_1 w_2 H locs hp hS => ?_)
  refine lv_if_eq (tgt := 34) hx hb dX11_crack_5 (by decide) (fun c_3 => ?_) (fun c_3 => ?_)
  · have hp := hp.1 c_3
    refine lv_iconst hx hb dX11_crack_34 kI_0 ?_
    exact hR _ _ _ _ _ _ dX11_crack_35 (by decide) hp hS
  · have hp := hp.2 c_3
    refine lv_iload_n hx hb dX11_crack_8 rfl (lv_at hl 2 rfl) ?_
    refine lv_iconst hx hb dX11_crack_9 kI_0 ?_
    refine lv_aload_n hx hb dX11_crack_10 rfl (lv_at hl 0 rfl) ?_
    refine q_cvI (As := []) (rest := [.int (0 : Int32), .int x2]) hC hS hl.1 (rX11_width hp) cwX11_342 yvX11_width (rcv_300 hC hS) rfl rfl (Nat.le_of_ble_eq_true rfl) (rmk (by decide) (by decide)) dX11_crack_11 (fun r_4 w_5 H locs hp hS => ?_)
    refine lv_iconst hx hb dX11_crack_14 kI_1 ?_
    refine lv_isub hx hb dX11_crack_15 ?_
    refine q_csI (As := [.int x2, .int (0 : Int32), .int (r_4 - (1 : Int32))]) (rest := []) hC hS hl.1 (rX11_isIn hp) cwX11_345 ysX11_isIn rfl rfl (Nat.le_of_ble_eq_true rfl) (rmk (by decide) (by decide)) dX11_crack_16 (fun r_6 w_7 H locs hp hS => ?_)
    refine lv_if_eq (tgt := 34) hx hb dX11_crack_19 (by decide) (fun c_8 => ?_) (fun c_8 => ?_)
    · have hp := hp.1 c_8
      refine lv_iconst hx hb dX11_crack_34 kI_0 ?_
      exact hR _ _ _ _ _ _ dX11_crack_35 (by decide) hp hS
    · have hp := hp.2 c_8
      refine lv_aload_n hx hb dX11_crack_22 rfl (lv_at hl 0 rfl) ?_
      refine lv_iload_n hx hb dX11_crack_23 rfl (lv_at hl 1 rfl) ?_
      refine q_cvI (As := [.int x1]) (rest := []) hC hS hl.1 (rX11_rowOf hp) cwX11_392 yvX11_rowOf (rcv_300 hC hS) rfl rfl (Nat.le_of_ble_eq_true rfl) (rmk (by decide) (by decide)) dX11_crack_24 (fun r_9 w_10 H locs hp hS => ?_)
      refine lv_iload_n hx hb dX11_crack_27 rfl (lv_at hl 2 rfl) ?_
      refine lv_ishr hx hb dX11_crack_28 ?_
      refine lv_iconst hx hb dX11_crack_29 kI_1 ?_
      refine lv_iand hx hb dX11_crack_30 ?_
      refine lv_if_ne (tgt := 36) hx hb dX11_crack_31 (by decide) (fun c_11 => ?_) (fun c_11 => ?_)
      · have hp := hp.1 c_11
        refine lv_aload_n hx hb dX11_crack_36 rfl (lv_at hl 0 rfl) ?_
        refine q_cvV (As := []) (rest := []) hC hS hl.1 (rX11_keepAct hp) cwX11_389 yvX11_keepAct (rcv_300 hC hS) rfl rfl (Nat.le_of_ble_eq_true rfl) (rmk (by decide) (by decide)) dX11_crack_37 (fun w_12 H locs hp hS => ?_)
        refine lv_aload_n hx hb dX11_crack_40 rfl (lv_at hl 0 rfl) ?_
        refine G_300_40 hC hS m274 dX11_crack_41 ?_
        refine lv_iconst hx hb dX11_crack_44 kI_4 ?_
        refine lv_iload_n hx hb dX11_crack_45 rfl (lv_at hl 1 rfl) ?_
        refine lv_imul hx hb dX11_crack_46 ?_
        refine lv_dup2_11 hx hb dX11_crack_47 rfl rfl ?_
        refine La_341 hC hS hp.1 dX11_crack_48 ?_
        have hp := hp.2
        refine lv_iconst hx hb dX11_crack_49 kI_1 ?_
        refine lv_iload_n hx hb dX11_crack_50 rfl (lv_at hl 2 rfl) ?_
        refine lv_ishl hx hb dX11_crack_51 ?_
        refine lv_isub hx hb dX11_crack_52 ?_
        refine Sa_341 hC hS hp.1 dX11_crack_53 (fun w_13 H locs ew_13 hS => ?_)
        have hp := hp.2
        have hp := hp w_13 ew_13
        refine lv_iconst hx hb dX11_crack_54 kI_1 ?_
        exact hR _ _ _ _ _ _ dX11_crack_55 (by decide) hp hS
      · have hp := hp.2 c_11
        refine lv_iconst hx hb dX11_crack_34 kI_0 ?_
        exact hR _ _ _ _ _ _ dX11_crack_35 (by decide) hp hS
def pX11_year (post : Int32 → Wd → Prop)  (w : Wd) : Prop := (¬ (w.2.1 341 (219 : Int32).toNatClampNeg) = (999 : Int32) → (pX11_keepAct (fun w_2 => ∀ w_3, w_3 = sA w_2 341 (219 : Int32).toNatClampNeg ((w_2.2.1 341 (219 : Int32).toNatClampNeg) + (1 : Int32)) → post (w_3.2.1 341 (219 : Int32).toNatClampNeg) w_3) w)) ∧ ((w.2.1 341 (219 : Int32).toNatClampNeg) = (999 : Int32) → (post (-1 : Int32) w))
set_option maxHeartbeats 4000000 in
set_option maxRecDepth 100000 in
theorem rX11_year {l : Launch} {g : Gw} {w : Wd} {post : Int32 → Wd → Prop}    (hp : pX11_year post  w) : MtI tabM l yX11_year cX11_year 1 (some .int) 2 g w [.ref (g.2.2 300)] post := by
  refine q_entI tabM_nd (by decide) rfl (Nat.le_of_ble_eq_true rfl) ?_
  intro p e s m args below meth c A Q ls hC hR hS hl
  have hx := hC.1
  have hb := hC.2.1
  have hl : lv_has ls 1 [(0, .ref (g.2.2 300))] := hl
  unfold pX11_year at hp
  refine lv_aload_n hx hb dX11_year_0 rfl (lv_at hl 0 rfl) ?_
  refine G_300_40 hC hS m274 dX11_year_1 ?_
  refine lv_sipush hx hb dX11_year_4 kS_219 ?_
  refine La_341 hC hS (by unfold vp_in; decide) dX11_year_7 ?_
  refine lv_sipush hx hb dX11_year_8 kS_999 ?_
  refine lv_icmp_ne (tgt := 16) hx hb dX11_year_11 (by decide) (fun c_1 => ?_) (fun c_1 => ?_)
  · have hp := hp.1 c_1
    refine lv_aload_n hx hb dX11_year_16 rfl (lv_at hl 0 rfl) ?_
    refine q_cvV (As := []) (rest := []) hC hS hl.1 (rX11_keepAct hp) cwX11_389 yvX11_keepAct (rcv_300 hC hS) rfl rfl (Nat.le_of_ble_eq_true rfl) (rmk (by decide) (by decide)) dX11_year_17 (fun w_2 H locs hp hS => ?_)
    refine lv_aload_n hx hb dX11_year_20 rfl (lv_at hl 0 rfl) ?_
    refine G_300_40 hC hS m274 dX11_year_21 ?_
    refine lv_sipush hx hb dX11_year_24 kS_219 ?_
    refine lv_dup2_11 hx hb dX11_year_27 rfl rfl ?_
    refine La_341 hC hS (by unfold vp_in; decide) dX11_year_28 ?_
    refine lv_iconst hx hb dX11_year_29 kI_1 ?_
    refine lv_iadd hx hb dX11_year_30 ?_
    refine Sa_341 hC hS (by unfold vp_in; decide) dX11_year_31 (fun w_3 H locs ew_3 hS => ?_)
    have hp := hp w_3 ew_3
    refine lv_aload_n hx hb dX11_year_32 rfl (lv_at hl 0 rfl) ?_
    refine G_300_40 hC hS m274 dX11_year_33 ?_
    refine lv_sipush hx hb dX11_year_36 kS_219 ?_
    refine La_341 hC hS (by unfold vp_in; decide) dX11_year_39 ?_
    exact hR _ _ _ _ _ _ dX11_year_40 hp hS
  · have hp := hp.2 c_1
    refine lv_iconst hx hb dX11_year_14 kI_m1 ?_
    exact hR _ _ _ _ _ _ dX11_year_15 hp hS
def pX11_exchange_2 (post : Wd → Prop) : Nat → Int32 → Wd → Prop
  | 0, _, _ => False
  | n + 1, x1, w => ((221 : Int32) ≤ x1 → (post w)) ∧ (¬ (221 : Int32) ≤ x1 → (vp_in (((221 : Int32) * (w.1 300 42)) + x1) 9061 ∧ ∀ x2_2, x2_2 = (w.2.1 342 (((221 : Int32) * (w.1 300 42)) + x1).toNatClampNeg) → vp_in x1 221 ∧ vp_in (((221 : Int32) * (w.1 300 42)) + x1) 9061 ∧ ∀ w_3, w_3 = sA w 342 (((221 : Int32) * (w.1 300 42)) + x1).toNatClampNeg (w.2.1 341 x1.toNatClampNeg) → vp_in x1 221 ∧ ∀ w_4, w_4 = sA w_3 341 x1.toNatClampNeg x2_2 → ∀ x1_5, x1_5 = x1 + (1 : Int32) → pX11_exchange_2 post n x1_5 w_4))
def pX11_exchange (post : Wd → Prop)  (w : Wd) : Prop := ∃ n9, pX11_exchange_2 post n9 (0 : Int32) w
set_option maxHeartbeats 4000000 in
set_option maxRecDepth 100000 in
theorem bX11_exchange_2 {p : Program} {l : Launch} {e : Env} {s : State} {m : MethodId} {args : Array Value} {below : List Frame} {meth : Method} {c : Code} {Q : State → Prop} {A : Nat → Prop} {g : Gw} {post : Wd → Prop}  (hC : Cx p s m args c cX11_exchange RX11 3 g) (hR : RtV tabM p l e (rk 1) s m args below meth c Q cX11_exchange A g post)  : ∀ (n : Nat) (x1 : Int32) (w : Wd) (H : Heap) (locs : List Loc) (ls : Array Slot), pX11_exchange_2 post n x1 w → St tabM A s.heap g w H locs → lv_has ls 3 [(0, .ref (g.2.2 300)), (1, .int x1)] → W p l e (rk 1) s m args below meth c H locs 0 0 Q (F0 m 2 ls []) := by
  have hx := hC.1
  have hb := hC.2.1
  intro n
  induction n with
  | zero =>
    intro x1 w H locs ls hp hS hl
    exact False.elim hp
  | succ n ih =>
    intro x1 w H locs ls hp hS hl
    unfold pX11_exchange_2 at hp
    refine lv_iload_n hx hb dX11_exchange_2 rfl (lv_at hl 1 rfl) ?_
    refine lv_sipush hx hb dX11_exchange_3 kS_221 ?_
    refine lv_icmp_ge (tgt := 59) hx hb dX11_exchange_6 (by decide) (fun c_1 => ?_) (fun c_1 => ?_)
    · have hp := hp.1 c_1
      exact hR _ _ _ _ _ dX11_exchange_59 hp hS
    · have hp := hp.2 c_1
      refine lv_aload_n hx hb dX11_exchange_9 rfl (lv_at hl 0 rfl) ?_
      refine G_300_41 hC hS m275 dX11_exchange_10 ?_
      refine lv_sipush hx hb dX11_exchange_13 kS_221 ?_
      refine lv_aload_n hx hb dX11_exchange_16 rfl (lv_at hl 0 rfl) ?_
      refine G_300_42 hC hS m309 dX11_exchange_17 ?_
      refine lv_imul hx hb dX11_exchange_20 ?_
      refine lv_iload_n hx hb dX11_exchange_21 rfl (lv_at hl 1 rfl) ?_
      refine lv_iadd hx hb dX11_exchange_22 ?_
      refine La_342 hC hS hp.1 dX11_exchange_23 ?_
      have hp := hp.2
      refine lv_topi (fun x2_2 ex2_2 => ?_)
      have hp := hp x2_2 ex2_2
      refine lv_istore_n (lv' := [(2, .int x2_2), (0, .ref (g.2.2 300)), (1, .int x1)]) hx hb dX11_exchange_24 rfl hl (by decide) rfl (fun ls hl => ?_)
      refine lv_aload_n hx hb dX11_exchange_25 rfl (lv_at hl 1 rfl) ?_
      refine G_300_41 hC hS m275 dX11_exchange_26 ?_
      refine lv_sipush hx hb dX11_exchange_29 kS_221 ?_
      refine lv_aload_n hx hb dX11_exchange_32 rfl (lv_at hl 1 rfl) ?_
      refine G_300_42 hC hS m309 dX11_exchange_33 ?_
      refine lv_imul hx hb dX11_exchange_36 ?_
      refine lv_iload_n hx hb dX11_exchange_37 rfl (lv_at hl 2 rfl) ?_
      refine lv_iadd hx hb dX11_exchange_38 ?_
      refine lv_aload_n hx hb dX11_exchange_39 rfl (lv_at hl 1 rfl) ?_
      refine G_300_40 hC hS m274 dX11_exchange_40 ?_
      refine lv_iload_n hx hb dX11_exchange_43 rfl (lv_at hl 2 rfl) ?_
      refine La_341 hC hS hp.1 dX11_exchange_44 ?_
      have hp := hp.2
      refine Sa_342 hC hS hp.1 dX11_exchange_45 (fun w_3 H locs ew_3 hS => ?_)
      have hp := hp.2
      have hp := hp w_3 ew_3
      refine lv_aload_n hx hb dX11_exchange_46 rfl (lv_at hl 1 rfl) ?_
      refine G_300_40 hC hS m274 dX11_exchange_47 ?_
      refine lv_iload_n hx hb dX11_exchange_50 rfl (lv_at hl 2 rfl) ?_
      refine lv_iload_n hx hb dX11_exchange_51 rfl (lv_at hl 0 rfl) ?_
      refine Sa_341 hC hS hp.1 dX11_exchange_52 (fun w_4 H locs ew_4 hS => ?_)
      have hp := hp.2
      have hp := hp w_4 ew_4
      obtain ⟨x1_5, ex1_5⟩ : ∃ y : Int32, y = x1 + (1 : Int32) := ⟨_, rfl⟩
      have hp := hp x1_5 ex1_5
      refine lv_iinc (v := x1_5) (lv' := [(1, .int x1_5), (2, .int x2_2), (0, .ref (g.2.2 300))]) hx hb dX11_exchange_53 hl (k := 2) rfl (by rw [ex1_5]; rfl) (by decide) rfl (fun ls hl => ?_)
      refine lv_goto (tgt := 2) hx hb dX11_exchange_56 (by decide) ?_
      exact ih x1_5 w_4 _ _ _ hp hS (lv_sub hl [2, 0] rfl)
set_option maxHeartbeats 4000000 in
set_option maxRecDepth 100000 in
theorem rX11_exchange {l : Launch} {g : Gw} {w : Wd} {post : Wd → Prop}    (hp : pX11_exchange post  w) : MtV tabM l yX11_exchange cX11_exchange 3 none 1 g w [.ref (g.2.2 300)] post := by
  refine q_entV tabM_nd (by decide) rfl (Nat.le_of_ble_eq_true rfl) ?_
  intro p e s m args below meth c A Q ls hC hR hS hl
  have hx := hC.1
  have hb := hC.2.1
  have hl : lv_has ls 3 [(0, .ref (g.2.2 300))] := hl
  unfold pX11_exchange at hp
  refine lv_iconst hx hb dX11_exchange_0 kI_0 ?_
  refine lv_istore_n (lv' := [(1, .int (0 : Int32)), (0, .ref (g.2.2 300))]) hx hb dX11_exchange_1 rfl hl (by decide) rfl (fun ls hl => ?_)
  obtain ⟨n9, hp⟩ := hp
  exact bX11_exchange_2 hC hR n9 (0 : Int32) w _ _ _ hp hS (lv_sub hl [1, 0] rfl)
def pX11_undo (post : Int32 → Wd → Prop)  (w : Wd) : Prop := (¬ (w.1 300 42) = 0 → (∀ w_2, w_2 = sI w 300 42 ((w.1 300 42) - (1 : Int32)) → ∀ w_3, w_3 = sI w_2 300 43 ((w_2.1 300 43) + (1 : Int32)) → pX11_exchange (fun w_4 => post (1 : Int32) w_4) w_3)) ∧ ((w.1 300 42) = 0 → (post (0 : Int32) w))
set_option maxHeartbeats 4000000 in
set_option maxRecDepth 100000 in
theorem rX11_undo {l : Launch} {g : Gw} {w : Wd} {post : Int32 → Wd → Prop}    (hp : pX11_undo post  w) : MtI tabM l yX11_undo cX11_undo 1 (some .boolean) 2 g w [.ref (g.2.2 300)] post := by
  refine q_entZ tabM_nd (by decide) rfl (Nat.le_of_ble_eq_true rfl) ?_
  intro p e s m args below meth c A Q ls hC hR hS hl
  have hx := hC.1
  have hb := hC.2.1
  have hl : lv_has ls 1 [(0, .ref (g.2.2 300))] := hl
  unfold pX11_undo at hp
  refine lv_aload_n hx hb dX11_undo_0 rfl (lv_at hl 0 rfl) ?_
  refine G_300_42 hC hS m309 dX11_undo_1 ?_
  refine lv_if_ne (tgt := 9) hx hb dX11_undo_4 (by decide) (fun c_1 => ?_) (fun c_1 => ?_)
  · have hp := hp.1 c_1
    refine lv_aload_n hx hb dX11_undo_9 rfl (lv_at hl 0 rfl) ?_
    refine lv_dup hx hb dX11_undo_10 rfl ?_
    refine G_300_42 hC hS m309 dX11_undo_11 ?_
    refine lv_iconst hx hb dX11_undo_14 kI_1 ?_
    refine lv_isub hx hb dX11_undo_15 ?_
    refine P_300_42 hC hS m309 dX11_undo_16 (fun w_2 H locs ew_2 hS => ?_)
    have hp := hp w_2 ew_2
    refine lv_aload_n hx hb dX11_undo_19 rfl (lv_at hl 0 rfl) ?_
    refine lv_dup hx hb dX11_undo_20 rfl ?_
    refine G_300_43 hC hS m310 dX11_undo_21 ?_
    refine lv_iconst hx hb dX11_undo_24 kI_1 ?_
    refine lv_iadd hx hb dX11_undo_25 ?_
    refine P_300_43 hC hS m310 dX11_undo_26 (fun w_3 H locs ew_3 hS => ?_)
    have hp := hp w_3 ew_3
    refine lv_aload_n hx hb dX11_undo_29 rfl (lv_at hl 0 rfl) ?_
    refine q_cvV (As := []) (rest := []) hC hS hl.1 (rX11_exchange hp) cwX11_395 yvX11_exchange (rcv_300 hC hS) rfl rfl (Nat.le_of_ble_eq_true rfl) (rmk (by decide) (by decide)) dX11_undo_30 (fun w_4 H locs hp hS => ?_)
    refine lv_iconst hx hb dX11_undo_33 kI_1 ?_
    exact hR _ _ _ _ _ _ dX11_undo_34 (by decide) hp hS
  · have hp := hp.2 c_1
    refine lv_iconst hx hb dX11_undo_7 kI_0 ?_
    exact hR _ _ _ _ _ _ dX11_undo_8 (by decide) hp hS
def pX11_redo (post : Int32 → Wd → Prop)  (w : Wd) : Prop := (¬ (w.1 300 43) = 0 → (pX11_exchange (fun w_2 => ∀ w_3, w_3 = sI w_2 300 42 ((w_2.1 300 42) + (1 : Int32)) → ∀ w_4, w_4 = sI w_3 300 43 ((w_3.1 300 43) - (1 : Int32)) → post (1 : Int32) w_4) w)) ∧ ((w.1 300 43) = 0 → (post (0 : Int32) w))
set_option maxHeartbeats 4000000 in
set_option maxRecDepth 100000 in
theorem rX11_redo {l : Launch} {g : Gw} {w : Wd} {post : Int32 → Wd → Prop}    (hp : pX11_redo post  w) : MtI tabM l yX11_redo cX11_redo 1 (some .boolean) 2 g w [.ref (g.2.2 300)] post := by
  refine q_entZ tabM_nd (by decide) rfl (Nat.le_of_ble_eq_true rfl) ?_
  intro p e s m args below meth c A Q ls hC hR hS hl
  have hx := hC.1
  have hb := hC.2.1
  have hl : lv_has ls 1 [(0, .ref (g.2.2 300))] := hl
  unfold pX11_redo at hp
  refine lv_aload_n hx hb dX11_redo_0 rfl (lv_at hl 0 rfl) ?_
  refine G_300_43 hC hS m310 dX11_redo_1 ?_
  refine lv_if_ne (tgt := 9) hx hb dX11_redo_4 (by decide) (fun c_1 => ?_) (fun c_1 => ?_)
  · have hp := hp.1 c_1
    refine lv_aload_n hx hb dX11_redo_9 rfl (lv_at hl 0 rfl) ?_
    refine q_cvV (As := []) (rest := []) hC hS hl.1 (rX11_exchange hp) cwX11_395 yvX11_exchange (rcv_300 hC hS) rfl rfl (Nat.le_of_ble_eq_true rfl) (rmk (by decide) (by decide)) dX11_redo_10 (fun w_2 H locs hp hS => ?_)
    refine lv_aload_n hx hb dX11_redo_13 rfl (lv_at hl 0 rfl) ?_
    refine lv_dup hx hb dX11_redo_14 rfl ?_
    refine G_300_42 hC hS m309 dX11_redo_15 ?_
    refine lv_iconst hx hb dX11_redo_18 kI_1 ?_
    refine lv_iadd hx hb dX11_redo_19 ?_
    refine P_300_42 hC hS m309 dX11_redo_20 (fun w_3 H locs ew_3 hS => ?_)
    have hp := hp w_3 ew_3
    refine lv_aload_n hx hb dX11_redo_23 rfl (lv_at hl 0 rfl) ?_
    refine lv_dup hx hb dX11_redo_24 rfl ?_
    refine G_300_43 hC hS m310 dX11_redo_25 ?_
    refine lv_iconst hx hb dX11_redo_28 kI_1 ?_
    refine lv_isub hx hb dX11_redo_29 ?_
    refine P_300_43 hC hS m310 dX11_redo_30 (fun w_4 H locs ew_4 hS => ?_)
    have hp := hp w_4 ew_4
    refine lv_iconst hx hb dX11_redo_33 kI_1 ?_
    exact hR _ _ _ _ _ _ dX11_redo_34 (by decide) hp hS
  · have hp := hp.2 c_1
    refine lv_iconst hx hb dX11_redo_7 kI_0 ?_
    exact hR _ _ _ _ _ _ dX11_redo_8 (by decide) hp hS
def pX11_whose_71 (k31 : Int32 → Int32 → Int32 → Int32 → Int32 → Wd → Prop) (post : Int32 → Wd → Prop) (x1 : Int32) (x2 : Int32) (x3 : Int32) (x4 : Int32) (x5 : Int32) (w : Wd) : Prop := ∀ x5_1, x5_1 = x5 + (1 : Int32) → k31 x1 x2 x3 x4 x5_1 w
def pX11_whose_31 (post : Int32 → Wd → Prop) : Nat → Int32 → Int32 → Int32 → Int32 → Int32 → Wd → Prop
  | 0, _, _, _, _, _, _ => False
  | n + 1, x1, x2, x3, x4, x5, w => vp_in (w.1 300 29) 2 ∧ ((w.2.1 314 (w.1 300 29).toNatClampNeg) ≤ x5 → (post x4 w)) ∧ (¬ (w.2.1 314 (w.1 300 29).toNatClampNeg) ≤ x5 → (pX11_rowOf (fun r_2 w_3 => pX11_castOf (fun r_4 w_5 => (¬ r_4 = x3 → (pX11_whose_71 (pX11_whose_31 post n) post x1 x2 x3 x4 x5 w_5)) ∧ (r_4 = x3 → (∀ x4_7, x4_7 = (x4 ||| ((1 : Int32) <<< (x5 &&& 31))) → pX11_whose_71 (pX11_whose_31 post n) post x1 x2 x3 x4_7 x5 w_5))) r_2 x5 x2 (0 : Int32) w_3) x1 w))
def pX11_whose (post : Int32 → Wd → Prop) (x1 : Int32) (x2 : Int32) (x3 : Int32) (w : Wd) : Prop := pX11_isSeal (fun r_1 w_2 => (r_1 = 0 → (post (-1 : Int32) w_2)) ∧ (¬ r_1 = 0 → (pX11_isHeat (fun r_4 w_5 => (r_4 = 0 → (post (-1 : Int32) w_5)) ∧ (¬ r_4 = 0 → (pX11_isRow (fun r_7 w_8 => (¬ r_7 = 0 → (∃ n9, pX11_whose_31 post n9 x1 x2 x3 (0 : Int32) (0 : Int32) w_8)) ∧ (r_7 = 0 → (post (-1 : Int32) w_8))) x3 w_5))) x2 w_2))) x1 w
set_option maxHeartbeats 4000000 in
set_option maxRecDepth 100000 in
theorem bX11_whose_71 {p : Program} {l : Launch} {e : Env} {s : State} {m : MethodId} {args : Array Value} {below : List Frame} {meth : Method} {c : Code} {Q : State → Prop} {A : Nat → Prop} {g : Gw} {post : Int32 → Wd → Prop}  (hC : Cx p s m args c cX11_whose RX11 6 g) (hR : RtI tabM p l e (rk 4) s m args below meth c Q cX11_whose A g post)  {k31 : Int32 → Int32 → Int32 → Int32 → Int32 → Wd → Prop} (hk31 : ∀ (x1 : Int32) (x2 : Int32) (x3 : Int32) (x4 : Int32) (x5 : Int32) (w : Wd) (H : Heap) (locs : List Loc) (ls : Array Slot), k31 x1 x2 x3 x4 x5 w → St tabM A s.heap g w H locs → lv_has ls 6 [(0, .ref (g.2.2 300)), (1, .int x1), (2, .int x2), (3, .int x3), (4, .int x4), (5, .int x5)] → W p l e (rk 4) s m args below meth c H locs 0 0 Q (F0 m 31 ls [])) : ∀ (x1 : Int32) (x2 : Int32) (x3 : Int32) (x4 : Int32) (x5 : Int32) (w : Wd) (H : Heap) (locs : List Loc) (ls : Array Slot), pX11_whose_71 k31 post x1 x2 x3 x4 x5 w → St tabM A s.heap g w H locs → lv_has ls 6 [(0, .ref (g.2.2 300)), (1, .int x1), (2, .int x2), (3, .int x3), (4, .int x4), (5, .int x5)] → W p l e (rk 4) s m args below meth c H locs 0 0 Q (F0 m 71 ls []) := by
  have hx := hC.1
  have hb := hC.2.1
  intro x1 x2 x3 x4 x5 w H locs ls hp hS hl
  unfold pX11_whose_71 at hp
  obtain ⟨x5_1, ex5_1⟩ : ∃ y : Int32, y = x5 + (1 : Int32) := ⟨_, rfl⟩
  have hp := hp x5_1 ex5_1
  refine lv_iinc (v := x5_1) (lv' := [(5, .int x5_1), (0, .ref (g.2.2 300)), (1, .int x1), (2, .int x2), (3, .int x3), (4, .int x4)]) hx hb dX11_whose_71 hl (k := 5) rfl (by rw [ex5_1]; rfl) (by decide) rfl (fun ls hl => ?_)
  refine lv_goto (tgt := 31) hx hb dX11_whose_74 (by decide) ?_
  exact hk31 x1 x2 x3 x4 x5_1 w _ _ _ hp hS (lv_sub hl [1, 2, 3, 4, 5, 0] rfl)
set_option maxHeartbeats 4000000 in
set_option maxRecDepth 100000 in
theorem bX11_whose_31 {p : Program} {l : Launch} {e : Env} {s : State} {m : MethodId} {args : Array Value} {below : List Frame} {meth : Method} {c : Code} {Q : State → Prop} {A : Nat → Prop} {g : Gw} {post : Int32 → Wd → Prop}  (hC : Cx p s m args c cX11_whose RX11 6 g) (hR : RtI tabM p l e (rk 4) s m args below meth c Q cX11_whose A g post)  : ∀ (n : Nat) (x1 : Int32) (x2 : Int32) (x3 : Int32) (x4 : Int32) (x5 : Int32) (w : Wd) (H : Heap) (locs : List Loc) (ls : Array Slot), pX11_whose_31 post n x1 x2 x3 x4 x5 w → St tabM A s.heap g w H locs → lv_has ls 6 [(0, .ref (g.2.2 300)), (1, .int x1), (2, .int x2), (3, .int x3), (4, .int x4), (5, .int x5)] → W p l e (rk 4) s m args below meth c H locs 0 0 Q (F0 m 31 ls []) := by
  have hx := hC.1
  have hb := hC.2.1
  intro n
  induction n with
  | zero =>
    intro x1 x2 x3 x4 x5 w H locs ls hp hS hl
    exact False.elim hp
  | succ n ih =>
    intro x1 x2 x3 x4 x5 w H locs ls hp hS hl
    unfold pX11_whose_31 at hp
    refine lv_iload hx hb dX11_whose_31 (lv_at hl 5 rfl) ?_
    refine lv_aload_n hx hb dX11_whose_33 rfl (lv_at hl 0 rfl) ?_
    refine G_300_13 hC hS m258 dX11_whose_34 ?_
    refine lv_aload_n hx hb dX11_whose_37 rfl (lv_at hl 0 rfl) ?_
    refine G_300_29 hC hS m308 dX11_whose_38 ?_
    refine La_314 hC hS hp.1 dX11_whose_41 ?_
    have hp := hp.2
    refine lv_icmp_ge (tgt := 77) hx hb dX11_whose_42 (by decide) (fun c_1 => ?_) (fun c_1 => ?_)
    · have hp := hp.1 c_1
      refine lv_iload hx hb dX11_whose_77 (lv_at hl 4 rfl) ?_
      exact hR _ _ _ _ _ _ dX11_whose_79 hp hS
    · have hp := hp.2 c_1
      refine lv_aload_n hx hb dX11_whose_45 rfl (lv_at hl 0 rfl) ?_
      refine lv_aload_n hx hb dX11_whose_46 rfl (lv_at hl 0 rfl) ?_
      refine lv_iload_n hx hb dX11_whose_47 rfl (lv_at hl 1 rfl) ?_
      refine q_cvI (As := [.int x1]) (rest := [.ref (g.2.2 300)]) hC hS hl.1 (rX11_rowOf hp) cwX11_392 yvX11_rowOf (rcv_300 hC hS) rfl rfl (Nat.le_of_ble_eq_true rfl) (rmk (by decide) (by decide)) dX11_whose_48 (fun r_2 w_3 H locs hp hS => ?_)
      refine lv_iload hx hb dX11_whose_51 (lv_at hl 5 rfl) ?_
      refine lv_iload_n hx hb dX11_whose_53 rfl (lv_at hl 2 rfl) ?_
      refine lv_iconst hx hb dX11_whose_54 kI_0 ?_
      refine q_cvI (As := [.int r_2, .int x5, .int x2, .int (0 : Int32)]) (rest := []) hC hS hl.1 (rX11_castOf hp) cwX11_367 yvX11_castOf (rcv_300 hC hS) rfl rfl (Nat.le_of_ble_eq_true rfl) (rmk (by decide) (by decide)) dX11_whose_55 (fun r_4 w_5 H locs hp hS => ?_)
      refine lv_iload_n hx hb dX11_whose_58 rfl (lv_at hl 3 rfl) ?_
      refine lv_icmp_ne (tgt := 71) hx hb dX11_whose_59 (by decide) (fun c_6 => ?_) (fun c_6 => ?_)
      · have hp := hp.1 c_6
        exact bX11_whose_71 hC hR ih x1 x2 x3 x4 x5 w_5 _ _ _ hp hS (lv_sub hl [0, 1, 2, 3, 4, 5] rfl)
      · have hp := hp.2 c_6
        refine lv_iload hx hb dX11_whose_62 (lv_at hl 4 rfl) ?_
        refine lv_iconst hx hb dX11_whose_64 kI_1 ?_
        refine lv_iload hx hb dX11_whose_65 (lv_at hl 5 rfl) ?_
        refine lv_ishl hx hb dX11_whose_67 ?_
        refine lv_ior hx hb dX11_whose_68 ?_
        refine lv_topi (fun x4_7 ex4_7 => ?_)
        have hp := hp x4_7 ex4_7
        refine lv_istore (lv' := [(4, .int x4_7), (0, .ref (g.2.2 300)), (1, .int x1), (2, .int x2), (3, .int x3), (5, .int x5)]) hx hb dX11_whose_69 hl (by decide) rfl (fun ls hl => ?_)
        exact bX11_whose_71 hC hR ih x1 x2 x3 x4_7 x5 w_5 _ _ _ hp hS (lv_sub hl [1, 2, 3, 4, 0, 5] rfl)
set_option maxHeartbeats 4000000 in
set_option maxRecDepth 100000 in
theorem rX11_whose {l : Launch} {g : Gw} {w : Wd} {post : Int32 → Wd → Prop}   {x1 : Int32} {x2 : Int32} {x3 : Int32} (hp : pX11_whose post x1 x2 x3 w) : MtI tabM l yX11_whose cX11_whose 6 (some .int) 4 g w [.ref (g.2.2 300), .int x1, .int x2, .int x3] post := by
  refine q_entI tabM_nd (by decide) rfl (Nat.le_of_ble_eq_true rfl) ?_
  intro p e s m args below meth c A Q ls hC hR hS hl
  have hx := hC.1
  have hb := hC.2.1
  have hl : lv_has ls 6 [(0, .ref (g.2.2 300)), (1, .int x1), (2, .int x2), (3, .int x3)] := hl
  unfold pX11_whose at hp
  refine lv_aload_n hx hb dX11_whose_0 rfl (lv_at hl 0 rfl) ?_
  refine lv_iload_n hx hb dX11_whose_1 rfl (lv_at hl 1 rfl) ?_
  refine q_cvI (As := [.int x1]) (rest := []) hC hS hl.1 (rX11_isSeal hp) cwX11_383 yvX11_isSeal (rcv_300 hC hS) rfl rfl (Nat.le_of_ble_eq_true rfl) (rmk (by decide) (by decide)) dX11_whose_2 (fun r_1 w_2 H locs hp hS => ?_)
  refine lv_if_eq (tgt := 23) hx hb dX11_whose_5 (by decide) (fun c_3 => ?_) (fun c_3 => ?_)
  · have hp := hp.1 c_3
    refine lv_iconst hx hb dX11_whose_23 kI_m1 ?_
    exact hR _ _ _ _ _ _ dX11_whose_24 hp hS
  · have hp := hp.2 c_3
    refine lv_iload_n hx hb dX11_whose_8 rfl (lv_at hl 2 rfl) ?_
    refine q_csI (As := [.int x2]) (rest := []) hC hS hl.1 (rX11_isHeat hp) cwX11_364 ysX11_isHeat rfl rfl (Nat.le_of_ble_eq_true rfl) (rmk (by decide) (by decide)) dX11_whose_9 (fun r_4 w_5 H locs hp hS => ?_)
    refine lv_if_eq (tgt := 23) hx hb dX11_whose_12 (by decide) (fun c_6 => ?_) (fun c_6 => ?_)
    · have hp := hp.1 c_6
      refine lv_iconst hx hb dX11_whose_23 kI_m1 ?_
      exact hR _ _ _ _ _ _ dX11_whose_24 hp hS
    · have hp := hp.2 c_6
      refine lv_aload_n hx hb dX11_whose_15 rfl (lv_at hl 0 rfl) ?_
      refine lv_iload_n hx hb dX11_whose_16 rfl (lv_at hl 3 rfl) ?_
      refine q_cvI (As := [.int x3]) (rest := []) hC hS hl.1 (rX11_isRow hp) cwX11_358 yvX11_isRow (rcv_300 hC hS) rfl rfl (Nat.le_of_ble_eq_true rfl) (rmk (by decide) (by decide)) dX11_whose_17 (fun r_7 w_8 H locs hp hS => ?_)
      refine lv_if_ne (tgt := 25) hx hb dX11_whose_20 (by decide) (fun c_9 => ?_) (fun c_9 => ?_)
      · have hp := hp.1 c_9
        refine lv_iconst hx hb dX11_whose_25 kI_0 ?_
        refine lv_istore (lv' := [(4, .int (0 : Int32)), (0, .ref (g.2.2 300)), (1, .int x1), (2, .int x2), (3, .int x3)]) hx hb dX11_whose_26 hl (by decide) rfl (fun ls hl => ?_)
        refine lv_iconst hx hb dX11_whose_28 kI_0 ?_
        refine lv_istore (lv' := [(5, .int (0 : Int32)), (4, .int (0 : Int32)), (0, .ref (g.2.2 300)), (1, .int x1), (2, .int x2), (3, .int x3)]) hx hb dX11_whose_29 hl (by decide) rfl (fun ls hl => ?_)
        obtain ⟨n9, hp⟩ := hp
        exact bX11_whose_31 hC hR n9 x1 x2 x3 (0 : Int32) (0 : Int32) w_8 _ _ _ hp hS (lv_sub hl [2, 3, 4, 5, 1, 0] rfl)
      · have hp := hp.2 c_9
        refine lv_iconst hx hb dX11_whose_23 kI_m1 ?_
        exact hR _ _ _ _ _ _ dX11_whose_24 hp hS
def pX11_made_76 (k25 : Int32 → Int32 → Int32 → Int32 → Wd → Prop) (post : Int32 → Wd → Prop) (x1 : Int32) (x2 : Int32) (x3 : Int32) (x4 : Int32) (w : Wd) : Prop := ∀ x4_1, x4_1 = x4 + (1 : Int32) → k25 x1 x2 x3 x4_1 w
def pX11_made_25 (post : Int32 → Wd → Prop) : Nat → Int32 → Int32 → Int32 → Int32 → Wd → Prop
  | 0, _, _, _, _, _ => False
  | n + 1, x1, x2, x3, x4, w => ((w.2.1 341 (216 : Int32).toNatClampNeg) ≤ x4 → (post x3 w)) ∧ (¬ (w.2.1 341 (216 : Int32).toNatClampNeg) ≤ x4 → (pX11_rowOf (fun r_2 w_3 => pX11_turnedRow (fun r_4 w_5 => (¬ (x1 &&& r_4) = x1 → (pX11_made_76 (pX11_made_25 post n) post x1 x2 x3 x4 w_5)) ∧ ((x1 &&& r_4) = x1 → (pX11_bitsOf (fun r_7 w_8 => (x2 < r_7 → (pX11_made_76 (pX11_made_25 post n) post x1 x2 x3 x4 w_8)) ∧ (¬ x2 < r_7 → (∀ x3_10, x3_10 = (x3 ||| ((1 : Int32) <<< (x4 &&& 31))) → pX11_made_76 (pX11_made_25 post n) post x1 x2 x3_10 x4 w_8))) (r_4 - x1) w_5))) r_2 w_3) x4 w))
def pX11_made (post : Int32 → Wd → Prop) (x1 : Int32) (x2 : Int32) (w : Wd) : Prop := pX11_isRow (fun r_1 w_2 => (r_1 = 0 → (post (-1 : Int32) w_2)) ∧ (¬ r_1 = 0 → (pX11_isIn (fun r_4 w_5 => (¬ r_4 = 0 → (∃ n9, pX11_made_25 post n9 x1 x2 (0 : Int32) (0 : Int32) w_5)) ∧ (r_4 = 0 → (post (-1 : Int32) w_5))) x2 (0 : Int32) (12 : Int32) w_2))) x1 w
set_option maxHeartbeats 4000000 in
set_option maxRecDepth 100000 in
theorem bX11_made_76 {p : Program} {l : Launch} {e : Env} {s : State} {m : MethodId} {args : Array Value} {below : List Frame} {meth : Method} {c : Code} {Q : State → Prop} {A : Nat → Prop} {g : Gw} {post : Int32 → Wd → Prop}  (hC : Cx p s m args c cX11_made RX11 6 g) (hR : RtI tabM p l e (rk 3) s m args below meth c Q cX11_made A g post)  {k25 : Int32 → Int32 → Int32 → Int32 → Wd → Prop} (hk25 : ∀ (x1 : Int32) (x2 : Int32) (x3 : Int32) (x4 : Int32) (w : Wd) (H : Heap) (locs : List Loc) (ls : Array Slot), k25 x1 x2 x3 x4 w → St tabM A s.heap g w H locs → lv_has ls 6 [(0, .ref (g.2.2 300)), (1, .int x1), (2, .int x2), (3, .int x3), (4, .int x4)] → W p l e (rk 3) s m args below meth c H locs 0 0 Q (F0 m 25 ls [])) : ∀ (x1 : Int32) (x2 : Int32) (x3 : Int32) (x4 : Int32) (w : Wd) (H : Heap) (locs : List Loc) (ls : Array Slot), pX11_made_76 k25 post x1 x2 x3 x4 w → St tabM A s.heap g w H locs → lv_has ls 6 [(0, .ref (g.2.2 300)), (1, .int x1), (2, .int x2), (3, .int x3), (4, .int x4)] → W p l e (rk 3) s m args below meth c H locs 0 0 Q (F0 m 76 ls []) := by
  have hx := hC.1
  have hb := hC.2.1
  intro x1 x2 x3 x4 w H locs ls hp hS hl
  unfold pX11_made_76 at hp
  obtain ⟨x4_1, ex4_1⟩ : ∃ y : Int32, y = x4 + (1 : Int32) := ⟨_, rfl⟩
  have hp := hp x4_1 ex4_1
  refine lv_iinc (v := x4_1) (lv' := [(4, .int x4_1), (0, .ref (g.2.2 300)), (1, .int x1), (2, .int x2), (3, .int x3)]) hx hb dX11_made_76 hl (k := 4) rfl (by rw [ex4_1]; rfl) (by decide) rfl (fun ls hl => ?_)
  refine lv_goto (tgt := 25) hx hb dX11_made_79 (by decide) ?_
  exact hk25 x1 x2 x3 x4_1 w _ _ _ hp hS (lv_sub hl [1, 2, 3, 4, 0] rfl)
set_option maxHeartbeats 4000000 in
set_option maxRecDepth 100000 in
theorem bX11_made_25 {p : Program} {l : Launch} {e : Env} {s : State} {m : MethodId} {args : Array Value} {below : List Frame} {meth : Method} {c : Code} {Q : State → Prop} {A : Nat → Prop} {g : Gw} {post : Int32 → Wd → Prop}  (hC : Cx p s m args c cX11_made RX11 6 g) (hR : RtI tabM p l e (rk 3) s m args below meth c Q cX11_made A g post)  : ∀ (n : Nat) (x1 : Int32) (x2 : Int32) (x3 : Int32) (x4 : Int32) (w : Wd) (H : Heap) (locs : List Loc) (ls : Array Slot), pX11_made_25 post n x1 x2 x3 x4 w → St tabM A s.heap g w H locs → lv_has ls 6 [(0, .ref (g.2.2 300)), (1, .int x1), (2, .int x2), (3, .int x3), (4, .int x4)] → W p l e (rk 3) s m args below meth c H locs 0 0 Q (F0 m 25 ls []) := by
  have hx := hC.1
  have hb := hC.2.1
  intro n
  induction n with
  | zero =>
    intro x1 x2 x3 x4 w H locs ls hp hS hl
    exact False.elim hp
  | succ n ih =>
    intro x1 x2 x3 x4 w H locs ls hp hS hl
    unfold pX11_made_25 at hp
    refine lv_iload hx hb dX11_made_25 (lv_at hl 4 rfl) ?_
    refine lv_aload_n hx hb dX11_made_27 rfl (lv_at hl 0 rfl) ?_
    refine G_300_40 hC hS m274 dX11_made_28 ?_
    refine lv_sipush hx hb dX11_made_31 kS_216 ?_
    refine La_341 hC hS (by unfold vp_in; decide) dX11_made_34 ?_
    refine lv_icmp_ge (tgt := 82) hx hb dX11_made_35 (by decide) (fun c_1 => ?_) (fun c_1 => ?_)
    · have hp := hp.1 c_1
      refine lv_iload_n hx hb dX11_made_82 rfl (lv_at hl 3 rfl) ?_
      exact hR _ _ _ _ _ _ dX11_made_83 hp hS
    · have hp := hp.2 c_1
      refine lv_aload_n hx hb dX11_made_38 rfl (lv_at hl 0 rfl) ?_
      refine lv_aload_n hx hb dX11_made_39 rfl (lv_at hl 0 rfl) ?_
      refine lv_iload hx hb dX11_made_40 (lv_at hl 4 rfl) ?_
      refine q_cvI (As := [.int x4]) (rest := [.ref (g.2.2 300)]) hC hS hl.1 (rX11_rowOf hp) cwX11_392 yvX11_rowOf (rcv_300 hC hS) rfl rfl (Nat.le_of_ble_eq_true rfl) (rmk (by decide) (by decide)) dX11_made_42 (fun r_2 w_3 H locs hp hS => ?_)
      refine q_cvI (As := [.int r_2]) (rest := []) hC hS hl.1 (rX11_turnedRow hp) cwX11_349 yvX11_turnedRow (rcv_300 hC hS) rfl rfl (Nat.le_of_ble_eq_true rfl) (rmk (by decide) (by decide)) dX11_made_45 (fun r_4 w_5 H locs hp hS => ?_)
      refine lv_istore (lv' := [(5, .int r_4), (0, .ref (g.2.2 300)), (1, .int x1), (2, .int x2), (3, .int x3), (4, .int x4)]) hx hb dX11_made_48 hl (by decide) rfl (fun ls hl => ?_)
      refine lv_iload_n hx hb dX11_made_50 rfl (lv_at hl 2 rfl) ?_
      refine lv_iload hx hb dX11_made_51 (lv_at hl 0 rfl) ?_
      refine lv_iand hx hb dX11_made_53 ?_
      refine lv_iload_n hx hb dX11_made_54 rfl (lv_at hl 2 rfl) ?_
      refine lv_icmp_ne (tgt := 76) hx hb dX11_made_55 (by decide) (fun c_6 => ?_) (fun c_6 => ?_)
      · have hp := hp.1 c_6
        exact bX11_made_76 hC hR ih x1 x2 x3 x4 w_5 _ _ _ hp hS (lv_sub hl [1, 2, 3, 4, 5] rfl)
      · have hp := hp.2 c_6
        refine lv_iload hx hb dX11_made_58 (lv_at hl 0 rfl) ?_
        refine lv_iload_n hx hb dX11_made_60 rfl (lv_at hl 2 rfl) ?_
        refine lv_isub hx hb dX11_made_61 ?_
        refine q_csI (As := [.int (r_4 - x1)]) (rest := []) hC hS hl.1 (rX11_bitsOf hp) cwX11_352 ysX11_bitsOf rfl rfl (Nat.le_of_ble_eq_true rfl) (rmk (by decide) (by decide)) dX11_made_62 (fun r_7 w_8 H locs hp hS => ?_)
        refine lv_iload_n hx hb dX11_made_65 rfl (lv_at hl 3 rfl) ?_
        refine lv_icmp_gt (tgt := 76) hx hb dX11_made_66 (by decide) (fun c_9 => ?_) (fun c_9 => ?_)
        · have hp := hp.1 c_9
          exact bX11_made_76 hC hR ih x1 x2 x3 x4 w_8 _ _ _ hp hS (lv_sub hl [1, 2, 3, 4, 5] rfl)
        · have hp := hp.2 c_9
          refine lv_iload_n hx hb dX11_made_69 rfl (lv_at hl 4 rfl) ?_
          refine lv_iconst hx hb dX11_made_70 kI_1 ?_
          refine lv_iload hx hb dX11_made_71 (lv_at hl 5 rfl) ?_
          refine lv_ishl hx hb dX11_made_73 ?_
          refine lv_ior hx hb dX11_made_74 ?_
          refine lv_topi (fun x3_10 ex3_10 => ?_)
          have hp := hp x3_10 ex3_10
          refine lv_istore_n (lv' := [(3, .int x3_10), (5, .int r_4), (0, .ref (g.2.2 300)), (1, .int x1), (2, .int x2), (4, .int x4)]) hx hb dX11_made_75 rfl hl (by decide) rfl (fun ls hl => ?_)
          exact bX11_made_76 hC hR ih x1 x2 x3_10 x4 w_8 _ _ _ hp hS (lv_sub hl [2, 3, 4, 0, 5] rfl)
set_option maxHeartbeats 4000000 in
set_option maxRecDepth 100000 in
theorem rX11_made {l : Launch} {g : Gw} {w : Wd} {post : Int32 → Wd → Prop}   {x1 : Int32} {x2 : Int32} (hp : pX11_made post x1 x2 w) : MtI tabM l yX11_made cX11_made 6 (some .int) 3 g w [.ref (g.2.2 300), .int x1, .int x2] post := by
  refine q_entI tabM_nd (by decide) rfl (Nat.le_of_ble_eq_true rfl) ?_
  intro p e s m args below meth c A Q ls hC hR hS hl
  have hx := hC.1
  have hb := hC.2.1
  have hl : lv_has ls 6 [(0, .ref (g.2.2 300)), (1, .int x1), (2, .int x2)] := hl
  unfold pX11_made at hp
  refine lv_aload_n hx hb dX11_made_0 rfl (lv_at hl 0 rfl) ?_
  refine lv_iload_n hx hb dX11_made_1 rfl (lv_at hl 1 rfl) ?_
  refine q_cvI (As := [.int x1]) (rest := []) hC hS hl.1 (rX11_isRow hp) cwX11_358 yvX11_isRow (rcv_300 hC hS) rfl rfl (Nat.le_of_ble_eq_true rfl) (rmk (by decide) (by decide)) dX11_made_2 (fun r_1 w_2 H locs hp hS => ?_)
  refine lv_if_eq (tgt := 18) hx hb dX11_made_5 (by decide) (fun c_3 => ?_) (fun c_3 => ?_)
  · have hp := hp.1 c_3
    refine lv_iconst hx hb dX11_made_18 kI_m1 ?_
    exact hR _ _ _ _ _ _ dX11_made_19 hp hS
  · have hp := hp.2 c_3
    refine lv_iload_n hx hb dX11_made_8 rfl (lv_at hl 2 rfl) ?_
    refine lv_iconst hx hb dX11_made_9 kI_0 ?_
    refine lv_bipush hx hb dX11_made_10 kB_12 ?_
    refine q_csI (As := [.int x2, .int (0 : Int32), .int (12 : Int32)]) (rest := []) hC hS hl.1 (rX11_isIn hp) cwX11_345 ysX11_isIn rfl rfl (Nat.le_of_ble_eq_true rfl) (rmk (by decide) (by decide)) dX11_made_12 (fun r_4 w_5 H locs hp hS => ?_)
    refine lv_if_ne (tgt := 20) hx hb dX11_made_15 (by decide) (fun c_6 => ?_) (fun c_6 => ?_)
    · have hp := hp.1 c_6
      refine lv_iconst hx hb dX11_made_20 kI_0 ?_
      refine lv_istore_n (lv' := [(3, .int (0 : Int32)), (0, .ref (g.2.2 300)), (1, .int x1), (2, .int x2)]) hx hb dX11_made_21 rfl hl (by decide) rfl (fun ls hl => ?_)
      refine lv_iconst hx hb dX11_made_22 kI_0 ?_
      refine lv_istore (lv' := [(4, .int (0 : Int32)), (3, .int (0 : Int32)), (0, .ref (g.2.2 300)), (1, .int x1), (2, .int x2)]) hx hb dX11_made_23 hl (by decide) rfl (fun ls hl => ?_)
      obtain ⟨n9, hp⟩ := hp
      exact bX11_made_25 hC hR n9 x1 x2 (0 : Int32) (0 : Int32) w_5 _ _ _ hp hS (lv_sub hl [2, 3, 4, 1, 0] rfl)
    · have hp := hp.2 c_6
      refine lv_iconst hx hb dX11_made_18 kI_m1 ?_
      exact hR _ _ _ _ _ _ dX11_made_19 hp hS
def pX11_apart (post : Int32 → Wd → Prop) (x1 : Int32) (x2 : Int32) (x3 : Int32) (w : Wd) : Prop := pX11_isSeal (fun r_1 w_2 => (r_1 = 0 → (post (-1 : Int32) w_2)) ∧ (¬ r_1 = 0 → (pX11_isSeal (fun r_4 w_5 => (r_4 = 0 → (post (-1 : Int32) w_5)) ∧ (¬ r_4 = 0 → (pX11_rowOf (fun r_7 w_8 => (x3 = 0 → (pX11_rowOf (fun r_10 w_11 => pX11_bitsOf (fun r_12 w_13 => post r_12 w_13) (r_7 ^^^ r_10) w_11) x2 w_8)) ∧ (¬ x3 = 0 → (pX11_rowOf (fun r_14 w_15 => pX11_turnedRow (fun r_16 w_17 => pX11_bitsOf (fun r_18 w_19 => post r_18 w_19) (r_7 ^^^ r_16) w_17) r_14 w_15) x2 w_8))) x1 w_5))) x2 w_2))) x1 w
set_option maxHeartbeats 4000000 in
set_option maxRecDepth 100000 in
theorem rX11_apart {l : Launch} {g : Gw} {w : Wd} {post : Int32 → Wd → Prop}   {x1 : Int32} {x2 : Int32} {x3 : Int32} (hp : pX11_apart post x1 x2 x3 w) : MtI tabM l yX11_apart cX11_apart 4 (some .int) 3 g w [.ref (g.2.2 300), .int x1, .int x2, .int x3] post := by
  refine q_entI tabM_nd (by decide) rfl (Nat.le_of_ble_eq_true rfl) ?_
  intro p e s m args below meth c A Q ls hC hR hS hl
  have hx := hC.1
  have hb := hC.2.1
  have hl : lv_has ls 4 [(0, .ref (g.2.2 300)), (1, .int x1), (2, .int x2), (3, .int x3)] := hl
  unfold pX11_apart at hp
  refine lv_aload_n hx hb dX11_apart_0 rfl (lv_at hl 0 rfl) ?_
  refine lv_iload_n hx hb dX11_apart_1 rfl (lv_at hl 1 rfl) ?_
  refine q_cvI (As := [.int x1]) (rest := []) hC hS hl.1 (rX11_isSeal hp) cwX11_383 yvX11_isSeal (rcv_300 hC hS) rfl rfl (Nat.le_of_ble_eq_true rfl) (rmk (by decide) (by decide)) dX11_apart_2 (fun r_1 w_2 H locs hp hS => ?_)
  refine lv_if_eq (tgt := 49) hx hb dX11_apart_5 (by decide) (fun c_3 => ?_) (fun c_3 => ?_)
  · have hp := hp.1 c_3
    refine lv_iconst hx hb dX11_apart_49 kI_m1 ?_
    exact hR _ _ _ _ _ _ dX11_apart_50 hp hS
  · have hp := hp.2 c_3
    refine lv_aload_n hx hb dX11_apart_8 rfl (lv_at hl 0 rfl) ?_
    refine lv_iload_n hx hb dX11_apart_9 rfl (lv_at hl 2 rfl) ?_
    refine q_cvI (As := [.int x2]) (rest := []) hC hS hl.1 (rX11_isSeal hp) cwX11_383 yvX11_isSeal (rcv_300 hC hS) rfl rfl (Nat.le_of_ble_eq_true rfl) (rmk (by decide) (by decide)) dX11_apart_10 (fun r_4 w_5 H locs hp hS => ?_)
    refine lv_if_eq (tgt := 49) hx hb dX11_apart_13 (by decide) (fun c_6 => ?_) (fun c_6 => ?_)
    · have hp := hp.1 c_6
      refine lv_iconst hx hb dX11_apart_49 kI_m1 ?_
      exact hR _ _ _ _ _ _ dX11_apart_50 hp hS
    · have hp := hp.2 c_6
      refine lv_aload_n hx hb dX11_apart_16 rfl (lv_at hl 0 rfl) ?_
      refine lv_iload_n hx hb dX11_apart_17 rfl (lv_at hl 1 rfl) ?_
      refine q_cvI (As := [.int x1]) (rest := []) hC hS hl.1 (rX11_rowOf hp) cwX11_392 yvX11_rowOf (rcv_300 hC hS) rfl rfl (Nat.le_of_ble_eq_true rfl) (rmk (by decide) (by decide)) dX11_apart_18 (fun r_7 w_8 H locs hp hS => ?_)
      refine lv_iload_n hx hb dX11_apart_21 rfl (lv_at hl 3 rfl) ?_
      refine lv_if_eq (tgt := 37) hx hb dX11_apart_22 (by decide) (fun c_9 => ?_) (fun c_9 => ?_)
      · have hp := hp.1 c_9
        refine lv_aload_n hx hb dX11_apart_37 rfl (lv_at hl 0 rfl) ?_
        refine lv_iload_n hx hb dX11_apart_38 rfl (lv_at hl 2 rfl) ?_
        refine q_cvI (As := [.int x2]) (rest := [.int r_7]) hC hS hl.1 (rX11_rowOf hp) cwX11_392 yvX11_rowOf (rcv_300 hC hS) rfl rfl (Nat.le_of_ble_eq_true rfl) (rmk (by decide) (by decide)) dX11_apart_39 (fun r_10 w_11 H locs hp hS => ?_)
        refine lv_ixor hx hb dX11_apart_42 ?_
        refine q_csI (As := [.int (r_7 ^^^ r_10)]) (rest := []) hC hS hl.1 (rX11_bitsOf hp) cwX11_352 ysX11_bitsOf rfl rfl (Nat.le_of_ble_eq_true rfl) (rmk (by decide) (by decide)) dX11_apart_43 (fun r_12 w_13 H locs hp hS => ?_)
        refine lv_goto (tgt := 50) hx hb dX11_apart_46 (by decide) ?_
        exact hR _ _ _ _ _ _ dX11_apart_50 hp hS
      · have hp := hp.2 c_9
        refine lv_aload_n hx hb dX11_apart_25 rfl (lv_at hl 0 rfl) ?_
        refine lv_aload_n hx hb dX11_apart_26 rfl (lv_at hl 0 rfl) ?_
        refine lv_iload_n hx hb dX11_apart_27 rfl (lv_at hl 2 rfl) ?_
        refine q_cvI (As := [.int x2]) (rest := [.ref (g.2.2 300), .int r_7]) hC hS hl.1 (rX11_rowOf hp) cwX11_392 yvX11_rowOf (rcv_300 hC hS) rfl rfl (Nat.le_of_ble_eq_true rfl) (rmk (by decide) (by decide)) dX11_apart_28 (fun r_14 w_15 H locs hp hS => ?_)
        refine q_cvI (As := [.int r_14]) (rest := [.int r_7]) hC hS hl.1 (rX11_turnedRow hp) cwX11_349 yvX11_turnedRow (rcv_300 hC hS) rfl rfl (Nat.le_of_ble_eq_true rfl) (rmk (by decide) (by decide)) dX11_apart_31 (fun r_16 w_17 H locs hp hS => ?_)
        refine lv_goto (tgt := 42) hx hb dX11_apart_34 (by decide) ?_
        refine lv_ixor hx hb dX11_apart_42 ?_
        refine q_csI (As := [.int (r_7 ^^^ r_16)]) (rest := []) hC hS hl.1 (rX11_bitsOf hp) cwX11_352 ysX11_bitsOf rfl rfl (Nat.le_of_ble_eq_true rfl) (rmk (by decide) (by decide)) dX11_apart_43 (fun r_18 w_19 H locs hp hS => ?_)
        refine lv_goto (tgt := 50) hx hb dX11_apart_46 (by decide) ?_
        exact hR _ _ _ _ _ _ dX11_apart_50 hp hS
def pX11_heats_65 (k32 : Int32 → Int32 → Int32 → Int32 → Int32 → Wd → Prop) (post : Int32 → Wd → Prop) (x1 : Int32) (x2 : Int32) (x3 : Int32) (x4 : Int32) (x5 : Int32) (w : Wd) : Prop := ∀ x5_1, x5_1 = x5 + (1 : Int32) → k32 x1 x2 x3 x4 x5_1 w
def pX11_heats_32 (post : Int32 → Wd → Prop) : Nat → Int32 → Int32 → Int32 → Int32 → Int32 → Wd → Prop
  | 0, _, _, _, _, _, _ => False
  | n + 1, x1, x2, x3, x4, x5, w => ((9 : Int32) < x5 → (post x4 w)) ∧ (¬ (9 : Int32) < x5 → (pX11_rowOf (fun r_2 w_3 => pX11_castOf (fun r_4 w_5 => (¬ r_4 = x3 → (pX11_heats_65 (pX11_heats_32 post n) post x1 x2 x3 x4 x5 w_5)) ∧ (r_4 = x3 → (∀ x4_7, x4_7 = (x4 ||| ((1 : Int32) <<< (x5 &&& 31))) → pX11_heats_65 (pX11_heats_32 post n) post x1 x2 x3 x4_7 x5 w_5))) r_2 x2 x5 (0 : Int32) w_3) x1 w))
def pX11_heats (post : Int32 → Wd → Prop) (x1 : Int32) (x2 : Int32) (x3 : Int32) (w : Wd) : Prop := pX11_isSeal (fun r_1 w_2 => (r_1 = 0 → (post (-1 : Int32) w_2)) ∧ (¬ r_1 = 0 → (pX11_isHand (fun r_4 w_5 => (r_4 = 0 → (post (-1 : Int32) w_5)) ∧ (¬ r_4 = 0 → (pX11_isRow (fun r_7 w_8 => (¬ r_7 = 0 → (∃ n9, pX11_heats_32 post n9 x1 x2 x3 (0 : Int32) (0 : Int32) w_8)) ∧ (r_7 = 0 → (post (-1 : Int32) w_8))) x3 w_5))) x2 w_2))) x1 w
set_option maxHeartbeats 4000000 in
set_option maxRecDepth 100000 in
theorem bX11_heats_65 {p : Program} {l : Launch} {e : Env} {s : State} {m : MethodId} {args : Array Value} {below : List Frame} {meth : Method} {c : Code} {Q : State → Prop} {A : Nat → Prop} {g : Gw} {post : Int32 → Wd → Prop}  (hC : Cx p s m args c cX11_heats RX11 6 g) (hR : RtI tabM p l e (rk 4) s m args below meth c Q cX11_heats A g post)  {k32 : Int32 → Int32 → Int32 → Int32 → Int32 → Wd → Prop} (hk32 : ∀ (x1 : Int32) (x2 : Int32) (x3 : Int32) (x4 : Int32) (x5 : Int32) (w : Wd) (H : Heap) (locs : List Loc) (ls : Array Slot), k32 x1 x2 x3 x4 x5 w → St tabM A s.heap g w H locs → lv_has ls 6 [(0, .ref (g.2.2 300)), (1, .int x1), (2, .int x2), (3, .int x3), (4, .int x4), (5, .int x5)] → W p l e (rk 4) s m args below meth c H locs 0 0 Q (F0 m 32 ls [])) : ∀ (x1 : Int32) (x2 : Int32) (x3 : Int32) (x4 : Int32) (x5 : Int32) (w : Wd) (H : Heap) (locs : List Loc) (ls : Array Slot), pX11_heats_65 k32 post x1 x2 x3 x4 x5 w → St tabM A s.heap g w H locs → lv_has ls 6 [(0, .ref (g.2.2 300)), (1, .int x1), (2, .int x2), (3, .int x3), (4, .int x4), (5, .int x5)] → W p l e (rk 4) s m args below meth c H locs 0 0 Q (F0 m 65 ls []) := by
  have hx := hC.1
  have hb := hC.2.1
  intro x1 x2 x3 x4 x5 w H locs ls hp hS hl
  unfold pX11_heats_65 at hp
  obtain ⟨x5_1, ex5_1⟩ : ∃ y : Int32, y = x5 + (1 : Int32) := ⟨_, rfl⟩
  have hp := hp x5_1 ex5_1
  refine lv_iinc (v := x5_1) (lv' := [(5, .int x5_1), (0, .ref (g.2.2 300)), (1, .int x1), (2, .int x2), (3, .int x3), (4, .int x4)]) hx hb dX11_heats_65 hl (k := 5) rfl (by rw [ex5_1]; rfl) (by decide) rfl (fun ls hl => ?_)
  refine lv_goto (tgt := 32) hx hb dX11_heats_68 (by decide) ?_
  exact hk32 x1 x2 x3 x4 x5_1 w _ _ _ hp hS (lv_sub hl [1, 2, 3, 4, 5, 0] rfl)
set_option maxHeartbeats 4000000 in
set_option maxRecDepth 100000 in
theorem bX11_heats_32 {p : Program} {l : Launch} {e : Env} {s : State} {m : MethodId} {args : Array Value} {below : List Frame} {meth : Method} {c : Code} {Q : State → Prop} {A : Nat → Prop} {g : Gw} {post : Int32 → Wd → Prop}  (hC : Cx p s m args c cX11_heats RX11 6 g) (hR : RtI tabM p l e (rk 4) s m args below meth c Q cX11_heats A g post)  : ∀ (n : Nat) (x1 : Int32) (x2 : Int32) (x3 : Int32) (x4 : Int32) (x5 : Int32) (w : Wd) (H : Heap) (locs : List Loc) (ls : Array Slot), pX11_heats_32 post n x1 x2 x3 x4 x5 w → St tabM A s.heap g w H locs → lv_has ls 6 [(0, .ref (g.2.2 300)), (1, .int x1), (2, .int x2), (3, .int x3), (4, .int x4), (5, .int x5)] → W p l e (rk 4) s m args below meth c H locs 0 0 Q (F0 m 32 ls []) := by
  have hx := hC.1
  have hb := hC.2.1
  intro n
  induction n with
  | zero =>
    intro x1 x2 x3 x4 x5 w H locs ls hp hS hl
    exact False.elim hp
  | succ n ih =>
    intro x1 x2 x3 x4 x5 w H locs ls hp hS hl
    unfold pX11_heats_32 at hp
    refine lv_iload hx hb dX11_heats_32 (lv_at hl 5 rfl) ?_
    refine lv_bipush hx hb dX11_heats_34 kB_9 ?_
    refine lv_icmp_gt (tgt := 71) hx hb dX11_heats_36 (by decide) (fun c_1 => ?_) (fun c_1 => ?_)
    · have hp := hp.1 c_1
      refine lv_iload hx hb dX11_heats_71 (lv_at hl 4 rfl) ?_
      exact hR _ _ _ _ _ _ dX11_heats_73 hp hS
    · have hp := hp.2 c_1
      refine lv_aload_n hx hb dX11_heats_39 rfl (lv_at hl 0 rfl) ?_
      refine lv_aload_n hx hb dX11_heats_40 rfl (lv_at hl 0 rfl) ?_
      refine lv_iload_n hx hb dX11_heats_41 rfl (lv_at hl 1 rfl) ?_
      refine q_cvI (As := [.int x1]) (rest := [.ref (g.2.2 300)]) hC hS hl.1 (rX11_rowOf hp) cwX11_392 yvX11_rowOf (rcv_300 hC hS) rfl rfl (Nat.le_of_ble_eq_true rfl) (rmk (by decide) (by decide)) dX11_heats_42 (fun r_2 w_3 H locs hp hS => ?_)
      refine lv_iload_n hx hb dX11_heats_45 rfl (lv_at hl 2 rfl) ?_
      refine lv_iload hx hb dX11_heats_46 (lv_at hl 5 rfl) ?_
      refine lv_iconst hx hb dX11_heats_48 kI_0 ?_
      refine q_cvI (As := [.int r_2, .int x2, .int x5, .int (0 : Int32)]) (rest := []) hC hS hl.1 (rX11_castOf hp) cwX11_367 yvX11_castOf (rcv_300 hC hS) rfl rfl (Nat.le_of_ble_eq_true rfl) (rmk (by decide) (by decide)) dX11_heats_49 (fun r_4 w_5 H locs hp hS => ?_)
      refine lv_iload_n hx hb dX11_heats_52 rfl (lv_at hl 3 rfl) ?_
      refine lv_icmp_ne (tgt := 65) hx hb dX11_heats_53 (by decide) (fun c_6 => ?_) (fun c_6 => ?_)
      · have hp := hp.1 c_6
        exact bX11_heats_65 hC hR ih x1 x2 x3 x4 x5 w_5 _ _ _ hp hS (lv_sub hl [0, 1, 2, 3, 4, 5] rfl)
      · have hp := hp.2 c_6
        refine lv_iload hx hb dX11_heats_56 (lv_at hl 4 rfl) ?_
        refine lv_iconst hx hb dX11_heats_58 kI_1 ?_
        refine lv_iload hx hb dX11_heats_59 (lv_at hl 5 rfl) ?_
        refine lv_ishl hx hb dX11_heats_61 ?_
        refine lv_ior hx hb dX11_heats_62 ?_
        refine lv_topi (fun x4_7 ex4_7 => ?_)
        have hp := hp x4_7 ex4_7
        refine lv_istore (lv' := [(4, .int x4_7), (0, .ref (g.2.2 300)), (1, .int x1), (2, .int x2), (3, .int x3), (5, .int x5)]) hx hb dX11_heats_63 hl (by decide) rfl (fun ls hl => ?_)
        exact bX11_heats_65 hC hR ih x1 x2 x3 x4_7 x5 w_5 _ _ _ hp hS (lv_sub hl [1, 2, 3, 4, 0, 5] rfl)
set_option maxHeartbeats 4000000 in
set_option maxRecDepth 100000 in
theorem rX11_heats {l : Launch} {g : Gw} {w : Wd} {post : Int32 → Wd → Prop}   {x1 : Int32} {x2 : Int32} {x3 : Int32} (hp : pX11_heats post x1 x2 x3 w) : MtI tabM l yX11_heats cX11_heats 6 (some .int) 4 g w [.ref (g.2.2 300), .int x1, .int x2, .int x3] post := by
  refine q_entI tabM_nd (by decide) rfl (Nat.le_of_ble_eq_true rfl) ?_
  intro p e s m args below meth c A Q ls hC hR hS hl
  have hx := hC.1
  have hb := hC.2.1
  have hl : lv_has ls 6 [(0, .ref (g.2.2 300)), (1, .int x1), (2, .int x2), (3, .int x3)] := hl
  unfold pX11_heats at hp
  refine lv_aload_n hx hb dX11_heats_0 rfl (lv_at hl 0 rfl) ?_
  refine lv_iload_n hx hb dX11_heats_1 rfl (lv_at hl 1 rfl) ?_
  refine q_cvI (As := [.int x1]) (rest := []) hC hS hl.1 (rX11_isSeal hp) cwX11_383 yvX11_isSeal (rcv_300 hC hS) rfl rfl (Nat.le_of_ble_eq_true rfl) (rmk (by decide) (by decide)) dX11_heats_2 (fun r_1 w_2 H locs hp hS => ?_)
  refine lv_if_eq (tgt := 24) hx hb dX11_heats_5 (by decide) (fun c_3 => ?_) (fun c_3 => ?_)
  · have hp := hp.1 c_3
    refine lv_iconst hx hb dX11_heats_24 kI_m1 ?_
    exact hR _ _ _ _ _ _ dX11_heats_25 hp hS
  · have hp := hp.2 c_3
    refine lv_aload_n hx hb dX11_heats_8 rfl (lv_at hl 0 rfl) ?_
    refine lv_iload_n hx hb dX11_heats_9 rfl (lv_at hl 2 rfl) ?_
    refine q_cvI (As := [.int x2]) (rest := []) hC hS hl.1 (rX11_isHand hp) cwX11_361 yvX11_isHand (rcv_300 hC hS) rfl rfl (Nat.le_of_ble_eq_true rfl) (rmk (by decide) (by decide)) dX11_heats_10 (fun r_4 w_5 H locs hp hS => ?_)
    refine lv_if_eq (tgt := 24) hx hb dX11_heats_13 (by decide) (fun c_6 => ?_) (fun c_6 => ?_)
    · have hp := hp.1 c_6
      refine lv_iconst hx hb dX11_heats_24 kI_m1 ?_
      exact hR _ _ _ _ _ _ dX11_heats_25 hp hS
    · have hp := hp.2 c_6
      refine lv_aload_n hx hb dX11_heats_16 rfl (lv_at hl 0 rfl) ?_
      refine lv_iload_n hx hb dX11_heats_17 rfl (lv_at hl 3 rfl) ?_
      refine q_cvI (As := [.int x3]) (rest := []) hC hS hl.1 (rX11_isRow hp) cwX11_358 yvX11_isRow (rcv_300 hC hS) rfl rfl (Nat.le_of_ble_eq_true rfl) (rmk (by decide) (by decide)) dX11_heats_18 (fun r_7 w_8 H locs hp hS => ?_)
      refine lv_if_ne (tgt := 26) hx hb dX11_heats_21 (by decide) (fun c_9 => ?_) (fun c_9 => ?_)
      · have hp := hp.1 c_9
        refine lv_iconst hx hb dX11_heats_26 kI_0 ?_
        refine lv_istore (lv' := [(4, .int (0 : Int32)), (0, .ref (g.2.2 300)), (1, .int x1), (2, .int x2), (3, .int x3)]) hx hb dX11_heats_27 hl (by decide) rfl (fun ls hl => ?_)
        refine lv_iconst hx hb dX11_heats_29 kI_0 ?_
        refine lv_istore (lv' := [(5, .int (0 : Int32)), (4, .int (0 : Int32)), (0, .ref (g.2.2 300)), (1, .int x1), (2, .int x2), (3, .int x3)]) hx hb dX11_heats_30 hl (by decide) rfl (fun ls hl => ?_)
        obtain ⟨n9, hp⟩ := hp
        exact bX11_heats_32 hC hR n9 x1 x2 x3 (0 : Int32) (0 : Int32) w_8 _ _ _ hp hS (lv_sub hl [2, 3, 4, 5, 1, 0] rfl)
      · have hp := hp.2 c_9
        refine lv_iconst hx hb dX11_heats_24 kI_m1 ?_
        exact hR _ _ _ _ _ _ dX11_heats_25 hp hS
def pX11_canCast (post : Int32 → Wd → Prop) (x1 : Int32) (x2 : Int32) (x3 : Int32) (w : Wd) : Prop := pX11_isSeal (fun r_1 w_2 => (r_1 = 0 → (post (0 : Int32) w_2)) ∧ (¬ r_1 = 0 → (pX11_isHand (fun r_4 w_5 => (r_4 = 0 → (post (0 : Int32) w_5)) ∧ (¬ r_4 = 0 → (pX11_isHeat (fun r_7 w_8 => (r_7 = 0 → (post (0 : Int32) w_8)) ∧ (¬ r_7 = 0 → (post (1 : Int32) w_8))) x3 w_5))) x2 w_2))) x1 w
set_option maxHeartbeats 4000000 in
set_option maxRecDepth 100000 in
theorem rX11_canCast {l : Launch} {g : Gw} {w : Wd} {post : Int32 → Wd → Prop}   {x1 : Int32} {x2 : Int32} {x3 : Int32} (hp : pX11_canCast post x1 x2 x3 w) : MtI tabM l yX11_canCast cX11_canCast 4 (some .boolean) 3 g w [.ref (g.2.2 300), .int x1, .int x2, .int x3] post := by
  refine q_entZ tabM_nd (by decide) rfl (Nat.le_of_ble_eq_true rfl) ?_
  intro p e s m args below meth c A Q ls hC hR hS hl
  have hx := hC.1
  have hb := hC.2.1
  have hl : lv_has ls 4 [(0, .ref (g.2.2 300)), (1, .int x1), (2, .int x2), (3, .int x3)] := hl
  unfold pX11_canCast at hp
  refine lv_aload_n hx hb dX11_canCast_0 rfl (lv_at hl 0 rfl) ?_
  refine lv_iload_n hx hb dX11_canCast_1 rfl (lv_at hl 1 rfl) ?_
  refine q_cvI (As := [.int x1]) (rest := []) hC hS hl.1 (rX11_isSeal hp) cwX11_383 yvX11_isSeal (rcv_300 hC hS) rfl rfl (Nat.le_of_ble_eq_true rfl) (rmk (by decide) (by decide)) dX11_canCast_2 (fun r_1 w_2 H locs hp hS => ?_)
  refine lv_if_eq (tgt := 27) hx hb dX11_canCast_5 (by decide) (fun c_3 => ?_) (fun c_3 => ?_)
  · have hp := hp.1 c_3
    refine lv_iconst hx hb dX11_canCast_27 kI_0 ?_
    exact hR _ _ _ _ _ _ dX11_canCast_28 (by decide) hp hS
  · have hp := hp.2 c_3
    refine lv_aload_n hx hb dX11_canCast_8 rfl (lv_at hl 0 rfl) ?_
    refine lv_iload_n hx hb dX11_canCast_9 rfl (lv_at hl 2 rfl) ?_
    refine q_cvI (As := [.int x2]) (rest := []) hC hS hl.1 (rX11_isHand hp) cwX11_361 yvX11_isHand (rcv_300 hC hS) rfl rfl (Nat.le_of_ble_eq_true rfl) (rmk (by decide) (by decide)) dX11_canCast_10 (fun r_4 w_5 H locs hp hS => ?_)
    refine lv_if_eq (tgt := 27) hx hb dX11_canCast_13 (by decide) (fun c_6 => ?_) (fun c_6 => ?_)
    · have hp := hp.1 c_6
      refine lv_iconst hx hb dX11_canCast_27 kI_0 ?_
      exact hR _ _ _ _ _ _ dX11_canCast_28 (by decide) hp hS
    · have hp := hp.2 c_6
      refine lv_iload_n hx hb dX11_canCast_16 rfl (lv_at hl 3 rfl) ?_
      refine q_csI (As := [.int x3]) (rest := []) hC hS hl.1 (rX11_isHeat hp) cwX11_364 ysX11_isHeat rfl rfl (Nat.le_of_ble_eq_true rfl) (rmk (by decide) (by decide)) dX11_canCast_17 (fun r_7 w_8 H locs hp hS => ?_)
      refine lv_if_eq (tgt := 27) hx hb dX11_canCast_20 (by decide) (fun c_9 => ?_) (fun c_9 => ?_)
      · have hp := hp.1 c_9
        refine lv_iconst hx hb dX11_canCast_27 kI_0 ?_
        exact hR _ _ _ _ _ _ dX11_canCast_28 (by decide) hp hS
      · have hp := hp.2 c_9
        refine lv_iconst hx hb dX11_canCast_23 kI_1 ?_
        refine lv_goto (tgt := 28) hx hb dX11_canCast_24 (by decide) ?_
        exact hR _ _ _ _ _ _ dX11_canCast_28 (by decide) hp hS
def pX11_luckOf_38 (k6 : Int32 → Int32 → Int32 → Int32 → Int32 → Int32 → Wd → Prop) (post : Int32 → Wd → Prop) (x1 : Int32) (x2 : Int32) (x3 : Int32) (x4 : Int32) (x6 : Int32) (t0 : Int32) (t1 : Int32) (w : Wd) : Prop := ∀ x5_1, x5_1 = (t0 + t1) → ∀ x6_2, x6_2 = x6 + (1 : Int32) → k6 x1 x2 x3 x4 x5_1 x6_2 w
def pX11_luckOf_6 (post : Int32 → Wd → Prop) : Nat → Int32 → Int32 → Int32 → Int32 → Int32 → Int32 → Wd → Prop
  | 0, _, _, _, _, _, _, _ => False
  | n + 1, x1, x2, x3, x4, x5, x6, w => ((100 : Int32) ≤ x6 → (post x5 w)) ∧ (¬ (100 : Int32) ≤ x6 → (pX11_rowOf (fun r_2 w_3 => pX11_castOf (fun r_4 w_5 => (¬ r_4 = x4 → (pX11_luckOf_38 (pX11_luckOf_6 post n) post x1 x2 x3 x4 x6 x5 (0 : Int32) w_5)) ∧ (r_4 = x4 → (pX11_luckOf_38 (pX11_luckOf_6 post n) post x1 x2 x3 x4 x6 x5 (1 : Int32) w_5))) r_2 x2 x3 x6 w_3) x1 w))
def pX11_luckOf (post : Int32 → Wd → Prop) (x1 : Int32) (x2 : Int32) (x3 : Int32) (x4 : Int32) (w : Wd) : Prop := ∃ n9, pX11_luckOf_6 post n9 x1 x2 x3 x4 (0 : Int32) (0 : Int32) w
set_option maxHeartbeats 4000000 in
set_option maxRecDepth 100000 in
theorem bX11_luckOf_38 {p : Program} {l : Launch} {e : Env} {s : State} {m : MethodId} {args : Array Value} {below : List Frame} {meth : Method} {c : Code} {Q : State → Prop} {A : Nat → Prop} {g : Gw} {post : Int32 → Wd → Prop}  (hC : Cx p s m args c cX11_luckOf RX11 7 g) (hR : RtI tabM p l e (rk 4) s m args below meth c Q cX11_luckOf A g post)  {k6 : Int32 → Int32 → Int32 → Int32 → Int32 → Int32 → Wd → Prop} (hk6 : ∀ (x1 : Int32) (x2 : Int32) (x3 : Int32) (x4 : Int32) (x5 : Int32) (x6 : Int32) (w : Wd) (H : Heap) (locs : List Loc) (ls : Array Slot), k6 x1 x2 x3 x4 x5 x6 w → St tabM A s.heap g w H locs → lv_has ls 7 [(0, .ref (g.2.2 300)), (1, .int x1), (2, .int x2), (3, .int x3), (4, .int x4), (5, .int x5), (6, .int x6)] → W p l e (rk 4) s m args below meth c H locs 0 0 Q (F0 m 6 ls [])) : ∀ (x1 : Int32) (x2 : Int32) (x3 : Int32) (x4 : Int32) (x6 : Int32) (t0 : Int32) (t1 : Int32) (w : Wd) (H : Heap) (locs : List Loc) (ls : Array Slot), pX11_luckOf_38 k6 post x1 x2 x3 x4 x6 t0 t1 w → St tabM A s.heap g w H locs → lv_has ls 7 [(0, .ref (g.2.2 300)), (1, .int x1), (2, .int x2), (3, .int x3), (4, .int x4), (6, .int x6)] → W p l e (rk 4) s m args below meth c H locs 0 0 Q (F0 m 38 ls [.int t1, .int t0]) := by
  have hx := hC.1
  have hb := hC.2.1
  intro x1 x2 x3 x4 x6 t0 t1 w H locs ls hp hS hl
  unfold pX11_luckOf_38 at hp
  refine lv_iadd hx hb dX11_luckOf_38 ?_
  refine lv_topi (fun x5_1 ex5_1 => ?_)
  have hp := hp x5_1 ex5_1
  refine lv_istore (lv' := [(5, .int x5_1), (0, .ref (g.2.2 300)), (1, .int x1), (2, .int x2), (3, .int x3), (4, .int x4), (6, .int x6)]) hx hb dX11_luckOf_39 hl (by decide) rfl (fun ls hl => ?_)
  obtain ⟨x6_2, ex6_2⟩ : ∃ y : Int32, y = x6 + (1 : Int32) := ⟨_, rfl⟩
  have hp := hp x6_2 ex6_2
  refine lv_iinc (v := x6_2) (lv' := [(6, .int x6_2), (5, .int x5_1), (0, .ref (g.2.2 300)), (1, .int x1), (2, .int x2), (3, .int x3), (4, .int x4)]) hx hb dX11_luckOf_41 hl (k := 6) rfl (by rw [ex6_2]; rfl) (by decide) rfl (fun ls hl => ?_)
  refine lv_goto (tgt := 6) hx hb dX11_luckOf_44 (by decide) ?_
  exact hk6 x1 x2 x3 x4 x5_1 x6_2 w _ _ _ hp hS (lv_sub hl [2, 3, 4, 5, 6, 1, 0] rfl)
set_option maxHeartbeats 4000000 in
set_option maxRecDepth 100000 in
theorem bX11_luckOf_6 {p : Program} {l : Launch} {e : Env} {s : State} {m : MethodId} {args : Array Value} {below : List Frame} {meth : Method} {c : Code} {Q : State → Prop} {A : Nat → Prop} {g : Gw} {post : Int32 → Wd → Prop}  (hC : Cx p s m args c cX11_luckOf RX11 7 g) (hR : RtI tabM p l e (rk 4) s m args below meth c Q cX11_luckOf A g post)  : ∀ (n : Nat) (x1 : Int32) (x2 : Int32) (x3 : Int32) (x4 : Int32) (x5 : Int32) (x6 : Int32) (w : Wd) (H : Heap) (locs : List Loc) (ls : Array Slot), pX11_luckOf_6 post n x1 x2 x3 x4 x5 x6 w → St tabM A s.heap g w H locs → lv_has ls 7 [(0, .ref (g.2.2 300)), (1, .int x1), (2, .int x2), (3, .int x3), (4, .int x4), (5, .int x5), (6, .int x6)] → W p l e (rk 4) s m args below meth c H locs 0 0 Q (F0 m 6 ls []) := by
  have hx := hC.1
  have hb := hC.2.1
  intro n
  induction n with
  | zero =>
    intro x1 x2 x3 x4 x5 x6 w H locs ls hp hS hl
    exact False.elim hp
  | succ n ih =>
    intro x1 x2 x3 x4 x5 x6 w H locs ls hp hS hl
    unfold pX11_luckOf_6 at hp
    refine lv_iload hx hb dX11_luckOf_6 (lv_at hl 6 rfl) ?_
    refine lv_bipush hx hb dX11_luckOf_8 kB_100 ?_
    refine lv_icmp_ge (tgt := 47) hx hb dX11_luckOf_10 (by decide) (fun c_1 => ?_) (fun c_1 => ?_)
    · have hp := hp.1 c_1
      refine lv_iload hx hb dX11_luckOf_47 (lv_at hl 5 rfl) ?_
      exact hR _ _ _ _ _ _ dX11_luckOf_49 hp hS
    · have hp := hp.2 c_1
      refine lv_iload hx hb dX11_luckOf_13 (lv_at hl 5 rfl) ?_
      refine lv_aload_n hx hb dX11_luckOf_15 rfl (lv_at hl 0 rfl) ?_
      refine lv_aload_n hx hb dX11_luckOf_16 rfl (lv_at hl 0 rfl) ?_
      refine lv_iload_n hx hb dX11_luckOf_17 rfl (lv_at hl 1 rfl) ?_
      refine q_cvI (As := [.int x1]) (rest := [.ref (g.2.2 300), .int x5]) hC hS hl.1 (rX11_rowOf hp) cwX11_392 yvX11_rowOf (rcv_300 hC hS) rfl rfl (Nat.le_of_ble_eq_true rfl) (rmk (by decide) (by decide)) dX11_luckOf_18 (fun r_2 w_3 H locs hp hS => ?_)
      refine lv_iload_n hx hb dX11_luckOf_21 rfl (lv_at hl 2 rfl) ?_
      refine lv_iload_n hx hb dX11_luckOf_22 rfl (lv_at hl 3 rfl) ?_
      refine lv_iload hx hb dX11_luckOf_23 (lv_at hl 6 rfl) ?_
      refine q_cvI (As := [.int r_2, .int x2, .int x3, .int x6]) (rest := [.int x5]) hC hS hl.1 (rX11_castOf hp) cwX11_367 yvX11_castOf (rcv_300 hC hS) rfl rfl (Nat.le_of_ble_eq_true rfl) (rmk (by decide) (by decide)) dX11_luckOf_25 (fun r_4 w_5 H locs hp hS => ?_)
      refine lv_iload hx hb dX11_luckOf_28 (lv_at hl 4 rfl) ?_
      refine lv_icmp_ne (tgt := 37) hx hb dX11_luckOf_30 (by decide) (fun c_6 => ?_) (fun c_6 => ?_)
      · have hp := hp.1 c_6
        refine lv_iconst hx hb dX11_luckOf_37 kI_0 ?_
        exact bX11_luckOf_38 hC hR ih x1 x2 x3 x4 x6 x5 (0 : Int32) w_5 _ _ _ hp hS (lv_sub hl [0, 1, 2, 3, 4, 6] rfl)
      · have hp := hp.2 c_6
        refine lv_iconst hx hb dX11_luckOf_33 kI_1 ?_
        refine lv_goto (tgt := 38) hx hb dX11_luckOf_34 (by decide) ?_
        exact bX11_luckOf_38 hC hR ih x1 x2 x3 x4 x6 x5 (1 : Int32) w_5 _ _ _ hp hS (lv_sub hl [0, 1, 2, 3, 4, 6] rfl)
set_option maxHeartbeats 4000000 in
set_option maxRecDepth 100000 in
theorem rX11_luckOf {l : Launch} {g : Gw} {w : Wd} {post : Int32 → Wd → Prop}   {x1 : Int32} {x2 : Int32} {x3 : Int32} {x4 : Int32} (hp : pX11_luckOf post x1 x2 x3 x4 w) : MtI tabM l yX11_luckOf cX11_luckOf 7 (some .int) 4 g w [.ref (g.2.2 300), .int x1, .int x2, .int x3, .int x4] post := by
  refine q_entI tabM_nd (by decide) rfl (Nat.le_of_ble_eq_true rfl) ?_
  intro p e s m args below meth c A Q ls hC hR hS hl
  have hx := hC.1
  have hb := hC.2.1
  have hl : lv_has ls 7 [(0, .ref (g.2.2 300)), (1, .int x1), (2, .int x2), (3, .int x3), (4, .int x4)] := hl
  unfold pX11_luckOf at hp
  refine lv_iconst hx hb dX11_luckOf_0 kI_0 ?_
  refine lv_istore (lv' := [(5, .int (0 : Int32)), (0, .ref (g.2.2 300)), (1, .int x1), (2, .int x2), (3, .int x3), (4, .int x4)]) hx hb dX11_luckOf_1 hl (by decide) rfl (fun ls hl => ?_)
  refine lv_iconst hx hb dX11_luckOf_3 kI_0 ?_
  refine lv_istore (lv' := [(6, .int (0 : Int32)), (5, .int (0 : Int32)), (0, .ref (g.2.2 300)), (1, .int x1), (2, .int x2), (3, .int x3), (4, .int x4)]) hx hb dX11_luckOf_4 hl (by decide) rfl (fun ls hl => ?_)
  obtain ⟨n9, hp⟩ := hp
  exact bX11_luckOf_6 hC hR n9 x1 x2 x3 x4 (0 : Int32) (0 : Int32) w _ _ _ hp hS (lv_sub hl [2, 3, 4, 5, 6, 1, 0] rfl)
def pX11_luck (post : Int32 → Wd → Prop) (x1 : Int32) (x2 : Int32) (x3 : Int32) (x4 : Int32) (w : Wd) : Prop := pX11_canCast (fun r_1 w_2 => (r_1 = 0 → (post (-1 : Int32) w_2)) ∧ (¬ r_1 = 0 → (pX11_isRow (fun r_4 w_5 => (r_4 = 0 → (post (-1 : Int32) w_5)) ∧ (¬ r_4 = 0 → (pX11_luckOf (fun r_7 w_8 => post r_7 w_8) x1 x2 x3 x4 w_5))) x4 w_2))) x1 x2 x3 w
set_option maxHeartbeats 4000000 in
set_option maxRecDepth 100000 in
theorem rX11_luck {l : Launch} {g : Gw} {w : Wd} {post : Int32 → Wd → Prop}   {x1 : Int32} {x2 : Int32} {x3 : Int32} {x4 : Int32} (hp : pX11_luck post x1 x2 x3 x4 w) : MtI tabM l yX11_luck cX11_luck 5 (some .int) 5 g w [.ref (g.2.2 300), .int x1, .int x2, .int x3, .int x4] post := by
  refine q_entI tabM_nd (by decide) rfl (Nat.le_of_ble_eq_true rfl) ?_
  intro p e s m args below meth c A Q ls hC hR hS hl
  have hx := hC.1
  have hb := hC.2.1
  have hl : lv_has ls 5 [(0, .ref (g.2.2 300)), (1, .int x1), (2, .int x2), (3, .int x3), (4, .int x4)] := hl
  unfold pX11_luck at hp
  refine lv_aload_n hx hb dX11_luck_0 rfl (lv_at hl 0 rfl) ?_
  refine lv_iload_n hx hb dX11_luck_1 rfl (lv_at hl 1 rfl) ?_
  refine lv_iload_n hx hb dX11_luck_2 rfl (lv_at hl 2 rfl) ?_
  refine lv_iload_n hx hb dX11_luck_3 rfl (lv_at hl 3 rfl) ?_
  refine q_cvI (As := [.int x1, .int x2, .int x3]) (rest := []) hC hS hl.1 (rX11_canCast hp) cwX11_398 yvX11_canCast (rcv_300 hC hS) rfl rfl (Nat.le_of_ble_eq_true rfl) (rmk (by decide) (by decide)) dX11_luck_4 (fun r_1 w_2 H locs hp hS => ?_)
  refine lv_if_eq (tgt := 31) hx hb dX11_luck_7 (by decide) (fun c_3 => ?_) (fun c_3 => ?_)
  · have hp := hp.1 c_3
    refine lv_iconst hx hb dX11_luck_31 kI_m1 ?_
    exact hR _ _ _ _ _ _ dX11_luck_32 hp hS
  · have hp := hp.2 c_3
    refine lv_aload_n hx hb dX11_luck_10 rfl (lv_at hl 0 rfl) ?_
    refine lv_iload hx hb dX11_luck_11 (lv_at hl 4 rfl) ?_
    refine q_cvI (As := [.int x4]) (rest := []) hC hS hl.1 (rX11_isRow hp) cwX11_358 yvX11_isRow (rcv_300 hC hS) rfl rfl (Nat.le_of_ble_eq_true rfl) (rmk (by decide) (by decide)) dX11_luck_13 (fun r_4 w_5 H locs hp hS => ?_)
    refine lv_if_eq (tgt := 31) hx hb dX11_luck_16 (by decide) (fun c_6 => ?_) (fun c_6 => ?_)
    · have hp := hp.1 c_6
      refine lv_iconst hx hb dX11_luck_31 kI_m1 ?_
      exact hR _ _ _ _ _ _ dX11_luck_32 hp hS
    · have hp := hp.2 c_6
      refine lv_aload_n hx hb dX11_luck_19 rfl (lv_at hl 0 rfl) ?_
      refine lv_iload_n hx hb dX11_luck_20 rfl (lv_at hl 1 rfl) ?_
      refine lv_iload_n hx hb dX11_luck_21 rfl (lv_at hl 2 rfl) ?_
      refine lv_iload_n hx hb dX11_luck_22 rfl (lv_at hl 3 rfl) ?_
      refine lv_iload hx hb dX11_luck_23 (lv_at hl 4 rfl) ?_
      refine q_cvI (As := [.int x1, .int x2, .int x3, .int x4]) (rest := []) hC hS hl.1 (rX11_luckOf hp) cwX11_401 yvX11_luckOf (rcv_300 hC hS) rfl rfl (Nat.le_of_ble_eq_true rfl) (rmk (by decide) (by decide)) dX11_luck_25 (fun r_7 w_8 H locs hp hS => ?_)
      refine lv_goto (tgt := 32) hx hb dX11_luck_28 (by decide) ?_
      exact hR _ _ _ _ _ _ dX11_luck_32 hp hS
def pX11_likely_162 (k67 : Int32 → Int32 → Int32 → Int32 → Wd → Prop) (post : Int32 → Wd → Prop) (x4 : Int32) (x5 : Int32) (x6 : Int32) (x7 : Int32) (w : Wd) : Prop := ∀ x7_1, x7_1 = x7 + (1 : Int32) → k67 x4 x5 x6 x7_1 w
def pX11_likely_149 (k67 : Int32 → Int32 → Int32 → Int32 → Wd → Prop) (post : Int32 → Wd → Prop) (x4 : Int32) (x7 : Int32) (x8 : Int32) (w : Wd) : Prop := vp_in x7 100 ∧ ∀ x5_1, x5_1 = (w.2.1 345 x7.toNatClampNeg) → pX11_likely_162 k67 post x4 x5_1 x8 x7 w
def pX11_likely_111 (k80 : Int32 → Int32 → Int32 → Int32 → Int32 → Int32 → Wd → Prop) (post : Int32 → Wd → Prop) (x4 : Int32) (x5 : Int32) (x6 : Int32) (x7 : Int32) (x9 : Int32) (t0 : Int32) (t1 : Int32) (w : Wd) : Prop := ∀ x8_1, x8_1 = (t0 + t1) → ∀ x9_2, x9_2 = x9 + (1 : Int32) → k80 x4 x5 x6 x7 x8_1 x9_2 w
def pX11_likely_80 (k67 : Int32 → Int32 → Int32 → Int32 → Wd → Prop) (post : Int32 → Wd → Prop) : Nat → Int32 → Int32 → Int32 → Int32 → Int32 → Int32 → Wd → Prop
  | 0, _, _, _, _, _, _, _ => False
  | n + 1, x4, x5, x6, x7, x8, x9, w => ((100 : Int32) ≤ x9 → ((x8 < x6 → (pX11_likely_162 k67 post x4 x5 x6 x7 w)) ∧ (¬ x8 < x6 → ((¬ x8 = x6 → (pX11_likely_149 k67 post x4 x7 x8 w)) ∧ (x8 = x6 → (vp_in x7 100 ∧ ((w.2.1 345 x7.toNatClampNeg) < x5 → (pX11_likely_149 k67 post x4 x7 x8 w)) ∧ (¬ (w.2.1 345 x7.toNatClampNeg) < x5 → (pX11_likely_162 k67 post x4 x5 x6 x7 w)))))))) ∧ (¬ (100 : Int32) ≤ x9 → (vp_in x9 100 ∧ vp_in x7 100 ∧ (¬ (w.2.1 345 x9.toNatClampNeg) = (w.2.1 345 x7.toNatClampNeg) → (pX11_likely_111 (pX11_likely_80 k67 post n) post x4 x5 x6 x7 x9 x8 (0 : Int32) w)) ∧ ((w.2.1 345 x9.toNatClampNeg) = (w.2.1 345 x7.toNatClampNeg) → (pX11_likely_111 (pX11_likely_80 k67 post n) post x4 x5 x6 x7 x9 x8 (1 : Int32) w))))
def pX11_likely_67 (post : Int32 → Wd → Prop) : Nat → Int32 → Int32 → Int32 → Int32 → Wd → Prop
  | 0, _, _, _, _, _ => False
  | n + 1, x4, x5, x6, x7, w => ((100 : Int32) ≤ x7 → ((¬ x4 = 0 → (post x6 w)) ∧ (x4 = 0 → (post x5 w)))) ∧ (¬ (100 : Int32) ≤ x7 → (∃ n9, pX11_likely_80 (pX11_likely_67 post n) post n9 x4 x5 x6 x7 (0 : Int32) (0 : Int32) w))
def pX11_likely_25 (post : Int32 → Wd → Prop) : Nat → Int32 → Int32 → Int32 → Int32 → Int32 → Wd → Prop
  | 0, _, _, _, _, _, _ => False
  | n + 1, x1, x2, x3, x4, x5, w => ((100 : Int32) ≤ x5 → (∃ n9, pX11_likely_67 post n9 x4 (-1 : Int32) (0 : Int32) (0 : Int32) w)) ∧ (¬ (100 : Int32) ≤ x5 → (pX11_rowOf (fun r_2 w_3 => pX11_castOf (fun r_4 w_5 => vp_in x5 100 ∧ ∀ w_6, w_6 = sA w_5 345 x5.toNatClampNeg r_4 → ∀ x5_7, x5_7 = x5 + (1 : Int32) → pX11_likely_25 post n x1 x2 x3 x4 x5_7 w_6) r_2 x2 x3 x5 w_3) x1 w))
def pX11_likely (post : Int32 → Wd → Prop) (x1 : Int32) (x2 : Int32) (x3 : Int32) (x4 : Int32) (w : Wd) : Prop := pX11_canCast (fun r_1 w_2 => (r_1 = 0 → (post (-1 : Int32) w_2)) ∧ (¬ r_1 = 0 → (pX11_isIn (fun r_4 w_5 => (¬ r_4 = 0 → (∃ n9, pX11_likely_25 post n9 x1 x2 x3 x4 (0 : Int32) w_5)) ∧ (r_4 = 0 → (post (-1 : Int32) w_5))) x4 (0 : Int32) (1 : Int32) w_2))) x1 x2 x3 w
set_option maxHeartbeats 4000000 in
set_option maxRecDepth 100000 in
theorem bX11_likely_162 {p : Program} {l : Launch} {e : Env} {s : State} {m : MethodId} {args : Array Value} {below : List Frame} {meth : Method} {c : Code} {Q : State → Prop} {A : Nat → Prop} {g : Gw} {post : Int32 → Wd → Prop}  (hC : Cx p s m args c cX11_likely RX11 10 g) (hR : RtI tabM p l e (rk 4) s m args below meth c Q cX11_likely A g post)  {k67 : Int32 → Int32 → Int32 → Int32 → Wd → Prop} (hk67 : ∀ (x4 : Int32) (x5 : Int32) (x6 : Int32) (x7 : Int32) (w : Wd) (H : Heap) (locs : List Loc) (ls : Array Slot), k67 x4 x5 x6 x7 w → St tabM A s.heap g w H locs → lv_has ls 10 [(0, .ref (g.2.2 300)), (4, .int x4), (5, .int x5), (6, .int x6), (7, .int x7)] → W p l e (rk 4) s m args below meth c H locs 0 0 Q (F0 m 67 ls [])) : ∀ (x4 : Int32) (x5 : Int32) (x6 : Int32) (x7 : Int32) (w : Wd) (H : Heap) (locs : List Loc) (ls : Array Slot), pX11_likely_162 k67 post x4 x5 x6 x7 w → St tabM A s.heap g w H locs → lv_has ls 10 [(0, .ref (g.2.2 300)), (4, .int x4), (5, .int x5), (6, .int x6), (7, .int x7)] → W p l e (rk 4) s m args below meth c H locs 0 0 Q (F0 m 162 ls []) := by
  have hx := hC.1
  have hb := hC.2.1
  intro x4 x5 x6 x7 w H locs ls hp hS hl
  unfold pX11_likely_162 at hp
  obtain ⟨x7_1, ex7_1⟩ : ∃ y : Int32, y = x7 + (1 : Int32) := ⟨_, rfl⟩
  have hp := hp x7_1 ex7_1
  refine lv_iinc (v := x7_1) (lv' := [(7, .int x7_1), (0, .ref (g.2.2 300)), (4, .int x4), (5, .int x5), (6, .int x6)]) hx hb dX11_likely_162 hl (k := 4) rfl (by rw [ex7_1]; rfl) (by decide) rfl (fun ls hl => ?_)
  refine lv_goto (tgt := 67) hx hb dX11_likely_165 (by decide) ?_
  exact hk67 x4 x5 x6 x7_1 w _ _ _ hp hS (lv_sub hl [1, 2, 3, 4, 0] rfl)
set_option maxHeartbeats 4000000 in
set_option maxRecDepth 100000 in
theorem bX11_likely_149 {p : Program} {l : Launch} {e : Env} {s : State} {m : MethodId} {args : Array Value} {below : List Frame} {meth : Method} {c : Code} {Q : State → Prop} {A : Nat → Prop} {g : Gw} {post : Int32 → Wd → Prop}  (hC : Cx p s m args c cX11_likely RX11 10 g) (hR : RtI tabM p l e (rk 4) s m args below meth c Q cX11_likely A g post)  {k67 : Int32 → Int32 → Int32 → Int32 → Wd → Prop} (hk67 : ∀ (x4 : Int32) (x5 : Int32) (x6 : Int32) (x7 : Int32) (w : Wd) (H : Heap) (locs : List Loc) (ls : Array Slot), k67 x4 x5 x6 x7 w → St tabM A s.heap g w H locs → lv_has ls 10 [(0, .ref (g.2.2 300)), (4, .int x4), (5, .int x5), (6, .int x6), (7, .int x7)] → W p l e (rk 4) s m args below meth c H locs 0 0 Q (F0 m 67 ls [])) : ∀ (x4 : Int32) (x7 : Int32) (x8 : Int32) (w : Wd) (H : Heap) (locs : List Loc) (ls : Array Slot), pX11_likely_149 k67 post x4 x7 x8 w → St tabM A s.heap g w H locs → lv_has ls 10 [(0, .ref (g.2.2 300)), (4, .int x4), (7, .int x7), (8, .int x8)] → W p l e (rk 4) s m args below meth c H locs 0 0 Q (F0 m 149 ls []) := by
  have hx := hC.1
  have hb := hC.2.1
  intro x4 x7 x8 w H locs ls hp hS hl
  unfold pX11_likely_149 at hp
  refine lv_iload hx hb dX11_likely_149 (lv_at hl 3 rfl) ?_
  refine lv_istore (lv' := [(6, .int x8), (0, .ref (g.2.2 300)), (4, .int x4), (7, .int x7), (8, .int x8)]) hx hb dX11_likely_151 hl (by decide) rfl (fun ls hl => ?_)
  refine lv_aload_n hx hb dX11_likely_153 rfl (lv_at hl 1 rfl) ?_
  refine G_300_44 hC hS m276 dX11_likely_154 ?_
  refine lv_iload hx hb dX11_likely_157 (lv_at hl 3 rfl) ?_
  refine La_345 hC hS hp.1 dX11_likely_159 ?_
  have hp := hp.2
  refine lv_topi (fun x5_1 ex5_1 => ?_)
  have hp := hp x5_1 ex5_1
  refine lv_istore (lv' := [(5, .int x5_1), (6, .int x8), (0, .ref (g.2.2 300)), (4, .int x4), (7, .int x7), (8, .int x8)]) hx hb dX11_likely_160 hl (by decide) rfl (fun ls hl => ?_)
  exact bX11_likely_162 hC hR hk67 x4 x5_1 x8 x7 w _ _ _ hp hS (lv_sub hl [2, 3, 0, 1, 4] rfl)
set_option maxHeartbeats 4000000 in
set_option maxRecDepth 100000 in
theorem bX11_likely_111 {p : Program} {l : Launch} {e : Env} {s : State} {m : MethodId} {args : Array Value} {below : List Frame} {meth : Method} {c : Code} {Q : State → Prop} {A : Nat → Prop} {g : Gw} {post : Int32 → Wd → Prop}  (hC : Cx p s m args c cX11_likely RX11 10 g) (hR : RtI tabM p l e (rk 4) s m args below meth c Q cX11_likely A g post)  {k80 : Int32 → Int32 → Int32 → Int32 → Int32 → Int32 → Wd → Prop} (hk80 : ∀ (x4 : Int32) (x5 : Int32) (x6 : Int32) (x7 : Int32) (x8 : Int32) (x9 : Int32) (w : Wd) (H : Heap) (locs : List Loc) (ls : Array Slot), k80 x4 x5 x6 x7 x8 x9 w → St tabM A s.heap g w H locs → lv_has ls 10 [(0, .ref (g.2.2 300)), (4, .int x4), (5, .int x5), (6, .int x6), (7, .int x7), (8, .int x8), (9, .int x9)] → W p l e (rk 4) s m args below meth c H locs 0 0 Q (F0 m 80 ls [])) : ∀ (x4 : Int32) (x5 : Int32) (x6 : Int32) (x7 : Int32) (x9 : Int32) (t0 : Int32) (t1 : Int32) (w : Wd) (H : Heap) (locs : List Loc) (ls : Array Slot), pX11_likely_111 k80 post x4 x5 x6 x7 x9 t0 t1 w → St tabM A s.heap g w H locs → lv_has ls 10 [(0, .ref (g.2.2 300)), (4, .int x4), (5, .int x5), (6, .int x6), (7, .int x7), (9, .int x9)] → W p l e (rk 4) s m args below meth c H locs 0 0 Q (F0 m 111 ls [.int t1, .int t0]) := by
  have hx := hC.1
  have hb := hC.2.1
  intro x4 x5 x6 x7 x9 t0 t1 w H locs ls hp hS hl
  unfold pX11_likely_111 at hp
  refine lv_iadd hx hb dX11_likely_111 ?_
  refine lv_topi (fun x8_1 ex8_1 => ?_)
  have hp := hp x8_1 ex8_1
  refine lv_istore (lv' := [(8, .int x8_1), (0, .ref (g.2.2 300)), (4, .int x4), (5, .int x5), (6, .int x6), (7, .int x7), (9, .int x9)]) hx hb dX11_likely_112 hl (by decide) rfl (fun ls hl => ?_)
  obtain ⟨x9_2, ex9_2⟩ : ∃ y : Int32, y = x9 + (1 : Int32) := ⟨_, rfl⟩
  have hp := hp x9_2 ex9_2
  refine lv_iinc (v := x9_2) (lv' := [(9, .int x9_2), (8, .int x8_1), (0, .ref (g.2.2 300)), (4, .int x4), (5, .int x5), (6, .int x6), (7, .int x7)]) hx hb dX11_likely_114 hl (k := 6) rfl (by rw [ex9_2]; rfl) (by decide) rfl (fun ls hl => ?_)
  refine lv_goto (tgt := 80) hx hb dX11_likely_117 (by decide) ?_
  exact hk80 x4 x5 x6 x7 x8_1 x9_2 w _ _ _ hp hS (lv_sub hl [2, 3, 4, 5, 6, 1, 0] rfl)
set_option maxHeartbeats 4000000 in
set_option maxRecDepth 100000 in
theorem bX11_likely_80 {p : Program} {l : Launch} {e : Env} {s : State} {m : MethodId} {args : Array Value} {below : List Frame} {meth : Method} {c : Code} {Q : State → Prop} {A : Nat → Prop} {g : Gw} {post : Int32 → Wd → Prop}  (hC : Cx p s m args c cX11_likely RX11 10 g) (hR : RtI tabM p l e (rk 4) s m args below meth c Q cX11_likely A g post)  {k67 : Int32 → Int32 → Int32 → Int32 → Wd → Prop} (hk67 : ∀ (x4 : Int32) (x5 : Int32) (x6 : Int32) (x7 : Int32) (w : Wd) (H : Heap) (locs : List Loc) (ls : Array Slot), k67 x4 x5 x6 x7 w → St tabM A s.heap g w H locs → lv_has ls 10 [(0, .ref (g.2.2 300)), (4, .int x4), (5, .int x5), (6, .int x6), (7, .int x7)] → W p l e (rk 4) s m args below meth c H locs 0 0 Q (F0 m 67 ls [])) : ∀ (n : Nat) (x4 : Int32) (x5 : Int32) (x6 : Int32) (x7 : Int32) (x8 : Int32) (x9 : Int32) (w : Wd) (H : Heap) (locs : List Loc) (ls : Array Slot), pX11_likely_80 k67 post n x4 x5 x6 x7 x8 x9 w → St tabM A s.heap g w H locs → lv_has ls 10 [(0, .ref (g.2.2 300)), (4, .int x4), (5, .int x5), (6, .int x6), (7, .int x7), (8, .int x8), (9, .int x9)] → W p l e (rk 4) s m args below meth c H locs 0 0 Q (F0 m 80 ls []) := by
  have hx := hC.1
  have hb := hC.2.1
  intro n
  induction n with
  | zero =>
    intro x4 x5 x6 x7 x8 x9 w H locs ls hp hS hl
    exact False.elim hp
  | succ n ih =>
    intro x4 x5 x6 x7 x8 x9 w H locs ls hp hS hl
    unfold pX11_likely_80 at hp
    refine lv_iload hx hb dX11_likely_80 (lv_at hl 6 rfl) ?_
    refine lv_bipush hx hb dX11_likely_82 kB_100 ?_
    refine lv_icmp_ge (tgt := 120) hx hb dX11_likely_84 (by decide) (fun c_1 => ?_) (fun c_1 => ?_)
    · have hp := hp.1 c_1
      refine lv_iload hx hb dX11_likely_120 (lv_at hl 5 rfl) ?_
      refine lv_iload hx hb dX11_likely_122 (lv_at hl 3 rfl) ?_
      refine lv_icmp_lt (tgt := 162) hx hb dX11_likely_124 (by decide) (fun c_2 => ?_) (fun c_2 => ?_)
      · have hp := hp.1 c_2
        exact bX11_likely_162 hC hR hk67 x4 x5 x6 x7 w _ _ _ hp hS (lv_sub hl [0, 1, 2, 3, 4] rfl)
      · have hp := hp.2 c_2
        refine lv_iload hx hb dX11_likely_127 (lv_at hl 5 rfl) ?_
        refine lv_iload hx hb dX11_likely_129 (lv_at hl 3 rfl) ?_
        refine lv_icmp_ne (tgt := 149) hx hb dX11_likely_131 (by decide) (fun c_3 => ?_) (fun c_3 => ?_)
        · have hp := hp.1 c_3
          exact bX11_likely_149 hC hR hk67 x4 x7 x8 w _ _ _ hp hS (lv_sub hl [0, 1, 4, 5] rfl)
        · have hp := hp.2 c_3
          refine lv_aload_n hx hb dX11_likely_134 rfl (lv_at hl 0 rfl) ?_
          refine G_300_44 hC hS m276 dX11_likely_135 ?_
          refine lv_iload hx hb dX11_likely_138 (lv_at hl 4 rfl) ?_
          refine La_345 hC hS hp.1 dX11_likely_140 ?_
          have hp := hp.2
          refine lv_iload hx hb dX11_likely_141 (lv_at hl 2 rfl) ?_
          refine lv_icmp_lt (tgt := 149) hx hb dX11_likely_143 (by decide) (fun c_4 => ?_) (fun c_4 => ?_)
          · have hp := hp.1 c_4
            exact bX11_likely_149 hC hR hk67 x4 x7 x8 w _ _ _ hp hS (lv_sub hl [0, 1, 4, 5] rfl)
          · have hp := hp.2 c_4
            refine lv_goto (tgt := 162) hx hb dX11_likely_146 (by decide) ?_
            exact bX11_likely_162 hC hR hk67 x4 x5 x6 x7 w _ _ _ hp hS (lv_sub hl [0, 1, 2, 3, 4] rfl)
    · have hp := hp.2 c_1
      refine lv_iload hx hb dX11_likely_87 (lv_at hl 5 rfl) ?_
      refine lv_aload_n hx hb dX11_likely_89 rfl (lv_at hl 0 rfl) ?_
      refine G_300_44 hC hS m276 dX11_likely_90 ?_
      refine lv_iload hx hb dX11_likely_93 (lv_at hl 6 rfl) ?_
      refine La_345 hC hS hp.1 dX11_likely_95 ?_
      have hp := hp.2
      refine lv_aload_n hx hb dX11_likely_96 rfl (lv_at hl 0 rfl) ?_
      refine G_300_44 hC hS m276 dX11_likely_97 ?_
      refine lv_iload hx hb dX11_likely_100 (lv_at hl 4 rfl) ?_
      refine La_345 hC hS hp.1 dX11_likely_102 ?_
      have hp := hp.2
      refine lv_icmp_ne (tgt := 110) hx hb dX11_likely_103 (by decide) (fun c_5 => ?_) (fun c_5 => ?_)
      · have hp := hp.1 c_5
        refine lv_iconst hx hb dX11_likely_110 kI_0 ?_
        exact bX11_likely_111 hC hR ih x4 x5 x6 x7 x9 x8 (0 : Int32) w _ _ _ hp hS (lv_sub hl [0, 1, 2, 3, 4, 6] rfl)
      · have hp := hp.2 c_5
        refine lv_iconst hx hb dX11_likely_106 kI_1 ?_
        refine lv_goto (tgt := 111) hx hb dX11_likely_107 (by decide) ?_
        exact bX11_likely_111 hC hR ih x4 x5 x6 x7 x9 x8 (1 : Int32) w _ _ _ hp hS (lv_sub hl [0, 1, 2, 3, 4, 6] rfl)
set_option maxHeartbeats 4000000 in
set_option maxRecDepth 100000 in
theorem bX11_likely_67 {p : Program} {l : Launch} {e : Env} {s : State} {m : MethodId} {args : Array Value} {below : List Frame} {meth : Method} {c : Code} {Q : State → Prop} {A : Nat → Prop} {g : Gw} {post : Int32 → Wd → Prop}  (hC : Cx p s m args c cX11_likely RX11 10 g) (hR : RtI tabM p l e (rk 4) s m args below meth c Q cX11_likely A g post)  : ∀ (n : Nat) (x4 : Int32) (x5 : Int32) (x6 : Int32) (x7 : Int32) (w : Wd) (H : Heap) (locs : List Loc) (ls : Array Slot), pX11_likely_67 post n x4 x5 x6 x7 w → St tabM A s.heap g w H locs → lv_has ls 10 [(0, .ref (g.2.2 300)), (4, .int x4), (5, .int x5), (6, .int x6), (7, .int x7)] → W p l e (rk 4) s m args below meth c H locs 0 0 Q (F0 m 67 ls []) := by
  have hx := hC.1
  have hb := hC.2.1
  intro n
  induction n with
  | zero =>
    intro x4 x5 x6 x7 w H locs ls hp hS hl
    exact False.elim hp
  | succ n ih =>
    intro x4 x5 x6 x7 w H locs ls hp hS hl
    unfold pX11_likely_67 at hp
    refine lv_iload hx hb dX11_likely_67 (lv_at hl 4 rfl) ?_
    refine lv_bipush hx hb dX11_likely_69 kB_100 ?_
    refine lv_icmp_ge (tgt := 168) hx hb dX11_likely_71 (by decide) (fun c_1 => ?_) (fun c_1 => ?_)
    · have hp := hp.1 c_1
      refine lv_iload hx hb dX11_likely_168 (lv_at hl 1 rfl) ?_
      refine lv_if_ne (tgt := 178) hx hb dX11_likely_170 (by decide) (fun c_2 => ?_) (fun c_2 => ?_)
      · have hp := hp.1 c_2
        refine lv_iload hx hb dX11_likely_178 (lv_at hl 3 rfl) ?_
        exact hR _ _ _ _ _ _ dX11_likely_180 hp hS
      · have hp := hp.2 c_2
        refine lv_iload hx hb dX11_likely_173 (lv_at hl 2 rfl) ?_
        refine lv_goto (tgt := 180) hx hb dX11_likely_175 (by decide) ?_
        exact hR _ _ _ _ _ _ dX11_likely_180 hp hS
    · have hp := hp.2 c_1
      refine lv_iconst hx hb dX11_likely_74 kI_0 ?_
      refine lv_istore (lv' := [(8, .int (0 : Int32)), (0, .ref (g.2.2 300)), (4, .int x4), (5, .int x5), (6, .int x6), (7, .int x7)]) hx hb dX11_likely_75 hl (by decide) rfl (fun ls hl => ?_)
      refine lv_iconst hx hb dX11_likely_77 kI_0 ?_
      refine lv_istore (lv' := [(9, .int (0 : Int32)), (8, .int (0 : Int32)), (0, .ref (g.2.2 300)), (4, .int x4), (5, .int x5), (6, .int x6), (7, .int x7)]) hx hb dX11_likely_78 hl (by decide) rfl (fun ls hl => ?_)
      obtain ⟨n9, hp⟩ := hp
      exact bX11_likely_80 hC hR ih n9 x4 x5 x6 x7 (0 : Int32) (0 : Int32) w _ _ _ hp hS (lv_sub hl [2, 3, 4, 5, 6, 1, 0] rfl)
set_option maxHeartbeats 4000000 in
set_option maxRecDepth 100000 in
theorem bX11_likely_25 {p : Program} {l : Launch} {e : Env} {s : State} {m : MethodId} {args : Array Value} {below : List Frame} {meth : Method} {c : Code} {Q : State → Prop} {A : Nat → Prop} {g : Gw} {post : Int32 → Wd → Prop}  (hC : Cx p s m args c cX11_likely RX11 10 g) (hR : RtI tabM p l e (rk 4) s m args below meth c Q cX11_likely A g post)  : ∀ (n : Nat) (x1 : Int32) (x2 : Int32) (x3 : Int32) (x4 : Int32) (x5 : Int32) (w : Wd) (H : Heap) (locs : List Loc) (ls : Array Slot), pX11_likely_25 post n x1 x2 x3 x4 x5 w → St tabM A s.heap g w H locs → lv_has ls 10 [(0, .ref (g.2.2 300)), (1, .int x1), (2, .int x2), (3, .int x3), (4, .int x4), (5, .int x5)] → W p l e (rk 4) s m args below meth c H locs 0 0 Q (F0 m 25 ls []) := by
  have hx := hC.1
  have hb := hC.2.1
  intro n
  induction n with
  | zero =>
    intro x1 x2 x3 x4 x5 w H locs ls hp hS hl
    exact False.elim hp
  | succ n ih =>
    intro x1 x2 x3 x4 x5 w H locs ls hp hS hl
    unfold pX11_likely_25 at hp
    refine lv_iload hx hb dX11_likely_25 (lv_at hl 5 rfl) ?_
    refine lv_bipush hx hb dX11_likely_27 kB_100 ?_
    refine lv_icmp_ge (tgt := 58) hx hb dX11_likely_29 (by decide) (fun c_1 => ?_) (fun c_1 => ?_)
    · have hp := hp.1 c_1
      refine lv_iconst hx hb dX11_likely_58 kI_m1 ?_
      refine lv_istore (lv' := [(5, .int (-1 : Int32)), (0, .ref (g.2.2 300)), (1, .int x1), (2, .int x2), (3, .int x3), (4, .int x4)]) hx hb dX11_likely_59 hl (by decide) rfl (fun ls hl => ?_)
      refine lv_iconst hx hb dX11_likely_61 kI_0 ?_
      refine lv_istore (lv' := [(6, .int (0 : Int32)), (5, .int (-1 : Int32)), (0, .ref (g.2.2 300)), (1, .int x1), (2, .int x2), (3, .int x3), (4, .int x4)]) hx hb dX11_likely_62 hl (by decide) rfl (fun ls hl => ?_)
      refine lv_iconst hx hb dX11_likely_64 kI_0 ?_
      refine lv_istore (lv' := [(7, .int (0 : Int32)), (6, .int (0 : Int32)), (5, .int (-1 : Int32)), (0, .ref (g.2.2 300)), (1, .int x1), (2, .int x2), (3, .int x3), (4, .int x4)]) hx hb dX11_likely_65 hl (by decide) rfl (fun ls hl => ?_)
      obtain ⟨n9, hp⟩ := hp
      exact bX11_likely_67 hC hR n9 x4 (-1 : Int32) (0 : Int32) (0 : Int32) w _ _ _ hp hS (lv_sub hl [3, 7, 2, 1, 0] rfl)
    · have hp := hp.2 c_1
      refine lv_aload_n hx hb dX11_likely_32 rfl (lv_at hl 0 rfl) ?_
      refine G_300_44 hC hS m276 dX11_likely_33 ?_
      refine lv_iload hx hb dX11_likely_36 (lv_at hl 5 rfl) ?_
      refine lv_aload_n hx hb dX11_likely_38 rfl (lv_at hl 0 rfl) ?_
      refine lv_aload_n hx hb dX11_likely_39 rfl (lv_at hl 0 rfl) ?_
      refine lv_iload_n hx hb dX11_likely_40 rfl (lv_at hl 1 rfl) ?_
      refine q_cvI (As := [.int x1]) (rest := [.ref (g.2.2 300), .int x5, .ref (g.2.2 345)]) hC hS hl.1 (rX11_rowOf hp) cwX11_392 yvX11_rowOf (rcv_300 hC hS) rfl rfl (Nat.le_of_ble_eq_true rfl) (rmk (by decide) (by decide)) dX11_likely_41 (fun r_2 w_3 H locs hp hS => ?_)
      refine lv_iload_n hx hb dX11_likely_44 rfl (lv_at hl 2 rfl) ?_
      refine lv_iload_n hx hb dX11_likely_45 rfl (lv_at hl 3 rfl) ?_
      refine lv_iload hx hb dX11_likely_46 (lv_at hl 5 rfl) ?_
      refine q_cvI (As := [.int r_2, .int x2, .int x3, .int x5]) (rest := [.int x5, .ref (g.2.2 345)]) hC hS hl.1 (rX11_castOf hp) cwX11_367 yvX11_castOf (rcv_300 hC hS) rfl rfl (Nat.le_of_ble_eq_true rfl) (rmk (by decide) (by decide)) dX11_likely_48 (fun r_4 w_5 H locs hp hS => ?_)
      refine Sa_345 hC hS hp.1 dX11_likely_51 (fun w_6 H locs ew_6 hS => ?_)
      have hp := hp.2
      have hp := hp w_6 ew_6
      obtain ⟨x5_7, ex5_7⟩ : ∃ y : Int32, y = x5 + (1 : Int32) := ⟨_, rfl⟩
      have hp := hp x5_7 ex5_7
      refine lv_iinc (v := x5_7) (lv' := [(5, .int x5_7), (0, .ref (g.2.2 300)), (1, .int x1), (2, .int x2), (3, .int x3), (4, .int x4)]) hx hb dX11_likely_52 hl (k := 5) rfl (by rw [ex5_7]; rfl) (by decide) rfl (fun ls hl => ?_)
      refine lv_goto (tgt := 25) hx hb dX11_likely_55 (by decide) ?_
      exact ih x1 x2 x3 x4 x5_7 w_6 _ _ _ hp hS (lv_sub hl [1, 2, 3, 4, 5, 0] rfl)
set_option maxHeartbeats 4000000 in
set_option maxRecDepth 100000 in
theorem rX11_likely {l : Launch} {g : Gw} {w : Wd} {post : Int32 → Wd → Prop}   {x1 : Int32} {x2 : Int32} {x3 : Int32} {x4 : Int32} (hp : pX11_likely post x1 x2 x3 x4 w) : MtI tabM l yX11_likely cX11_likely 10 (some .int) 4 g w [.ref (g.2.2 300), .int x1, .int x2, .int x3, .int x4] post := by
  refine q_entI tabM_nd (by decide) rfl (Nat.le_of_ble_eq_true rfl) ?_
  intro p e s m args below meth c A Q ls hC hR hS hl
  have hx := hC.1
  have hb := hC.2.1
  have hl : lv_has ls 10 [(0, .ref (g.2.2 300)), (1, .int x1), (2, .int x2), (3, .int x3), (4, .int x4)] := hl
  unfold pX11_likely at hp
  refine lv_aload_n hx hb dX11_likely_0 rfl (lv_at hl 0 rfl) ?_
  refine lv_iload_n hx hb dX11_likely_1 rfl (lv_at hl 1 rfl) ?_
  refine lv_iload_n hx hb dX11_likely_2 rfl (lv_at hl 2 rfl) ?_
  refine lv_iload_n hx hb dX11_likely_3 rfl (lv_at hl 3 rfl) ?_
  refine q_cvI (As := [.int x1, .int x2, .int x3]) (rest := []) hC hS hl.1 (rX11_canCast hp) cwX11_398 yvX11_canCast (rcv_300 hC hS) rfl rfl (Nat.le_of_ble_eq_true rfl) (rmk (by decide) (by decide)) dX11_likely_4 (fun r_1 w_2 H locs hp hS => ?_)
  refine lv_if_eq (tgt := 20) hx hb dX11_likely_7 (by decide) (fun c_3 => ?_) (fun c_3 => ?_)
  · have hp := hp.1 c_3
    refine lv_iconst hx hb dX11_likely_20 kI_m1 ?_
    exact hR _ _ _ _ _ _ dX11_likely_21 hp hS
  · have hp := hp.2 c_3
    refine lv_iload hx hb dX11_likely_10 (lv_at hl 4 rfl) ?_
    refine lv_iconst hx hb dX11_likely_12 kI_0 ?_
    refine lv_iconst hx hb dX11_likely_13 kI_1 ?_
    refine q_csI (As := [.int x4, .int (0 : Int32), .int (1 : Int32)]) (rest := []) hC hS hl.1 (rX11_isIn hp) cwX11_345 ysX11_isIn rfl rfl (Nat.le_of_ble_eq_true rfl) (rmk (by decide) (by decide)) dX11_likely_14 (fun r_4 w_5 H locs hp hS => ?_)
    refine lv_if_ne (tgt := 22) hx hb dX11_likely_17 (by decide) (fun c_6 => ?_) (fun c_6 => ?_)
    · have hp := hp.1 c_6
      refine lv_iconst hx hb dX11_likely_22 kI_0 ?_
      refine lv_istore (lv' := [(5, .int (0 : Int32)), (0, .ref (g.2.2 300)), (1, .int x1), (2, .int x2), (3, .int x3), (4, .int x4)]) hx hb dX11_likely_23 hl (by decide) rfl (fun ls hl => ?_)
      obtain ⟨n9, hp⟩ := hp
      exact bX11_likely_25 hC hR n9 x1 x2 x3 x4 (0 : Int32) w_5 _ _ _ hp hS (lv_sub hl [1, 2, 3, 4, 5, 0] rfl)
    · have hp := hp.2 c_6
      refine lv_iconst hx hb dX11_likely_20 kI_m1 ?_
      exact hR _ _ _ _ _ _ dX11_likely_21 hp hS
def pX11_fades_22 (post : Int32 → Wd → Prop) : Nat → Int32 → Int32 → Int32 → Int32 → Wd → Prop
  | 0, _, _, _, _, _ => False
  | n + 1, x2, x3, x4, x5, w => ((4096 : Int32) < x5 → (post (-1 : Int32) w)) ∧ (¬ (4096 : Int32) < x5 → ((¬ x4 = 0 → (pX11_castOf (fun r_3 w_4 => ∀ x5_5, x5_5 = x5 + (1 : Int32) → pX11_fades_22 post n x2 x3 r_3 x5_5 w_4) x4 x2 x3 (0 : Int32) w)) ∧ (x4 = 0 → (post x5 w))))
def pX11_fades (post : Int32 → Wd → Prop) (x1 : Int32) (x2 : Int32) (x3 : Int32) (w : Wd) : Prop := pX11_canCast (fun r_1 w_2 => (¬ r_1 = 0 → (pX11_rowOf (fun r_4 w_5 => ∃ n9, pX11_fades_22 post n9 x2 x3 r_4 (0 : Int32) w_5) x1 w_2)) ∧ (r_1 = 0 → (post (-1 : Int32) w_2))) x1 x2 x3 w
set_option maxHeartbeats 4000000 in
set_option maxRecDepth 100000 in
theorem bX11_fades_22 {p : Program} {l : Launch} {e : Env} {s : State} {m : MethodId} {args : Array Value} {below : List Frame} {meth : Method} {c : Code} {Q : State → Prop} {A : Nat → Prop} {g : Gw} {post : Int32 → Wd → Prop}  (hC : Cx p s m args c cX11_fades RX11 6 g) (hR : RtI tabM p l e (rk 4) s m args below meth c Q cX11_fades A g post)  : ∀ (n : Nat) (x2 : Int32) (x3 : Int32) (x4 : Int32) (x5 : Int32) (w : Wd) (H : Heap) (locs : List Loc) (ls : Array Slot), pX11_fades_22 post n x2 x3 x4 x5 w → St tabM A s.heap g w H locs → lv_has ls 6 [(0, .ref (g.2.2 300)), (2, .int x2), (3, .int x3), (4, .int x4), (5, .int x5)] → W p l e (rk 4) s m args below meth c H locs 0 0 Q (F0 m 22 ls []) := by
  have hx := hC.1
  have hb := hC.2.1
  intro n
  induction n with
  | zero =>
    intro x2 x3 x4 x5 w H locs ls hp hS hl
    exact False.elim hp
  | succ n ih =>
    intro x2 x3 x4 x5 w H locs ls hp hS hl
    unfold pX11_fades_22 at hp
    refine lv_iload hx hb dX11_fades_22 (lv_at hl 4 rfl) ?_
    refine lv_sipush hx hb dX11_fades_24 kS_4096 ?_
    refine lv_icmp_gt (tgt := 55) hx hb dX11_fades_27 (by decide) (fun c_1 => ?_) (fun c_1 => ?_)
    · have hp := hp.1 c_1
      refine lv_iconst hx hb dX11_fades_55 kI_m1 ?_
      exact hR _ _ _ _ _ _ dX11_fades_56 hp hS
    · have hp := hp.2 c_1
      refine lv_iload hx hb dX11_fades_30 (lv_at hl 3 rfl) ?_
      refine lv_if_ne (tgt := 38) hx hb dX11_fades_32 (by decide) (fun c_2 => ?_) (fun c_2 => ?_)
      · have hp := hp.1 c_2
        refine lv_aload_n hx hb dX11_fades_38 rfl (lv_at hl 0 rfl) ?_
        refine lv_iload hx hb dX11_fades_39 (lv_at hl 3 rfl) ?_
        refine lv_iload_n hx hb dX11_fades_41 rfl (lv_at hl 1 rfl) ?_
        refine lv_iload_n hx hb dX11_fades_42 rfl (lv_at hl 2 rfl) ?_
        refine lv_iconst hx hb dX11_fades_43 kI_0 ?_
        refine q_cvI (As := [.int x4, .int x2, .int x3, .int (0 : Int32)]) (rest := []) hC hS hl.1 (rX11_castOf hp) cwX11_367 yvX11_castOf (rcv_300 hC hS) rfl rfl (Nat.le_of_ble_eq_true rfl) (rmk (by decide) (by decide)) dX11_fades_44 (fun r_3 w_4 H locs hp hS => ?_)
        refine lv_istore (lv' := [(4, .int r_3), (0, .ref (g.2.2 300)), (2, .int x2), (3, .int x3), (5, .int x5)]) hx hb dX11_fades_47 hl (by decide) rfl (fun ls hl => ?_)
        obtain ⟨x5_5, ex5_5⟩ : ∃ y : Int32, y = x5 + (1 : Int32) := ⟨_, rfl⟩
        have hp := hp x5_5 ex5_5
        refine lv_iinc (v := x5_5) (lv' := [(5, .int x5_5), (4, .int r_3), (0, .ref (g.2.2 300)), (2, .int x2), (3, .int x3)]) hx hb dX11_fades_49 hl (k := 4) rfl (by rw [ex5_5]; rfl) (by decide) rfl (fun ls hl => ?_)
        refine lv_goto (tgt := 22) hx hb dX11_fades_52 (by decide) ?_
        exact ih x2 x3 r_3 x5_5 w_4 _ _ _ hp hS (lv_sub hl [2, 3, 4, 1, 0] rfl)
      · have hp := hp.2 c_2
        refine lv_iload hx hb dX11_fades_35 (lv_at hl 4 rfl) ?_
        exact hR _ _ _ _ _ _ dX11_fades_37 hp hS
set_option maxHeartbeats 4000000 in
set_option maxRecDepth 100000 in
theorem rX11_fades {l : Launch} {g : Gw} {w : Wd} {post : Int32 → Wd → Prop}   {x1 : Int32} {x2 : Int32} {x3 : Int32} (hp : pX11_fades post x1 x2 x3 w) : MtI tabM l yX11_fades cX11_fades 6 (some .int) 4 g w [.ref (g.2.2 300), .int x1, .int x2, .int x3] post := by
  refine q_entI tabM_nd (by decide) rfl (Nat.le_of_ble_eq_true rfl) ?_
  intro p e s m args below meth c A Q ls hC hR hS hl
  have hx := hC.1
  have hb := hC.2.1
  have hl : lv_has ls 6 [(0, .ref (g.2.2 300)), (1, .int x1), (2, .int x2), (3, .int x3)] := hl
  unfold pX11_fades at hp
  refine lv_aload_n hx hb dX11_fades_0 rfl (lv_at hl 0 rfl) ?_
  refine lv_iload_n hx hb dX11_fades_1 rfl (lv_at hl 1 rfl) ?_
  refine lv_iload_n hx hb dX11_fades_2 rfl (lv_at hl 2 rfl) ?_
  refine lv_iload_n hx hb dX11_fades_3 rfl (lv_at hl 3 rfl) ?_
  refine q_cvI (As := [.int x1, .int x2, .int x3]) (rest := []) hC hS hl.1 (rX11_canCast hp) cwX11_398 yvX11_canCast (rcv_300 hC hS) rfl rfl (Nat.le_of_ble_eq_true rfl) (rmk (by decide) (by decide)) dX11_fades_4 (fun r_1 w_2 H locs hp hS => ?_)
  refine lv_if_ne (tgt := 12) hx hb dX11_fades_7 (by decide) (fun c_3 => ?_) (fun c_3 => ?_)
  · have hp := hp.1 c_3
    refine lv_aload_n hx hb dX11_fades_12 rfl (lv_at hl 0 rfl) ?_
    refine lv_iload_n hx hb dX11_fades_13 rfl (lv_at hl 1 rfl) ?_
    refine q_cvI (As := [.int x1]) (rest := []) hC hS hl.1 (rX11_rowOf hp) cwX11_392 yvX11_rowOf (rcv_300 hC hS) rfl rfl (Nat.le_of_ble_eq_true rfl) (rmk (by decide) (by decide)) dX11_fades_14 (fun r_4 w_5 H locs hp hS => ?_)
    refine lv_istore (lv' := [(4, .int r_4), (0, .ref (g.2.2 300)), (1, .int x1), (2, .int x2), (3, .int x3)]) hx hb dX11_fades_17 hl (by decide) rfl (fun ls hl => ?_)
    refine lv_iconst hx hb dX11_fades_19 kI_0 ?_
    refine lv_istore (lv' := [(5, .int (0 : Int32)), (4, .int r_4), (0, .ref (g.2.2 300)), (1, .int x1), (2, .int x2), (3, .int x3)]) hx hb dX11_fades_20 hl (by decide) rfl (fun ls hl => ?_)
    obtain ⟨n9, hp⟩ := hp
    exact bX11_fades_22 hC hR n9 x2 x3 r_4 (0 : Int32) w_5 _ _ _ hp hS (lv_sub hl [2, 4, 5, 1, 0] rfl)
  · have hp := hp.2 c_3
    refine lv_iconst hx hb dX11_fades_10 kI_m1 ?_
    exact hR _ _ _ _ _ _ dX11_fades_11 hp hS
