def pX10_against_73 (k31 : Int32 → Int32 → Int32 → Int32 → Int32 → Wd → Prop) (post : Int32 → Wd → Prop) (x1 : Int32) (x2 : Int32) (x3 : Int32) (x4 : Int32) (x5 : Int32) (w : Wd) : Prop := ∀ x5_1, x5_1 = x5 + (1 : Int32) → k31 x1 x2 x3 x4 x5_1 w
def pX10_against_31 (post : Int32 → Wd → Prop) : Nat → Int32 → Int32 → Int32 → Int32 → Int32 → Wd → Prop
  | 0, _, _, _, _, _, _ => False
  | n + 1, x1, x2, x3, x4, x5, w => pX7_rows (fun r_1 w_2 => (r_1 ≤ x5 → (post x4 w_2)) ∧ (¬ r_1 ≤ x5 → (False))) (w.2.2.2.2 0) w
def pX10_against (post : Int32 → Wd → Prop) (x1 : Int32) (x2 : Int32) (x3 : Int32) (w : Wd) : Prop := pX10_isHand (fun r_1 w_2 => (r_1 = 0 → (post (-1 : Int32) w_2)) ∧ (¬ r_1 = 0 → (pX10_isHand (fun r_4 w_5 => (r_4 = 0 → (post (-1 : Int32) w_5)) ∧ (¬ r_4 = 0 → (pX10_isHeat (fun r_7 w_8 => (¬ r_7 = 0 → (∃ n9, pX10_against_31 post n9 x1 x2 x3 (0 : Int32) (0 : Int32) w_8)) ∧ (r_7 = 0 → (post (-1 : Int32) w_8))) x3 w_5))) x2 w_2))) x1 w
set_option maxHeartbeats 4000000 in
set_option maxRecDepth 100000 in
theorem bX10_against_73 {p : Program} {l : Launch} {e : Env} {s : State} {m : MethodId} {args : Array Value} {below : List Frame} {meth : Method} {c : Code} {Q : State → Prop} {A : Nat → Prop} {g : Gw} {post : Int32 → Wd → Prop}  (hC : Cx p s m args c cX10_against RX10 6 g) (hR : RtI tabX p l e (rk 2) s m args below meth c Q cX10_against A g post)  {k31 : Int32 → Int32 → Int32 → Int32 → Int32 → Wd → Prop} (hk31 : ∀ (x1 : Int32) (x2 : Int32) (x3 : Int32) (x4 : Int32) (x5 : Int32) (w : Wd) (H : Heap) (locs : List Loc) (ls : Array Slot), k31 x1 x2 x3 x4 x5 w → St tabX A s.heap g w H locs → lv_has ls 6 [(0, .ref (g.2.2 0)), (1, .int x1), (2, .int x2), (3, .int x3), (4, .int x4), (5, .int x5)] → W p l e (rk 2) s m args below meth c H locs 0 0 Q (F0 m 31 ls [])) : ∀ (x1 : Int32) (x2 : Int32) (x3 : Int32) (x4 : Int32) (x5 : Int32) (w : Wd) (H : Heap) (locs : List Loc) (ls : Array Slot), pX10_against_73 k31 post x1 x2 x3 x4 x5 w → St tabX A s.heap g w H locs → lv_has ls 6 [(0, .ref (g.2.2 0)), (1, .int x1), (2, .int x2), (3, .int x3), (4, .int x4), (5, .int x5)] → W p l e (rk 2) s m args below meth c H locs 0 0 Q (F0 m 73 ls []) := by
  have hx := hC.1
  have hb := hC.2.1
  intro x1 x2 x3 x4 x5 w H locs ls hp hS hl
  unfold pX10_against_73 at hp
  obtain ⟨x5_1, ex5_1⟩ : ∃ y : Int32, y = x5 + (1 : Int32) := ⟨_, rfl⟩
  have hp := hp x5_1 ex5_1
  refine lv_iinc (v := x5_1) (lv' := [(5, .int x5_1), (0, .ref (g.2.2 0)), (1, .int x1), (2, .int x2), (3, .int x3), (4, .int x4)]) hx hb dX10_against_73 hl (k := 5) rfl (by rw [ex5_1]; rfl) (by decide) rfl (fun ls hl => ?_)
  refine lv_goto (tgt := 31) hx hb dX10_against_76 (by decide) ?_
  exact hk31 x1 x2 x3 x4 x5_1 w _ _ _ hp hS (lv_sub hl [1, 2, 3, 4, 5, 0] rfl)
set_option maxHeartbeats 4000000 in
set_option maxRecDepth 100000 in
theorem bX10_against_31 {p : Program} {l : Launch} {e : Env} {s : State} {m : MethodId} {args : Array Value} {below : List Frame} {meth : Method} {c : Code} {Q : State → Prop} {A : Nat → Prop} {g : Gw} {post : Int32 → Wd → Prop}  (hC : Cx p s m args c cX10_against RX10 6 g) (hR : RtI tabX p l e (rk 2) s m args below meth c Q cX10_against A g post)  : ∀ (n : Nat) (x1 : Int32) (x2 : Int32) (x3 : Int32) (x4 : Int32) (x5 : Int32) (w : Wd) (H : Heap) (locs : List Loc) (ls : Array Slot), pX10_against_31 post n x1 x2 x3 x4 x5 w → St tabX A s.heap g w H locs → lv_has ls 6 [(0, .ref (g.2.2 0)), (1, .int x1), (2, .int x2), (3, .int x3), (4, .int x4), (5, .int x5)] → W p l e (rk 2) s m args below meth c H locs 0 0 Q (F0 m 31 ls []) := by
  have hx := hC.1
  have hb := hC.2.1
  intro n
  induction n with
  | zero =>
    intro x1 x2 x3 x4 x5 w H locs ls hp hS hl
    exact False.elim hp
  | succ n ih =>
    intro x1 x2 x3 x4 x5 w H locs ls hp hS hl
    unfold pX10_against_31 at hp
    refine lv_iload hx hb dX10_against_31 (lv_at hl 5 rfl) ?_
    refine lv_aload_n hx hb dX10_against_33 rfl (lv_at hl 0 rfl) ?_
    refine G_0_16 hC hS m21 dX10_against_34 ?_
    refine q_cvI (As := []) (rest := [.int x5]) hC hS hl.1 (rX7_rows hp) cwX10_240 yvX7_rows (rcvR hC hS) rfl rfl (Nat.le_of_ble_eq_true rfl) (rmk (by decide) (by decide)) dX10_against_37 (fun r_1 w_2 H locs hp hS => ?_)
    refine lv_icmp_ge (tgt := 79) hx hb dX10_against_40 (by decide) (fun c_3 => ?_) (fun c_3 => ?_)
    · have hp := hp.1 c_3
      refine lv_iload hx hb dX10_against_79 (lv_at hl 4 rfl) ?_
      exact hR _ _ _ _ _ _ dX10_against_81 hp hS
    · have hp := hp.2 c_3
      refine lv_aload_n hx hb dX10_against_43 rfl (lv_at hl 0 rfl) ?_
      refine G_0_4 hC hS m34 dX10_against_44 ?_
      refine lv_iload hx hb dX10_against_47 (lv_at hl 5 rfl) ?_
      refine lv_iload_n hx hb dX10_against_49 rfl (lv_at hl 1 rfl) ?_
      refine lv_iload_n hx hb dX10_against_50 rfl (lv_at hl 3 rfl) ?_
      refine lv_iconst hx hb dX10_against_51 kI_0 ?_
      exact False.elim hp
set_option maxHeartbeats 4000000 in
set_option maxRecDepth 100000 in
theorem rX10_against {l : Launch} {g : Gw} {w : Wd} {post : Int32 → Wd → Prop}   {x1 : Int32} {x2 : Int32} {x3 : Int32} (hp : pX10_against post x1 x2 x3 w) : MtI tabX l yX10_against cX10_against 6 (some .int) 2 g w [.ref (g.2.2 0), .int x1, .int x2, .int x3] post := by
  refine q_entI tabX_nd (by decide) rfl (Nat.le_of_ble_eq_true rfl) ?_
  intro p e s m args below meth c A Q ls hC hR hS hl
  have hx := hC.1
  have hb := hC.2.1
  have hl : lv_has ls 6 [(0, .ref (g.2.2 0)), (1, .int x1), (2, .int x2), (3, .int x3)] := hl
  unfold pX10_against at hp
  refine lv_aload_n hx hb dX10_against_0 rfl (lv_at hl 0 rfl) ?_
  refine lv_iload_n hx hb dX10_against_1 rfl (lv_at hl 1 rfl) ?_
  refine q_cvI (As := [.int x1]) (rest := []) hC hS hl.1 (rX10_isHand hp) cwX10_190 yvX10_isHand (rcv_0 hC hS) rfl rfl (Nat.le_of_ble_eq_true rfl) (rmk (by decide) (by decide)) dX10_against_2 (fun r_1 w_2 H locs hp hS => ?_)
  refine lv_if_eq (tgt := 23) hx hb dX10_against_5 (by decide) (fun c_3 => ?_) (fun c_3 => ?_)
  · have hp := hp.1 c_3
    refine lv_iconst hx hb dX10_against_23 kI_m1 ?_
    exact hR _ _ _ _ _ _ dX10_against_24 hp hS
  · have hp := hp.2 c_3
    refine lv_aload_n hx hb dX10_against_8 rfl (lv_at hl 0 rfl) ?_
    refine lv_iload_n hx hb dX10_against_9 rfl (lv_at hl 2 rfl) ?_
    refine q_cvI (As := [.int x2]) (rest := []) hC hS hl.1 (rX10_isHand hp) cwX10_190 yvX10_isHand (rcv_0 hC hS) rfl rfl (Nat.le_of_ble_eq_true rfl) (rmk (by decide) (by decide)) dX10_against_10 (fun r_4 w_5 H locs hp hS => ?_)
    refine lv_if_eq (tgt := 23) hx hb dX10_against_13 (by decide) (fun c_6 => ?_) (fun c_6 => ?_)
    · have hp := hp.1 c_6
      refine lv_iconst hx hb dX10_against_23 kI_m1 ?_
      exact hR _ _ _ _ _ _ dX10_against_24 hp hS
    · have hp := hp.2 c_6
      refine lv_iload_n hx hb dX10_against_16 rfl (lv_at hl 3 rfl) ?_
      refine q_csI (As := [.int x3]) (rest := []) hC hS hl.1 (rX10_isHeat hp) cwX10_193 ysX10_isHeat rfl rfl (Nat.le_of_ble_eq_true rfl) (rmk (by decide) (by decide)) dX10_against_17 (fun r_7 w_8 H locs hp hS => ?_)
      refine lv_if_ne (tgt := 25) hx hb dX10_against_20 (by decide) (fun c_9 => ?_) (fun c_9 => ?_)
      · have hp := hp.1 c_9
        refine lv_iconst hx hb dX10_against_25 kI_0 ?_
        refine lv_istore (lv' := [(4, .int (0 : Int32)), (0, .ref (g.2.2 0)), (1, .int x1), (2, .int x2), (3, .int x3)]) hx hb dX10_against_26 hl (by decide) rfl (fun ls hl => ?_)
        refine lv_iconst hx hb dX10_against_28 kI_0 ?_
        refine lv_istore (lv' := [(5, .int (0 : Int32)), (4, .int (0 : Int32)), (0, .ref (g.2.2 0)), (1, .int x1), (2, .int x2), (3, .int x3)]) hx hb dX10_against_29 hl (by decide) rfl (fun ls hl => ?_)
        obtain ⟨n9, hp⟩ := hp
        exact bX10_against_31 hC hR n9 x1 x2 x3 (0 : Int32) (0 : Int32) w_8 _ _ _ hp hS (lv_sub hl [2, 3, 4, 5, 1, 0] rfl)
      · have hp := hp.2 c_9
        refine lv_iconst hx hb dX10_against_23 kI_m1 ?_
        exact hR _ _ _ _ _ _ dX10_against_24 hp hS
def pX9_layWay_11 (post : Wd → Prop) : Nat → Int32 → Int32 → Int32 → Wd → Prop
  | 0, _, _, _, _ => False
  | n + 1, x3, x4, x5, w => (x5 ≤ 0 → (post w)) ∧ (¬ x5 ≤ 0 → ((x3 = (w.1 60 3) → (post w)) ∧ (¬ x3 = (w.1 60 3) → (False))))
def pX9_layWay (post : Wd → Prop) (x1 : Int32) (w : Wd) : Prop := ∀ x4_1, x4_1 = (w.1 60 5) → ∃ n9, pX9_layWay_11 post n9 x1 x4_1 (4 : Int32) w
set_option maxHeartbeats 4000000 in
set_option maxRecDepth 100000 in
theorem bX9_layWay_11 {p : Program} {l : Launch} {e : Env} {s : State} {m : MethodId} {args : Array Value} {below : List Frame} {meth : Method} {c : Code} {Q : State → Prop} {A : Nat → Prop} {g : Gw} {post : Wd → Prop}  (hC : Cx p s m args c cX9_layWay RX9 7 g) (hR : RtV tabX p l e (rk 2) s m args below meth c Q cX9_layWay A g post)  : ∀ (n : Nat) (x3 : Int32) (x4 : Int32) (x5 : Int32) (w : Wd) (H : Heap) (locs : List Loc) (ls : Array Slot), pX9_layWay_11 post n x3 x4 x5 w → St tabX A s.heap g w H locs → lv_has ls 7 [(0, .ref (g.2.2 60)), (2, .ref (g.2.2 110)), (3, .int x3), (4, .int x4), (5, .int x5)] → W p l e (rk 2) s m args below meth c H locs 0 0 Q (F0 m 11 ls []) := by
  have hx := hC.1
  have hb := hC.2.1
  intro n
  induction n with
  | zero =>
    intro x3 x4 x5 w H locs ls hp hS hl
    exact False.elim hp
  | succ n ih =>
    intro x3 x4 x5 w H locs ls hp hS hl
    unfold pX9_layWay_11 at hp
    refine lv_iload hx hb dX9_layWay_11 (lv_at hl 4 rfl) ?_
    refine lv_if_le (tgt := 86) hx hb dX9_layWay_13 (by decide) (fun c_1 => ?_) (fun c_1 => ?_)
    · have hp := hp.1 c_1
      exact hR _ _ _ _ _ dX9_layWay_86 hp hS
    · have hp := hp.2 c_1
      refine lv_iload_n hx hb dX9_layWay_16 rfl (lv_at hl 2 rfl) ?_
      refine lv_aload_n hx hb dX9_layWay_17 rfl (lv_at hl 0 rfl) ?_
      refine G_60_3 hC hS m1114 dX9_layWay_18 ?_
      refine lv_icmp_eq (tgt := 86) hx hb dX9_layWay_21 (by decide) (fun c_2 => ?_) (fun c_2 => ?_)
      · have hp := hp.1 c_2
        exact hR _ _ _ _ _ dX9_layWay_86 hp hS
      · have hp := hp.2 c_2
        refine lv_aload_n hx hb dX9_layWay_24 rfl (lv_at hl 0 rfl) ?_
        refine lv_iload_n hx hb dX9_layWay_25 rfl (lv_at hl 2 rfl) ?_
        refine lv_iload hx hb dX9_layWay_26 (lv_at hl 4 rfl) ?_
        refine lv_iload hx hb dX9_layWay_28 (lv_at hl 3 rfl) ?_
        exact False.elim hp
set_option maxHeartbeats 4000000 in
set_option maxRecDepth 100000 in
theorem rX9_layWay {l : Launch} {g : Gw} {w : Wd} {post : Wd → Prop}   {x1 : Int32} (hp : pX9_layWay post x1 w) : MtV tabX l yX9_layWay cX9_layWay 7 none 2 g w [.ref (g.2.2 60), .int x1, .ref (g.2.2 110)] post := by
  refine q_entV tabX_nd (by decide) rfl (Nat.le_of_ble_eq_true rfl) ?_
  intro p e s m args below meth c A Q ls hC hR hS hl
  have hx := hC.1
  have hb := hC.2.1
  have hl : lv_has ls 7 [(0, .ref (g.2.2 60)), (1, .int x1), (2, .ref (g.2.2 110))] := hl
  unfold pX9_layWay at hp
  refine lv_iload_n hx hb dX9_layWay_0 rfl (lv_at hl 1 rfl) ?_
  refine lv_istore_n (lv' := [(3, .int x1), (0, .ref (g.2.2 60)), (1, .int x1), (2, .ref (g.2.2 110))]) hx hb dX9_layWay_1 rfl hl (by decide) rfl (fun ls hl => ?_)
  refine lv_aload_n hx hb dX9_layWay_2 rfl (lv_at hl 1 rfl) ?_
  refine G_60_5 hC hS m1117 dX9_layWay_3 ?_
  refine lv_topi (fun x4_1 ex4_1 => ?_)
  have hp := hp x4_1 ex4_1
  refine lv_istore (lv' := [(4, .int x4_1), (3, .int x1), (0, .ref (g.2.2 60)), (1, .int x1), (2, .ref (g.2.2 110))]) hx hb dX9_layWay_6 hl (by decide) rfl (fun ls hl => ?_)
  refine lv_iconst hx hb dX9_layWay_8 kI_4 ?_
  refine lv_istore (lv' := [(5, .int (4 : Int32)), (4, .int x4_1), (3, .int x1), (0, .ref (g.2.2 60)), (1, .int x1), (2, .ref (g.2.2 110))]) hx hb dX9_layWay_9 hl (by decide) rfl (fun ls hl => ?_)
  obtain ⟨n9, hp⟩ := hp
  exact bX9_layWay_11 hC hR n9 x1 x4_1 (4 : Int32) w _ _ _ hp hS (lv_sub hl [3, 5, 2, 1, 0] rfl)
def pX1_handCount (post : Int32 → Wd → Prop)  (w : Wd) : Prop := post (w.1 (rl (w.2.2.2.2 3)) 2) w
set_option maxHeartbeats 4000000 in
set_option maxRecDepth 100000 in
theorem rX1_handCount {l : Launch} {g : Gw} {w : Wd} {post : Int32 → Wd → Prop}    (hp : pX1_handCount post  w) : MtI tabX l yX1_handCount cX1_handCount 1 (some .int) 1 g w [.ref (g.2.2 40)] post := by
  refine q_entI tabX_nd (by decide) rfl (Nat.le_of_ble_eq_true rfl) ?_
  intro p e s m args below meth c A Q ls hC hR hS hl
  have hx := hC.1
  have hb := hC.2.1
  have hl : lv_has ls 1 [(0, .ref (g.2.2 40))] := hl
  unfold pX1_handCount at hp
  refine lv_aload_n hx hb dX1_handCount_0 rfl (lv_at hl 0 rfl) ?_
  refine G_40_1 hC hS m168 dX1_handCount_1 ?_
  refine GR_2 hC hS m705 dX1_handCount_4 ?_
  exact hR _ _ _ _ _ _ dX1_handCount_7 hp hS
def pX9_waxFrom_174 (k97 : Int32 → Int32 → Int32 → Int32 → Int32 → Int32 → Wd → Prop) (post : Int32 → Wd → Prop) (x1 : Int32) (x2 : Int32) (x3 : Int32) (x4 : Int32) (x5 : Int32) (x6 : Int32) (w : Wd) : Prop := ∀ x6_1, x6_1 = x6 + (1 : Int32) → k97 x1 x2 x3 x4 x5 x6_1 w
def pX9_waxFrom_112 (k97 : Int32 → Int32 → Int32 → Int32 → Int32 → Int32 → Wd → Prop) (post : Int32 → Wd → Prop) : Nat → Int32 → Int32 → Int32 → Int32 → Int32 → Int32 → Int32 → Wd → Prop
  | 0, _, _, _, _, _, _, _, _ => False
  | n + 1, x1, x2, x3, x4, x5, x6, x7, w => False
def pX9_waxFrom_97 (post : Int32 → Wd → Prop) : Nat → Int32 → Int32 → Int32 → Int32 → Int32 → Int32 → Wd → Prop
  | 0, _, _, _, _, _, _, _ => False
  | n + 1, x1, x2, x3, x4, x5, x6, w => pX1_handCount (fun r_1 w_2 => (r_1 ≤ x6 → ((x4 = 0 → (post x5 w_2)) ∧ (¬ x4 = 0 → (vp_in x3 12288 ∧ ∀ w_5, w_5 = sA w_2 63 x3.toNatClampNeg x5 → post x5 w_5)))) ∧ (¬ r_1 ≤ x6 → (∃ n9, pX9_waxFrom_112 (pX9_waxFrom_97 post n) post n9 x1 x2 x3 x4 x5 x6 (0 : Int32) w_2))) w
def pX9_waxFrom_89 (post : Int32 → Wd → Prop) (x1 : Int32) (x2 : Int32) (x3 : Int32) (x4 : Int32) (w : Wd) : Prop := ∃ n9, pX9_waxFrom_97 post n9 x1 x2 x3 x4 (1000 : Int32) (0 : Int32) w
def pX9_waxFrom_65 (post : Int32 → Wd → Prop) (x1 : Int32) (x2 : Int32) (x3 : Int32) (t0 : Int32) (w : Wd) : Prop := (t0 = 0 → (pX9_waxFrom_89 post x1 x2 x3 t0 w)) ∧ (¬ t0 = 0 → (vp_in x3 12288 ∧ ((w.2.1 63 x3.toNatClampNeg) = (-1 : Int32) → (pX9_waxFrom_89 post x1 x2 x3 t0 w)) ∧ (¬ (w.2.1 63 x3.toNatClampNeg) = (-1 : Int32) → (vp_in x3 12288 ∧ post (w.2.1 63 x3.toNatClampNeg) w))))
def pX9_waxFrom_64 (post : Int32 → Wd → Prop) (x1 : Int32) (x2 : Int32) (x3 : Int32) (w : Wd) : Prop := pX9_waxFrom_65 post x1 x2 x3 (0 : Int32) w
def pX9_waxFrom (post : Int32 → Wd → Prop) (x1 : Int32) (x2 : Int32) (w : Wd) : Prop := (¬ x1 = (w.1 60 3) → ((x2 ≤ 0 → (post (1000 : Int32) w)) ∧ (¬ x2 ≤ 0 → (((4 : Int32) < x2 → (post (1000 : Int32) w)) ∧ (¬ (4 : Int32) < x2 → ((x1 < 0 → (post (1000 : Int32) w)) ∧ (¬ x1 < 0 → ((x1 < (w.1 60 4) → (∀ x3_6, x3_6 = (((x2 - (1 : Int32)) * (w.1 60 4)) + x1) → ((4 : Int32) ≤ x2 → (pX9_waxFrom_64 post x1 x2 x3_6 w)) ∧ (¬ (4 : Int32) ≤ x2 → (((12288 : Int32) ≤ x3_6 → (pX9_waxFrom_64 post x1 x2 x3_6 w)) ∧ (¬ (12288 : Int32) ≤ x3_6 → (pX9_waxFrom_65 post x1 x2 x3_6 (1 : Int32) w)))))) ∧ (¬ x1 < (w.1 60 4) → (post (1000 : Int32) w)))))))))) ∧ (x1 = (w.1 60 3) → (post (0 : Int32) w))
set_option maxHeartbeats 4000000 in
set_option maxRecDepth 100000 in
theorem bX9_waxFrom_174 {p : Program} {l : Launch} {e : Env} {s : State} {m : MethodId} {args : Array Value} {below : List Frame} {meth : Method} {c : Code} {Q : State → Prop} {A : Nat → Prop} {g : Gw} {post : Int32 → Wd → Prop}  (hC : Cx p s m args c cX9_waxFrom RX9 9 g) (hR : RtI tabX p l e (rk 2) s m args below meth c Q cX9_waxFrom A g post)  {k97 : Int32 → Int32 → Int32 → Int32 → Int32 → Int32 → Wd → Prop} (hk97 : ∀ (x1 : Int32) (x2 : Int32) (x3 : Int32) (x4 : Int32) (x5 : Int32) (x6 : Int32) (w : Wd) (H : Heap) (locs : List Loc) (ls : Array Slot), k97 x1 x2 x3 x4 x5 x6 w → St tabX A s.heap g w H locs → lv_has ls 9 [(0, .ref (g.2.2 60)), (1, .int x1), (2, .int x2), (3, .int x3), (4, .int x4), (5, .int x5), (6, .int x6)] → W p l e (rk 2) s m args below meth c H locs 0 0 Q (F0 m 97 ls [])) : ∀ (x1 : Int32) (x2 : Int32) (x3 : Int32) (x4 : Int32) (x5 : Int32) (x6 : Int32) (w : Wd) (H : Heap) (locs : List Loc) (ls : Array Slot), pX9_waxFrom_174 k97 post x1 x2 x3 x4 x5 x6 w → St tabX A s.heap g w H locs → lv_has ls 9 [(0, .ref (g.2.2 60)), (1, .int x1), (2, .int x2), (3, .int x3), (4, .int x4), (5, .int x5), (6, .int x6)] → W p l e (rk 2) s m args below meth c H locs 0 0 Q (F0 m 174 ls []) := by
  have hx := hC.1
  have hb := hC.2.1
  intro x1 x2 x3 x4 x5 x6 w H locs ls hp hS hl
  unfold pX9_waxFrom_174 at hp
  obtain ⟨x6_1, ex6_1⟩ : ∃ y : Int32, y = x6 + (1 : Int32) := ⟨_, rfl⟩
  have hp := hp x6_1 ex6_1
  refine lv_iinc (v := x6_1) (lv' := [(6, .int x6_1), (0, .ref (g.2.2 60)), (1, .int x1), (2, .int x2), (3, .int x3), (4, .int x4), (5, .int x5)]) hx hb dX9_waxFrom_174 hl (k := 6) rfl (by rw [ex6_1]; rfl) (by decide) rfl (fun ls hl => ?_)
  refine lv_goto (tgt := 97) hx hb dX9_waxFrom_177 (by decide) ?_
  exact hk97 x1 x2 x3 x4 x5 x6_1 w _ _ _ hp hS (lv_sub hl [1, 2, 3, 4, 5, 6, 0] rfl)
set_option maxHeartbeats 4000000 in
set_option maxRecDepth 100000 in
theorem bX9_waxFrom_112 {p : Program} {l : Launch} {e : Env} {s : State} {m : MethodId} {args : Array Value} {below : List Frame} {meth : Method} {c : Code} {Q : State → Prop} {A : Nat → Prop} {g : Gw} {post : Int32 → Wd → Prop}  (hC : Cx p s m args c cX9_waxFrom RX9 9 g) (hR : RtI tabX p l e (rk 2) s m args below meth c Q cX9_waxFrom A g post)  {k97 : Int32 → Int32 → Int32 → Int32 → Int32 → Int32 → Wd → Prop} (hk97 : ∀ (x1 : Int32) (x2 : Int32) (x3 : Int32) (x4 : Int32) (x5 : Int32) (x6 : Int32) (w : Wd) (H : Heap) (locs : List Loc) (ls : Array Slot), k97 x1 x2 x3 x4 x5 x6 w → St tabX A s.heap g w H locs → lv_has ls 9 [(0, .ref (g.2.2 60)), (1, .int x1), (2, .int x2), (3, .int x3), (4, .int x4), (5, .int x5), (6, .int x6)] → W p l e (rk 2) s m args below meth c H locs 0 0 Q (F0 m 97 ls [])) : ∀ (n : Nat) (x1 : Int32) (x2 : Int32) (x3 : Int32) (x4 : Int32) (x5 : Int32) (x6 : Int32) (x7 : Int32) (w : Wd) (H : Heap) (locs : List Loc) (ls : Array Slot), pX9_waxFrom_112 k97 post n x1 x2 x3 x4 x5 x6 x7 w → St tabX A s.heap g w H locs → lv_has ls 9 [(0, .ref (g.2.2 60)), (1, .int x1), (2, .int x2), (3, .int x3), (4, .int x4), (5, .int x5), (6, .int x6), (7, .int x7)] → W p l e (rk 2) s m args below meth c H locs 0 0 Q (F0 m 112 ls []) := by
  have hx := hC.1
  have hb := hC.2.1
  intro n
  induction n with
  | zero =>
    intro x1 x2 x3 x4 x5 x6 x7 w H locs ls hp hS hl
    exact False.elim hp
  | succ n ih =>
    intro x1 x2 x3 x4 x5 x6 x7 w H locs ls hp hS hl
    unfold pX9_waxFrom_112 at hp
    refine lv_iload hx hb dX9_waxFrom_112 (lv_at hl 7 rfl) ?_
    refine lv_aload_n hx hb dX9_waxFrom_114 rfl (lv_at hl 0 rfl) ?_
    refine lv_iload hx hb dX9_waxFrom_115 (lv_at hl 6 rfl) ?_
    exact False.elim hp
set_option maxHeartbeats 4000000 in
set_option maxRecDepth 100000 in
theorem bX9_waxFrom_97 {p : Program} {l : Launch} {e : Env} {s : State} {m : MethodId} {args : Array Value} {below : List Frame} {meth : Method} {c : Code} {Q : State → Prop} {A : Nat → Prop} {g : Gw} {post : Int32 → Wd → Prop}  (hC : Cx p s m args c cX9_waxFrom RX9 9 g) (hR : RtI tabX p l e (rk 2) s m args below meth c Q cX9_waxFrom A g post)  : ∀ (n : Nat) (x1 : Int32) (x2 : Int32) (x3 : Int32) (x4 : Int32) (x5 : Int32) (x6 : Int32) (w : Wd) (H : Heap) (locs : List Loc) (ls : Array Slot), pX9_waxFrom_97 post n x1 x2 x3 x4 x5 x6 w → St tabX A s.heap g w H locs → lv_has ls 9 [(0, .ref (g.2.2 60)), (1, .int x1), (2, .int x2), (3, .int x3), (4, .int x4), (5, .int x5), (6, .int x6)] → W p l e (rk 2) s m args below meth c H locs 0 0 Q (F0 m 97 ls []) := by
  have hx := hC.1
  have hb := hC.2.1
  intro n
  induction n with
  | zero =>
    intro x1 x2 x3 x4 x5 x6 w H locs ls hp hS hl
    exact False.elim hp
  | succ n ih =>
    intro x1 x2 x3 x4 x5 x6 w H locs ls hp hS hl
    unfold pX9_waxFrom_97 at hp
    refine lv_iload hx hb dX9_waxFrom_97 (lv_at hl 6 rfl) ?_
    refine lv_aload_n hx hb dX9_waxFrom_99 rfl (lv_at hl 0 rfl) ?_
    refine G_60_1 hC hS m189 dX9_waxFrom_100 ?_
    refine q_cvI (As := []) (rest := [.int x6]) hC hS hl.1 (rX1_handCount hp) cwX9_66 yvX1_handCount (rcv_40 hC hS) rfl rfl (Nat.le_of_ble_eq_true rfl) (rmk (by decide) (by decide)) dX9_waxFrom_103 (fun r_1 w_2 H locs hp hS => ?_)
    refine lv_icmp_ge (tgt := 180) hx hb dX9_waxFrom_106 (by decide) (fun c_3 => ?_) (fun c_3 => ?_)
    · have hp := hp.1 c_3
      refine lv_iload hx hb dX9_waxFrom_180 (lv_at hl 4 rfl) ?_
      refine lv_if_eq (tgt := 193) hx hb dX9_waxFrom_182 (by decide) (fun c_4 => ?_) (fun c_4 => ?_)
      · have hp := hp.1 c_4
        refine lv_iload hx hb dX9_waxFrom_193 (lv_at hl 5 rfl) ?_
        exact hR _ _ _ _ _ _ dX9_waxFrom_195 hp hS
      · have hp := hp.2 c_4
        refine lv_aload_n hx hb dX9_waxFrom_185 rfl (lv_at hl 0 rfl) ?_
        refine G_60_2 hC hS m190 dX9_waxFrom_186 ?_
        refine lv_iload_n hx hb dX9_waxFrom_189 rfl (lv_at hl 3 rfl) ?_
        refine lv_iload hx hb dX9_waxFrom_190 (lv_at hl 5 rfl) ?_
        refine Sa_63 hC hS hp.1 dX9_waxFrom_192 (fun w_5 H locs ew_5 hS => ?_)
        have hp := hp.2
        have hp := hp w_5 ew_5
        refine lv_iload hx hb dX9_waxFrom_193 (lv_at hl 5 rfl) ?_
        exact hR _ _ _ _ _ _ dX9_waxFrom_195 hp hS
    · have hp := hp.2 c_3
      refine lv_iconst hx hb dX9_waxFrom_109 kI_0 ?_
      refine lv_istore (lv' := [(7, .int (0 : Int32)), (0, .ref (g.2.2 60)), (1, .int x1), (2, .int x2), (3, .int x3), (4, .int x4), (5, .int x5), (6, .int x6)]) hx hb dX9_waxFrom_110 hl (by decide) rfl (fun ls hl => ?_)
      obtain ⟨n9, hp⟩ := hp
      exact bX9_waxFrom_112 hC hR ih n9 x1 x2 x3 x4 x5 x6 (0 : Int32) w_2 _ _ _ hp hS (lv_sub hl [1, 2, 3, 4, 5, 6, 7, 0] rfl)
set_option maxHeartbeats 4000000 in
set_option maxRecDepth 100000 in
theorem bX9_waxFrom_89 {p : Program} {l : Launch} {e : Env} {s : State} {m : MethodId} {args : Array Value} {below : List Frame} {meth : Method} {c : Code} {Q : State → Prop} {A : Nat → Prop} {g : Gw} {post : Int32 → Wd → Prop}  (hC : Cx p s m args c cX9_waxFrom RX9 9 g) (hR : RtI tabX p l e (rk 2) s m args below meth c Q cX9_waxFrom A g post)  : ∀ (x1 : Int32) (x2 : Int32) (x3 : Int32) (x4 : Int32) (w : Wd) (H : Heap) (locs : List Loc) (ls : Array Slot), pX9_waxFrom_89 post x1 x2 x3 x4 w → St tabX A s.heap g w H locs → lv_has ls 9 [(0, .ref (g.2.2 60)), (1, .int x1), (2, .int x2), (3, .int x3), (4, .int x4)] → W p l e (rk 2) s m args below meth c H locs 0 0 Q (F0 m 89 ls []) := by
  have hx := hC.1
  have hb := hC.2.1
  intro x1 x2 x3 x4 w H locs ls hp hS hl
  unfold pX9_waxFrom_89 at hp
  refine lv_sipush hx hb dX9_waxFrom_89 kS_1000 ?_
  refine lv_istore (lv' := [(5, .int (1000 : Int32)), (0, .ref (g.2.2 60)), (1, .int x1), (2, .int x2), (3, .int x3), (4, .int x4)]) hx hb dX9_waxFrom_92 hl (by decide) rfl (fun ls hl => ?_)
  refine lv_iconst hx hb dX9_waxFrom_94 kI_0 ?_
  refine lv_istore (lv' := [(6, .int (0 : Int32)), (5, .int (1000 : Int32)), (0, .ref (g.2.2 60)), (1, .int x1), (2, .int x2), (3, .int x3), (4, .int x4)]) hx hb dX9_waxFrom_95 hl (by decide) rfl (fun ls hl => ?_)
  obtain ⟨n9, hp⟩ := hp
  exact bX9_waxFrom_97 hC hR n9 x1 x2 x3 x4 (1000 : Int32) (0 : Int32) w _ _ _ hp hS (lv_sub hl [2, 3, 4, 5, 6, 1, 0] rfl)
set_option maxHeartbeats 4000000 in
set_option maxRecDepth 100000 in
theorem bX9_waxFrom_65 {p : Program} {l : Launch} {e : Env} {s : State} {m : MethodId} {args : Array Value} {below : List Frame} {meth : Method} {c : Code} {Q : State → Prop} {A : Nat → Prop} {g : Gw} {post : Int32 → Wd → Prop}  (hC : Cx p s m args c cX9_waxFrom RX9 9 g) (hR : RtI tabX p l e (rk 2) s m args below meth c Q cX9_waxFrom A g post)  : ∀ (x1 : Int32) (x2 : Int32) (x3 : Int32) (t0 : Int32) (w : Wd) (H : Heap) (locs : List Loc) (ls : Array Slot), pX9_waxFrom_65 post x1 x2 x3 t0 w → St tabX A s.heap g w H locs → lv_has ls 9 [(0, .ref (g.2.2 60)), (1, .int x1), (2, .int x2), (3, .int x3)] → W p l e (rk 2) s m args below meth c H locs 0 0 Q (F0 m 65 ls [.int t0]) := by
  have hx := hC.1
  have hb := hC.2.1
  intro x1 x2 x3 t0 w H locs ls hp hS hl
  unfold pX9_waxFrom_65 at hp
  refine lv_istore (lv' := [(4, .int t0), (0, .ref (g.2.2 60)), (1, .int x1), (2, .int x2), (3, .int x3)]) hx hb dX9_waxFrom_65 hl (by decide) rfl (fun ls hl => ?_)
  refine lv_iload hx hb dX9_waxFrom_67 (lv_at hl 0 rfl) ?_
  refine lv_if_eq (tgt := 89) hx hb dX9_waxFrom_69 (by decide) (fun c_1 => ?_) (fun c_1 => ?_)
  · have hp := hp.1 c_1
    exact bX9_waxFrom_89 hC hR x1 x2 x3 t0 w _ _ _ hp hS (lv_sub hl [1, 2, 3, 4, 0] rfl)
  · have hp := hp.2 c_1
    refine lv_aload_n hx hb dX9_waxFrom_72 rfl (lv_at hl 1 rfl) ?_
    refine G_60_2 hC hS m190 dX9_waxFrom_73 ?_
    refine lv_iload_n hx hb dX9_waxFrom_76 rfl (lv_at hl 4 rfl) ?_
    refine La_63 hC hS hp.1 dX9_waxFrom_77 ?_
    have hp := hp.2
    refine lv_iconst hx hb dX9_waxFrom_78 kI_m1 ?_
    refine lv_icmp_eq (tgt := 89) hx hb dX9_waxFrom_79 (by decide) (fun c_2 => ?_) (fun c_2 => ?_)
    · have hp := hp.1 c_2
      exact bX9_waxFrom_89 hC hR x1 x2 x3 t0 w _ _ _ hp hS (lv_sub hl [1, 2, 3, 4, 0] rfl)
    · have hp := hp.2 c_2
      refine lv_aload_n hx hb dX9_waxFrom_82 rfl (lv_at hl 1 rfl) ?_
      refine G_60_2 hC hS m190 dX9_waxFrom_83 ?_
      refine lv_iload_n hx hb dX9_waxFrom_86 rfl (lv_at hl 4 rfl) ?_
      refine La_63 hC hS hp.1 dX9_waxFrom_87 ?_
      have hp := hp.2
      exact hR _ _ _ _ _ _ dX9_waxFrom_88 hp hS
set_option maxHeartbeats 4000000 in
set_option maxRecDepth 100000 in
theorem bX9_waxFrom_64 {p : Program} {l : Launch} {e : Env} {s : State} {m : MethodId} {args : Array Value} {below : List Frame} {meth : Method} {c : Code} {Q : State → Prop} {A : Nat → Prop} {g : Gw} {post : Int32 → Wd → Prop}  (hC : Cx p s m args c cX9_waxFrom RX9 9 g) (hR : RtI tabX p l e (rk 2) s m args below meth c Q cX9_waxFrom A g post)  : ∀ (x1 : Int32) (x2 : Int32) (x3 : Int32) (w : Wd) (H : Heap) (locs : List Loc) (ls : Array Slot), pX9_waxFrom_64 post x1 x2 x3 w → St tabX A s.heap g w H locs → lv_has ls 9 [(0, .ref (g.2.2 60)), (1, .int x1), (2, .int x2), (3, .int x3)] → W p l e (rk 2) s m args below meth c H locs 0 0 Q (F0 m 64 ls []) := by
  have hx := hC.1
  have hb := hC.2.1
  intro x1 x2 x3 w H locs ls hp hS hl
  unfold pX9_waxFrom_64 at hp
  refine lv_iconst hx hb dX9_waxFrom_64 kI_0 ?_
  exact bX9_waxFrom_65 hC hR x1 x2 x3 (0 : Int32) w _ _ _ hp hS (lv_sub hl [0, 1, 2, 3] rfl)
set_option maxHeartbeats 4000000 in
set_option maxRecDepth 100000 in
theorem rX9_waxFrom {l : Launch} {g : Gw} {w : Wd} {post : Int32 → Wd → Prop}   {x1 : Int32} {x2 : Int32} (hp : pX9_waxFrom post x1 x2 w) : MtI tabX l yX9_waxFrom cX9_waxFrom 9 (some .int) 2 g w [.ref (g.2.2 60), .int x1, .int x2] post := by
  refine q_entI tabX_nd (by decide) rfl (Nat.le_of_ble_eq_true rfl) ?_
  intro p e s m args below meth c A Q ls hC hR hS hl
  have hx := hC.1
  have hb := hC.2.1
  have hl : lv_has ls 9 [(0, .ref (g.2.2 60)), (1, .int x1), (2, .int x2)] := hl
  unfold pX9_waxFrom at hp
  refine lv_iload_n hx hb dX9_waxFrom_0 rfl (lv_at hl 1 rfl) ?_
  refine lv_aload_n hx hb dX9_waxFrom_1 rfl (lv_at hl 0 rfl) ?_
  refine G_60_3 hC hS m1114 dX9_waxFrom_2 ?_
  refine lv_icmp_ne (tgt := 10) hx hb dX9_waxFrom_5 (by decide) (fun c_1 => ?_) (fun c_1 => ?_)
  · have hp := hp.1 c_1
    refine lv_iload_n hx hb dX9_waxFrom_10 rfl (lv_at hl 2 rfl) ?_
    refine lv_if_le (tgt := 31) hx hb dX9_waxFrom_11 (by decide) (fun c_2 => ?_) (fun c_2 => ?_)
    · have hp := hp.1 c_2
      refine lv_sipush hx hb dX9_waxFrom_31 kS_1000 ?_
      exact hR _ _ _ _ _ _ dX9_waxFrom_34 hp hS
    · have hp := hp.2 c_2
      refine lv_iload_n hx hb dX9_waxFrom_14 rfl (lv_at hl 2 rfl) ?_
      refine lv_iconst hx hb dX9_waxFrom_15 kI_4 ?_
      refine lv_icmp_gt (tgt := 31) hx hb dX9_waxFrom_16 (by decide) (fun c_3 => ?_) (fun c_3 => ?_)
      · have hp := hp.1 c_3
        refine lv_sipush hx hb dX9_waxFrom_31 kS_1000 ?_
        exact hR _ _ _ _ _ _ dX9_waxFrom_34 hp hS
      · have hp := hp.2 c_3
        refine lv_iload_n hx hb dX9_waxFrom_19 rfl (lv_at hl 1 rfl) ?_
        refine lv_if_lt (tgt := 31) hx hb dX9_waxFrom_20 (by decide) (fun c_4 => ?_) (fun c_4 => ?_)
        · have hp := hp.1 c_4
          refine lv_sipush hx hb dX9_waxFrom_31 kS_1000 ?_
          exact hR _ _ _ _ _ _ dX9_waxFrom_34 hp hS
        · have hp := hp.2 c_4
          refine lv_iload_n hx hb dX9_waxFrom_23 rfl (lv_at hl 1 rfl) ?_
          refine lv_aload_n hx hb dX9_waxFrom_24 rfl (lv_at hl 0 rfl) ?_
          refine G_60_4 hC hS m1116 dX9_waxFrom_25 ?_
          refine lv_icmp_lt (tgt := 35) hx hb dX9_waxFrom_28 (by decide) (fun c_5 => ?_) (fun c_5 => ?_)
          · have hp := hp.1 c_5
            refine lv_iload_n hx hb dX9_waxFrom_35 rfl (lv_at hl 2 rfl) ?_
            refine lv_iconst hx hb dX9_waxFrom_36 kI_1 ?_
            refine lv_isub hx hb dX9_waxFrom_37 ?_
            refine lv_aload_n hx hb dX9_waxFrom_38 rfl (lv_at hl 0 rfl) ?_
            refine G_60_4 hC hS m1116 dX9_waxFrom_39 ?_
            refine lv_imul hx hb dX9_waxFrom_42 ?_
            refine lv_iload_n hx hb dX9_waxFrom_43 rfl (lv_at hl 1 rfl) ?_
            refine lv_iadd hx hb dX9_waxFrom_44 ?_
            refine lv_topi (fun x3_6 ex3_6 => ?_)
            have hp := hp x3_6 ex3_6
            refine lv_istore_n (lv' := [(3, .int x3_6), (0, .ref (g.2.2 60)), (1, .int x1), (2, .int x2)]) hx hb dX9_waxFrom_45 rfl hl (by decide) rfl (fun ls hl => ?_)
            refine lv_iload_n hx hb dX9_waxFrom_46 rfl (lv_at hl 3 rfl) ?_
            refine lv_iconst hx hb dX9_waxFrom_47 kI_4 ?_
            refine lv_icmp_ge (tgt := 64) hx hb dX9_waxFrom_48 (by decide) (fun c_7 => ?_) (fun c_7 => ?_)
            · have hp := hp.1 c_7
              exact bX9_waxFrom_64 hC hR x1 x2 x3_6 w _ _ _ hp hS (lv_sub hl [1, 2, 3, 0] rfl)
            · have hp := hp.2 c_7
              refine lv_iload_n hx hb dX9_waxFrom_51 rfl (lv_at hl 0 rfl) ?_
              refine lv_aload_n hx hb dX9_waxFrom_52 rfl (lv_at hl 1 rfl) ?_
              refine G_60_2 hC hS m190 dX9_waxFrom_53 ?_
              refine Na_63 hC hS dX9_waxFrom_56 ?_
              refine lv_icmp_ge (tgt := 64) hx hb dX9_waxFrom_57 (by decide) (fun c_8 => ?_) (fun c_8 => ?_)
              · have hp := hp.1 c_8
                exact bX9_waxFrom_64 hC hR x1 x2 x3_6 w _ _ _ hp hS (lv_sub hl [1, 2, 3, 0] rfl)
              · have hp := hp.2 c_8
                refine lv_iconst hx hb dX9_waxFrom_60 kI_1 ?_
                refine lv_goto (tgt := 65) hx hb dX9_waxFrom_61 (by decide) ?_
                exact bX9_waxFrom_65 hC hR x1 x2 x3_6 (1 : Int32) w _ _ _ hp hS (lv_sub hl [1, 2, 3, 0] rfl)
          · have hp := hp.2 c_5
            refine lv_sipush hx hb dX9_waxFrom_31 kS_1000 ?_
            exact hR _ _ _ _ _ _ dX9_waxFrom_34 hp hS
  · have hp := hp.2 c_1
    refine lv_iconst hx hb dX9_waxFrom_8 kI_0 ?_
    exact hR _ _ _ _ _ _ dX9_waxFrom_9 hp hS
def pX9_seek_100 (k53 : Int32 → Int32 → Wd → Prop) (post : Int32 → Wd → Prop) (x3 : Int32) (x4 : Int32) (w : Wd) : Prop := ∀ x4_1, x4_1 = x4 + (1 : Int32) → k53 x3 x4_1 w
def pX9_seek_53 (post : Int32 → Wd → Prop) : Nat → Int32 → Int32 → Wd → Prop
  | 0, _, _, _ => False
  | n + 1, x3, x4, w => ((w.1 160 0) ≤ x4 → (post x3 w)) ∧ (¬ (w.1 160 0) ≤ x4 → (vp_in x4 24 ∧ False))
def pX9_seek_18 (post : Int32 → Wd → Prop) : Nat → Int32 → Wd → Prop
  | 0, _, _ => False
  | n + 1, x3, w => (((3 : Int32) * (w.1 60 4)) ≤ x3 → (∀ w_2, w_2 = sI w 60 5 (1000 : Int32) → ∃ n9, pX9_seek_53 post n9 (-1 : Int32) (0 : Int32) w_2)) ∧ (¬ ((3 : Int32) * (w.1 60 4)) ≤ x3 → (vp_in x3 12288 ∧ ∀ w_3, w_3 = sA w 63 x3.toNatClampNeg (-1 : Int32) → ∀ x3_4, x3_4 = x3 + (1 : Int32) → pX9_seek_18 post n x3_4 w_3))
def pX9_seek (post : Int32 → Wd → Prop) (x1 : Int32) (x2 : Int32) (w : Wd) : Prop := ∀ w_1, w_1 = sI w 60 3 x1 → ∀ w_2, w_2 = sI w_1 60 4 (if (4096 : Int32) < x2 then (4096 : Int32) else x2) → ∃ n9, pX9_seek_18 post n9 (0 : Int32) w_2
set_option maxHeartbeats 4000000 in
set_option maxRecDepth 100000 in
theorem bX9_seek_100 {p : Program} {l : Launch} {e : Env} {s : State} {m : MethodId} {args : Array Value} {below : List Frame} {meth : Method} {c : Code} {Q : State → Prop} {A : Nat → Prop} {g : Gw} {post : Int32 → Wd → Prop}  (hC : Cx p s m args c cX9_seek RX9 6 g) (hR : RtI tabX p l e (rk 3) s m args below meth c Q cX9_seek A g post)  {k53 : Int32 → Int32 → Wd → Prop} (hk53 : ∀ (x3 : Int32) (x4 : Int32) (w : Wd) (H : Heap) (locs : List Loc) (ls : Array Slot), k53 x3 x4 w → St tabX A s.heap g w H locs → lv_has ls 6 [(0, .ref (g.2.2 60)), (3, .int x3), (4, .int x4)] → W p l e (rk 3) s m args below meth c H locs 0 0 Q (F0 m 53 ls [])) : ∀ (x3 : Int32) (x4 : Int32) (w : Wd) (H : Heap) (locs : List Loc) (ls : Array Slot), pX9_seek_100 k53 post x3 x4 w → St tabX A s.heap g w H locs → lv_has ls 6 [(0, .ref (g.2.2 60)), (3, .int x3), (4, .int x4)] → W p l e (rk 3) s m args below meth c H locs 0 0 Q (F0 m 100 ls []) := by
  have hx := hC.1
  have hb := hC.2.1
  intro x3 x4 w H locs ls hp hS hl
  unfold pX9_seek_100 at hp
  obtain ⟨x4_1, ex4_1⟩ : ∃ y : Int32, y = x4 + (1 : Int32) := ⟨_, rfl⟩
  have hp := hp x4_1 ex4_1
  refine lv_iinc (v := x4_1) (lv' := [(4, .int x4_1), (0, .ref (g.2.2 60)), (3, .int x3)]) hx hb dX9_seek_100 hl (k := 2) rfl (by rw [ex4_1]; rfl) (by decide) rfl (fun ls hl => ?_)
  refine lv_goto (tgt := 53) hx hb dX9_seek_103 (by decide) ?_
  exact hk53 x3 x4_1 w _ _ _ hp hS (lv_sub hl [1, 2, 0] rfl)
set_option maxHeartbeats 4000000 in
set_option maxRecDepth 100000 in
theorem bX9_seek_53 {p : Program} {l : Launch} {e : Env} {s : State} {m : MethodId} {args : Array Value} {below : List Frame} {meth : Method} {c : Code} {Q : State → Prop} {A : Nat → Prop} {g : Gw} {post : Int32 → Wd → Prop}  (hC : Cx p s m args c cX9_seek RX9 6 g) (hR : RtI tabX p l e (rk 3) s m args below meth c Q cX9_seek A g post)  : ∀ (n : Nat) (x3 : Int32) (x4 : Int32) (w : Wd) (H : Heap) (locs : List Loc) (ls : Array Slot), pX9_seek_53 post n x3 x4 w → St tabX A s.heap g w H locs → lv_has ls 6 [(0, .ref (g.2.2 60)), (3, .int x3), (4, .int x4)] → W p l e (rk 3) s m args below meth c H locs 0 0 Q (F0 m 53 ls []) := by
  have hx := hC.1
  have hb := hC.2.1
  intro n
  induction n with
  | zero =>
    intro x3 x4 w H locs ls hp hS hl
    exact False.elim hp
  | succ n ih =>
    intro x3 x4 w H locs ls hp hS hl
    unfold pX9_seek_53 at hp
    refine lv_iload hx hb dX9_seek_53 (lv_at hl 2 rfl) ?_
    refine lv_aload_n hx hb dX9_seek_55 rfl (lv_at hl 0 rfl) ?_
    refine G_60_0 hC hS m188 dX9_seek_56 ?_
    refine G_160_0 hC hS m1118 dX9_seek_59 ?_
    refine lv_icmp_ge (tgt := 106) hx hb dX9_seek_62 (by decide) (fun c_1 => ?_) (fun c_1 => ?_)
    · have hp := hp.1 c_1
      refine lv_iload_n hx hb dX9_seek_106 rfl (lv_at hl 1 rfl) ?_
      exact hR _ _ _ _ _ _ dX9_seek_107 hp hS
    · have hp := hp.2 c_1
      refine lv_aload_n hx hb dX9_seek_65 rfl (lv_at hl 0 rfl) ?_
      refine lv_aload_n hx hb dX9_seek_66 rfl (lv_at hl 0 rfl) ?_
      refine G_60_0 hC hS m188 dX9_seek_67 ?_
      refine G_160_1 hC hS m1119 dX9_seek_70 ?_
      refine lv_iload hx hb dX9_seek_73 (lv_at hl 2 rfl) ?_
      refine La_162 hC hS hp.1 dX9_seek_75 ?_
      have hp := hp.2
      refine lv_iconst hx hb dX9_seek_76 kI_4 ?_
      exact False.elim hp
set_option maxHeartbeats 4000000 in
set_option maxRecDepth 100000 in
theorem bX9_seek_18 {p : Program} {l : Launch} {e : Env} {s : State} {m : MethodId} {args : Array Value} {below : List Frame} {meth : Method} {c : Code} {Q : State → Prop} {A : Nat → Prop} {g : Gw} {post : Int32 → Wd → Prop}  (hC : Cx p s m args c cX9_seek RX9 6 g) (hR : RtI tabX p l e (rk 3) s m args below meth c Q cX9_seek A g post)  : ∀ (n : Nat) (x3 : Int32) (w : Wd) (H : Heap) (locs : List Loc) (ls : Array Slot), pX9_seek_18 post n x3 w → St tabX A s.heap g w H locs → lv_has ls 6 [(0, .ref (g.2.2 60)), (3, .int x3)] → W p l e (rk 3) s m args below meth c H locs 0 0 Q (F0 m 18 ls []) := by
  have hx := hC.1
  have hb := hC.2.1
  intro n
  induction n with
  | zero =>
    intro x3 w H locs ls hp hS hl
    exact False.elim hp
  | succ n ih =>
    intro x3 w H locs ls hp hS hl
    unfold pX9_seek_18 at hp
    refine lv_iload_n hx hb dX9_seek_18 rfl (lv_at hl 1 rfl) ?_
    refine lv_iconst hx hb dX9_seek_19 kI_3 ?_
    refine lv_aload_n hx hb dX9_seek_20 rfl (lv_at hl 0 rfl) ?_
    refine G_60_4 hC hS m1116 dX9_seek_21 ?_
    refine lv_imul hx hb dX9_seek_24 ?_
    refine lv_icmp_ge (tgt := 41) hx hb dX9_seek_25 (by decide) (fun c_1 => ?_) (fun c_1 => ?_)
    · have hp := hp.1 c_1
      refine lv_aload_n hx hb dX9_seek_41 rfl (lv_at hl 0 rfl) ?_
      refine lv_sipush hx hb dX9_seek_42 kS_1000 ?_
      refine P_60_5 hC hS m1117 dX9_seek_45 (fun w_2 H locs ew_2 hS => ?_)
      have hp := hp w_2 ew_2
      refine lv_iconst hx hb dX9_seek_48 kI_m1 ?_
      refine lv_istore_n (lv' := [(3, .int (-1 : Int32)), (0, .ref (g.2.2 60))]) hx hb dX9_seek_49 rfl hl (by decide) rfl (fun ls hl => ?_)
      refine lv_iconst hx hb dX9_seek_50 kI_0 ?_
      refine lv_istore (lv' := [(4, .int (0 : Int32)), (3, .int (-1 : Int32)), (0, .ref (g.2.2 60))]) hx hb dX9_seek_51 hl (by decide) rfl (fun ls hl => ?_)
      obtain ⟨n9, hp⟩ := hp
      exact bX9_seek_53 hC hR n9 (-1 : Int32) (0 : Int32) w_2 _ _ _ hp hS (lv_sub hl [2, 1, 0] rfl)
    · have hp := hp.2 c_1
      refine lv_aload_n hx hb dX9_seek_28 rfl (lv_at hl 0 rfl) ?_
      refine G_60_2 hC hS m190 dX9_seek_29 ?_
      refine lv_iload_n hx hb dX9_seek_32 rfl (lv_at hl 1 rfl) ?_
      refine lv_iconst hx hb dX9_seek_33 kI_m1 ?_
      refine Sa_63 hC hS hp.1 dX9_seek_34 (fun w_3 H locs ew_3 hS => ?_)
      have hp := hp.2
      have hp := hp w_3 ew_3
      obtain ⟨x3_4, ex3_4⟩ : ∃ y : Int32, y = x3 + (1 : Int32) := ⟨_, rfl⟩
      have hp := hp x3_4 ex3_4
      refine lv_iinc (v := x3_4) (lv' := [(3, .int x3_4), (0, .ref (g.2.2 60))]) hx hb dX9_seek_35 hl (k := 1) rfl (by rw [ex3_4]; rfl) (by decide) rfl (fun ls hl => ?_)
      refine lv_goto (tgt := 18) hx hb dX9_seek_38 (by decide) ?_
      exact ih x3_4 w_3 _ _ _ hp hS (lv_sub hl [1, 0] rfl)
set_option maxHeartbeats 4000000 in
set_option maxRecDepth 100000 in
theorem rX9_seek {l : Launch} {g : Gw} {w : Wd} {post : Int32 → Wd → Prop}   {x1 : Int32} {x2 : Int32} (hp : pX9_seek post x1 x2 w) : MtI tabX l yX9_seek cX9_seek 6 (some .int) 3 g w [.ref (g.2.2 60), .int x1, .int x2] post := by
  refine q_entI tabX_nd (by decide) rfl (Nat.le_of_ble_eq_true rfl) ?_
  intro p e s m args below meth c A Q ls hC hR hS hl
  have hx := hC.1
  have hb := hC.2.1
  have hl : lv_has ls 6 [(0, .ref (g.2.2 60)), (1, .int x1), (2, .int x2)] := hl
  unfold pX9_seek at hp
  refine lv_aload_n hx hb dX9_seek_0 rfl (lv_at hl 0 rfl) ?_
  refine lv_iload_n hx hb dX9_seek_1 rfl (lv_at hl 1 rfl) ?_
  refine P_60_3 hC hS m1114 dX9_seek_2 (fun w_1 H locs ew_1 hS => ?_)
  have hp := hp w_1 ew_1
  refine lv_aload_n hx hb dX9_seek_5 rfl (lv_at hl 0 rfl) ?_
  refine lv_iload_n hx hb dX9_seek_6 rfl (lv_at hl 2 rfl) ?_
  refine lv_sipush hx hb dX9_seek_7 kS_4096 ?_
  refine q_min hC hl.1 m1115 m347 m348 m349 (rmm (by decide) (Nat.le_of_ble_eq_true rfl)) dX9_seek_10 ?_
  refine P_60_4 hC hS m1116 dX9_seek_13 (fun w_2 H locs ew_2 hS => ?_)
  have hp := hp w_2 ew_2
  refine lv_iconst hx hb dX9_seek_16 kI_0 ?_
  refine lv_istore_n (lv' := [(3, .int (0 : Int32)), (0, .ref (g.2.2 60)), (1, .int x1), (2, .int x2)]) hx hb dX9_seek_17 rfl hl (by decide) rfl (fun ls hl => ?_)
  obtain ⟨n9, hp⟩ := hp
  exact bX9_seek_18 hC hR n9 (0 : Int32) w_2 _ _ _ hp hS (lv_sub hl [1, 0] rfl)
def pX10_wax (post : Int32 → Wd → Prop) (x1 : Int32) (w : Wd) : Prop := ∀ w_1, w_1 = sI w 110 1 (0 : Int32) → pX10_isRow (fun r_2 w_3 => (¬ r_2 = 0 → (pX7_rows (fun r_5 w_6 => pX9_seek (fun r_7 w_8 => pX10_isSeal (fun r_9 w_10 => (¬ r_9 = 0 → (pX4_lay (fun w_12 => vp_in r_7 24 ∧ pX9_layWay (fun w_13 => post (w_13.1 60 5) w_13) (w_12.2.1 162 r_7.toNatClampNeg) w_12) r_7 w_10)) ∧ (r_9 = 0 → (post (-1 : Int32) w_10))) r_7 w_8) x1 r_5 w_6) (w_3.2.2.2.2 0) w_3)) ∧ (r_2 = 0 → (post (-1 : Int32) w_3))) x1 w_1
set_option maxHeartbeats 4000000 in
set_option maxRecDepth 100000 in
theorem rX10_wax {l : Launch} {g : Gw} {w : Wd} {post : Int32 → Wd → Prop}   {x1 : Int32} (hp : pX10_wax post x1 w) : MtI tabX l yX10_wax cX10_wax 3 (some .int) 4 g w [.ref (g.2.2 0), .int x1] post := by
  refine q_entI tabX_nd (by decide) rfl (Nat.le_of_ble_eq_true rfl) ?_
  intro p e s m args below meth c A Q ls hC hR hS hl
  have hx := hC.1
  have hb := hC.2.1
  have hl : lv_has ls 3 [(0, .ref (g.2.2 0)), (1, .int x1)] := hl
  unfold pX10_wax at hp
  refine lv_aload_n hx hb dX10_wax_0 rfl (lv_at hl 0 rfl) ?_
  refine G_0_9 hC hS m54 dX10_wax_1 ?_
  refine lv_iconst hx hb dX10_wax_4 kI_0 ?_
  refine P_110_1 hC hS m224 dX10_wax_5 (fun w_1 H locs ew_1 hS => ?_)
  have hp := hp w_1 ew_1
  refine lv_aload_n hx hb dX10_wax_8 rfl (lv_at hl 0 rfl) ?_
  refine lv_iload_n hx hb dX10_wax_9 rfl (lv_at hl 1 rfl) ?_
  refine q_cvI (As := [.int x1]) (rest := []) hC hS hl.1 (rX10_isRow hp) cwX10_180 yvX10_isRow (rcv_0 hC hS) rfl rfl (Nat.le_of_ble_eq_true rfl) (rmk (by decide) (by decide)) dX10_wax_10 (fun r_2 w_3 H locs hp hS => ?_)
  refine lv_if_ne (tgt := 18) hx hb dX10_wax_13 (by decide) (fun c_4 => ?_) (fun c_4 => ?_)
  · have hp := hp.1 c_4
    refine lv_aload_n hx hb dX10_wax_18 rfl (lv_at hl 0 rfl) ?_
    refine G_0_6 hC hS m42 dX10_wax_19 ?_
    refine lv_iload_n hx hb dX10_wax_22 rfl (lv_at hl 1 rfl) ?_
    refine lv_aload_n hx hb dX10_wax_23 rfl (lv_at hl 0 rfl) ?_
    refine G_0_16 hC hS m21 dX10_wax_24 ?_
    refine q_cvI (As := []) (rest := [.int x1, .ref (g.2.2 60)]) hC hS hl.1 (rX7_rows hp) cwX10_240 yvX7_rows (rcvR hC hS) rfl rfl (Nat.le_of_ble_eq_true rfl) (rmk (by decide) (by decide)) dX10_wax_27 (fun r_5 w_6 H locs hp hS => ?_)
    refine q_cvI (As := [.int x1, .int r_5]) (rest := []) hC hS hl.1 (rX9_seek hp) cwX10_271 yvX9_seek (rcv_60 hC hS) rfl rfl (Nat.le_of_ble_eq_true rfl) (rmk (by decide) (by decide)) dX10_wax_30 (fun r_7 w_8 H locs hp hS => ?_)
    refine lv_istore_n (lv' := [(2, .int r_7), (0, .ref (g.2.2 0)), (1, .int x1)]) hx hb dX10_wax_33 rfl hl (by decide) rfl (fun ls hl => ?_)
    refine lv_aload_n hx hb dX10_wax_34 rfl (lv_at hl 1 rfl) ?_
    refine lv_iload_n hx hb dX10_wax_35 rfl (lv_at hl 0 rfl) ?_
    refine q_cvI (As := [.int r_7]) (rest := []) hC hS hl.1 (rX10_isSeal hp) cwX10_149 yvX10_isSeal (rcv_0 hC hS) rfl rfl (Nat.le_of_ble_eq_true rfl) (rmk (by decide) (by decide)) dX10_wax_36 (fun r_9 w_10 H locs hp hS => ?_)
    refine lv_if_ne (tgt := 44) hx hb dX10_wax_39 (by decide) (fun c_11 => ?_) (fun c_11 => ?_)
    · have hp := hp.1 c_11
      refine lv_aload_n hx hb dX10_wax_44 rfl (lv_at hl 1 rfl) ?_
      refine G_0_9 hC hS m54 dX10_wax_45 ?_
      refine lv_iload_n hx hb dX10_wax_48 rfl (lv_at hl 0 rfl) ?_
      refine q_cvV (As := [.int r_7]) (rest := []) hC hS hl.1 (rX4_lay hp) cwX10_263 yvX4_lay (rcv_110 hC hS) rfl rfl (Nat.le_of_ble_eq_true rfl) (rmk (by decide) (by decide)) dX10_wax_49 (fun w_12 H locs hp hS => ?_)
      refine lv_aload_n hx hb dX10_wax_52 rfl (lv_at hl 1 rfl) ?_
      refine G_0_6 hC hS m42 dX10_wax_53 ?_
      refine lv_aload_n hx hb dX10_wax_56 rfl (lv_at hl 1 rfl) ?_
      refine G_0_3 hC hS m30 dX10_wax_57 ?_
      refine G_160_1 hC hS m613 dX10_wax_60 ?_
      refine lv_iload_n hx hb dX10_wax_63 rfl (lv_at hl 0 rfl) ?_
      refine La_162 hC hS hp.1 dX10_wax_64 ?_
      have hp := hp.2
      refine lv_aload_n hx hb dX10_wax_65 rfl (lv_at hl 1 rfl) ?_
      refine G_0_9 hC hS m54 dX10_wax_66 ?_
      refine q_cvV (As := [.int (w_12.2.1 162 r_7.toNatClampNeg), .ref (g.2.2 110)]) (rest := []) hC hS hl.1 (rX9_layWay hp) cwX10_274 yvX9_layWay (rcv_60 hC hS) rfl rfl (Nat.le_of_ble_eq_true rfl) (rmk (by decide) (by decide)) dX10_wax_69 (fun w_13 H locs hp hS => ?_)
      refine lv_aload_n hx hb dX10_wax_72 rfl (lv_at hl 1 rfl) ?_
      refine G_0_6 hC hS m42 dX10_wax_73 ?_
      refine G_60_5 hC hS m1109 dX10_wax_76 ?_
      exact hR _ _ _ _ _ _ dX10_wax_79 hp hS
    · have hp := hp.2 c_11
      refine lv_iconst hx hb dX10_wax_42 kI_m1 ?_
      exact hR _ _ _ _ _ _ dX10_wax_43 hp hS
  · have hp := hp.2 c_4
    refine lv_iconst hx hb dX10_wax_16 kI_m1 ?_
    exact hR _ _ _ _ _ _ dX10_wax_17 hp hS
def pX3_add (post : Int32 → Wd → Prop) (x1 : Int32) (x2 : Int32) (x3 : Int32) (x4 : Int32) (w : Wd) : Prop := ((w.1 70 0) < 0 → (post (-1 : Int32) w)) ∧ (¬ (w.1 70 0) < 0 → (((w.1 70 0) < (40 : Int32) → (vp_in (w.1 70 0) 40 ∧ ∀ w_3, w_3 = sA w 73 (w.1 70 0).toNatClampNeg x1 → vp_in (w_3.1 70 0) 40 ∧ ∀ w_4, w_4 = sA w_3 74 (w_3.1 70 0).toNatClampNeg x2 → vp_in (w_4.1 70 0) 40 ∧ ∀ w_5, w_5 = sA w_4 75 (w_4.1 70 0).toNatClampNeg x3 → vp_in (w_5.1 70 0) 40 ∧ ∀ w_6, w_6 = sA w_5 76 (w_5.1 70 0).toNatClampNeg x4 → vp_in (w_6.1 70 0) 40 ∧ ∀ w_7, w_7 = sA w_6 77 (w_6.1 70 0).toNatClampNeg (w_6.1 70 1) → vp_in (w_7.1 70 0) 40 ∧ ∀ w_8, w_8 = sA w_7 78 (w_7.1 70 0).toNatClampNeg (-1 : Int32) → ∀ w_9, w_9 = sI w_8 70 0 ((w_8.1 70 0) + (1 : Int32)) → post ((w_9.1 70 0) - (1 : Int32)) w_9)) ∧ (¬ (w.1 70 0) < (40 : Int32) → (post (-1 : Int32) w))))
set_option maxHeartbeats 4000000 in
set_option maxRecDepth 100000 in
theorem rX3_add {l : Launch} {g : Gw} {w : Wd} {post : Int32 → Wd → Prop}   {x1 : Int32} {x2 : Int32} {x3 : Int32} {x4 : Int32} (hp : pX3_add post x1 x2 x3 x4 w) : MtI tabX l yX3_add cX3_add 5 (some .int) 1 g w [.ref (g.2.2 70), .int x1, .int x2, .int x3, .int x4] post := by
  refine q_entI tabX_nd (by decide) rfl (Nat.le_of_ble_eq_true rfl) ?_
  intro p e s m args below meth c A Q ls hC hR hS hl
  have hx := hC.1
  have hb := hC.2.1
  have hl : lv_has ls 5 [(0, .ref (g.2.2 70)), (1, .int x1), (2, .int x2), (3, .int x3), (4, .int x4)] := hl
  unfold pX3_add at hp
  refine lv_aload_n hx hb dX3_add_0 rfl (lv_at hl 0 rfl) ?_
  refine G_70_0 hC hS m1167 dX3_add_1 ?_
  refine lv_if_lt (tgt := 16) hx hb dX3_add_4 (by decide) (fun c_1 => ?_) (fun c_1 => ?_)
  · have hp := hp.1 c_1
    refine lv_iconst hx hb dX3_add_16 kI_m1 ?_
    exact hR _ _ _ _ _ _ dX3_add_17 hp hS
  · have hp := hp.2 c_1
    refine lv_aload_n hx hb dX3_add_7 rfl (lv_at hl 0 rfl) ?_
    refine G_70_0 hC hS m1167 dX3_add_8 ?_
    refine lv_bipush hx hb dX3_add_11 kB_40 ?_
    refine lv_icmp_lt (tgt := 18) hx hb dX3_add_13 (by decide) (fun c_2 => ?_) (fun c_2 => ?_)
    · have hp := hp.1 c_2
      refine lv_aload_n hx hb dX3_add_18 rfl (lv_at hl 0 rfl) ?_
      refine G_70_2 hC hS m195 dX3_add_19 ?_
      refine lv_aload_n hx hb dX3_add_22 rfl (lv_at hl 0 rfl) ?_
      refine G_70_0 hC hS m1167 dX3_add_23 ?_
      refine lv_iload_n hx hb dX3_add_26 rfl (lv_at hl 1 rfl) ?_
      refine Sa_73 hC hS hp.1 dX3_add_27 (fun w_3 H locs ew_3 hS => ?_)
      have hp := hp.2
      have hp := hp w_3 ew_3
      refine lv_aload_n hx hb dX3_add_28 rfl (lv_at hl 0 rfl) ?_
      refine G_70_3 hC hS m196 dX3_add_29 ?_
      refine lv_aload_n hx hb dX3_add_32 rfl (lv_at hl 0 rfl) ?_
      refine G_70_0 hC hS m1167 dX3_add_33 ?_
      refine lv_iload_n hx hb dX3_add_36 rfl (lv_at hl 2 rfl) ?_
      refine Sa_74 hC hS hp.1 dX3_add_37 (fun w_4 H locs ew_4 hS => ?_)
      have hp := hp.2
      have hp := hp w_4 ew_4
      refine lv_aload_n hx hb dX3_add_38 rfl (lv_at hl 0 rfl) ?_
      refine G_70_4 hC hS m197 dX3_add_39 ?_
      refine lv_aload_n hx hb dX3_add_42 rfl (lv_at hl 0 rfl) ?_
      refine G_70_0 hC hS m1167 dX3_add_43 ?_
      refine lv_iload_n hx hb dX3_add_46 rfl (lv_at hl 3 rfl) ?_
      refine Sa_75 hC hS hp.1 dX3_add_47 (fun w_5 H locs ew_5 hS => ?_)
      have hp := hp.2
      have hp := hp w_5 ew_5
      refine lv_aload_n hx hb dX3_add_48 rfl (lv_at hl 0 rfl) ?_
      refine G_70_5 hC hS m198 dX3_add_49 ?_
      refine lv_aload_n hx hb dX3_add_52 rfl (lv_at hl 0 rfl) ?_
      refine G_70_0 hC hS m1167 dX3_add_53 ?_
      refine lv_iload hx hb dX3_add_56 (lv_at hl 4 rfl) ?_
      refine Sa_76 hC hS hp.1 dX3_add_58 (fun w_6 H locs ew_6 hS => ?_)
      have hp := hp.2
      have hp := hp w_6 ew_6
      refine lv_aload_n hx hb dX3_add_59 rfl (lv_at hl 0 rfl) ?_
      refine G_70_6 hC hS m199 dX3_add_60 ?_
      refine lv_aload_n hx hb dX3_add_63 rfl (lv_at hl 0 rfl) ?_
      refine G_70_0 hC hS m1167 dX3_add_64 ?_
      refine lv_aload_n hx hb dX3_add_67 rfl (lv_at hl 0 rfl) ?_
      refine G_70_1 hC hS m1168 dX3_add_68 ?_
      refine Sa_77 hC hS hp.1 dX3_add_71 (fun w_7 H locs ew_7 hS => ?_)
      have hp := hp.2
      have hp := hp w_7 ew_7
      refine lv_aload_n hx hb dX3_add_72 rfl (lv_at hl 0 rfl) ?_
      refine G_70_7 hC hS m200 dX3_add_73 ?_
      refine lv_aload_n hx hb dX3_add_76 rfl (lv_at hl 0 rfl) ?_
      refine G_70_0 hC hS m1167 dX3_add_77 ?_
      refine lv_iconst hx hb dX3_add_80 kI_m1 ?_
      refine Sa_78 hC hS hp.1 dX3_add_81 (fun w_8 H locs ew_8 hS => ?_)
      have hp := hp.2
      have hp := hp w_8 ew_8
      refine lv_aload_n hx hb dX3_add_82 rfl (lv_at hl 0 rfl) ?_
      refine lv_dup hx hb dX3_add_83 rfl ?_
      refine G_70_0 hC hS m1167 dX3_add_84 ?_
      refine lv_iconst hx hb dX3_add_87 kI_1 ?_
      refine lv_iadd hx hb dX3_add_88 ?_
      refine P_70_0 hC hS m1167 dX3_add_89 (fun w_9 H locs ew_9 hS => ?_)
      have hp := hp w_9 ew_9
      refine lv_aload_n hx hb dX3_add_92 rfl (lv_at hl 0 rfl) ?_
      refine G_70_0 hC hS m1167 dX3_add_93 ?_
      refine lv_iconst hx hb dX3_add_96 kI_1 ?_
      refine lv_isub hx hb dX3_add_97 ?_
      exact hR _ _ _ _ _ _ dX3_add_98 hp hS
    · have hp := hp.2 c_2
      refine lv_iconst hx hb dX3_add_16 kI_m1 ?_
      exact hR _ _ _ _ _ _ dX3_add_17 hp hS
def pX10_sample (post : Int32 → Wd → Prop) (x1 : Int32) (x2 : Int32) (w : Wd) : Prop := pX10_isRow (fun r_1 w_2 => (r_1 = 0 → (post (-1 : Int32) w_2)) ∧ (¬ r_1 = 0 → ((x2 = 0 → (pX3_add (fun r_5 w_6 => post r_5 w_6) (0 : Int32) x1 (0 : Int32) (0 : Int32) w_2)) ∧ (¬ x2 = 0 → (pX3_add (fun r_7 w_8 => post r_7 w_8) (0 : Int32) x1 (0 : Int32) (1 : Int32) w_2))))) x1 w
set_option maxHeartbeats 4000000 in
set_option maxRecDepth 100000 in
theorem rX10_sample {l : Launch} {g : Gw} {w : Wd} {post : Int32 → Wd → Prop}   {x1 : Int32} {x2 : Int32} (hp : pX10_sample post x1 x2 w) : MtI tabX l yX10_sample cX10_sample 3 (some .int) 3 g w [.ref (g.2.2 0), .int x1, .int x2] post := by
  refine q_entI tabX_nd (by decide) rfl (Nat.le_of_ble_eq_true rfl) ?_
  intro p e s m args below meth c A Q ls hC hR hS hl
  have hx := hC.1
  have hb := hC.2.1
  have hl : lv_has ls 3 [(0, .ref (g.2.2 0)), (1, .int x1), (2, .int x2)] := hl
  unfold pX10_sample at hp
  refine lv_aload_n hx hb dX10_sample_0 rfl (lv_at hl 0 rfl) ?_
  refine lv_iload_n hx hb dX10_sample_1 rfl (lv_at hl 1 rfl) ?_
  refine q_cvI (As := [.int x1]) (rest := []) hC hS hl.1 (rX10_isRow hp) cwX10_180 yvX10_isRow (rcv_0 hC hS) rfl rfl (Nat.le_of_ble_eq_true rfl) (rmk (by decide) (by decide)) dX10_sample_2 (fun r_1 w_2 H locs hp hS => ?_)
  refine lv_if_eq (tgt := 30) hx hb dX10_sample_5 (by decide) (fun c_3 => ?_) (fun c_3 => ?_)
  · have hp := hp.1 c_3
    refine lv_iconst hx hb dX10_sample_30 kI_m1 ?_
    exact hR _ _ _ _ _ _ dX10_sample_31 hp hS
  · have hp := hp.2 c_3
    refine lv_aload_n hx hb dX10_sample_8 rfl (lv_at hl 0 rfl) ?_
    refine G_0_7 hC hS m46 dX10_sample_9 ?_
    refine lv_iconst hx hb dX10_sample_12 kI_0 ?_
    refine lv_iload_n hx hb dX10_sample_13 rfl (lv_at hl 1 rfl) ?_
    refine lv_iconst hx hb dX10_sample_14 kI_0 ?_
    refine lv_iload_n hx hb dX10_sample_15 rfl (lv_at hl 2 rfl) ?_
    refine lv_if_eq (tgt := 23) hx hb dX10_sample_16 (by decide) (fun c_4 => ?_) (fun c_4 => ?_)
    · have hp := hp.1 c_4
      refine lv_iconst hx hb dX10_sample_23 kI_0 ?_
      refine q_cvI (As := [.int (0 : Int32), .int x1, .int (0 : Int32), .int (0 : Int32)]) (rest := []) hC hS hl.1 (rX3_add hp) cwX10_281 yvX3_add (rcv_70 hC hS) rfl rfl (Nat.le_of_ble_eq_true rfl) (rmk (by decide) (by decide)) dX10_sample_24 (fun r_5 w_6 H locs hp hS => ?_)
      refine lv_goto (tgt := 31) hx hb dX10_sample_27 (by decide) ?_
      exact hR _ _ _ _ _ _ dX10_sample_31 hp hS
    · have hp := hp.2 c_4
      refine lv_iconst hx hb dX10_sample_19 kI_1 ?_
      refine lv_goto (tgt := 24) hx hb dX10_sample_20 (by decide) ?_
      refine q_cvI (As := [.int (0 : Int32), .int x1, .int (0 : Int32), .int (1 : Int32)]) (rest := []) hC hS hl.1 (rX3_add hp) cwX10_281 yvX3_add (rcv_70 hC hS) rfl rfl (Nat.le_of_ble_eq_true rfl) (rmk (by decide) (by decide)) dX10_sample_24 (fun r_7 w_8 H locs hp hS => ?_)
      refine lv_goto (tgt := 31) hx hb dX10_sample_27 (by decide) ?_
      exact hR _ _ _ _ _ _ dX10_sample_31 hp hS
def pX10_isYear (post : Int32 → Wd → Prop) (x0 : Int32) (w : Wd) : Prop := (x0 < 0 → (post (0 : Int32) w)) ∧ (¬ x0 < 0 → (((999 : Int32) < x0 → (post (0 : Int32) w)) ∧ (¬ (999 : Int32) < x0 → (post (1 : Int32) w))))
set_option maxHeartbeats 4000000 in
set_option maxRecDepth 100000 in
theorem rX10_isYear {l : Launch} {g : Gw} {w : Wd} {post : Int32 → Wd → Prop}   {x0 : Int32} (hp : pX10_isYear post x0 w) : MtI tabX l yX10_isYear cX10_isYear 1 (some .boolean) 1 g w [.int x0] post := by
  refine q_entZ tabX_nd (by decide) rfl (Nat.le_of_ble_eq_true rfl) ?_
  intro p e s m args below meth c A Q ls hC hR hS hl
  have hx := hC.1
  have hb := hC.2.1
  have hl : lv_has ls 1 [(0, .int x0)] := hl
  unfold pX10_isYear at hp
  refine lv_iload_n hx hb dX10_isYear_0 rfl (lv_at hl 0 rfl) ?_
  refine lv_if_lt (tgt := 15) hx hb dX10_isYear_1 (by decide) (fun c_1 => ?_) (fun c_1 => ?_)
  · have hp := hp.1 c_1
    refine lv_iconst hx hb dX10_isYear_15 kI_0 ?_
    exact hR _ _ _ _ _ _ dX10_isYear_16 (by decide) hp hS
  · have hp := hp.2 c_1
    refine lv_iload_n hx hb dX10_isYear_4 rfl (lv_at hl 0 rfl) ?_
    refine lv_sipush hx hb dX10_isYear_5 kS_999 ?_
    refine lv_icmp_gt (tgt := 15) hx hb dX10_isYear_8 (by decide) (fun c_2 => ?_) (fun c_2 => ?_)
    · have hp := hp.1 c_2
      refine lv_iconst hx hb dX10_isYear_15 kI_0 ?_
      exact hR _ _ _ _ _ _ dX10_isYear_16 (by decide) hp hS
    · have hp := hp.2 c_2
      refine lv_iconst hx hb dX10_isYear_11 kI_1 ?_
      refine lv_goto (tgt := 16) hx hb dX10_isYear_12 (by decide) ?_
      exact hR _ _ _ _ _ _ dX10_isYear_16 (by decide) hp hS
def pX10_claim (post : Int32 → Wd → Prop) (x1 : Int32) (x2 : Int32) (x3 : Int32) (w : Wd) : Prop := pX10_isRow (fun r_1 w_2 => (r_1 = 0 → (post (-1 : Int32) w_2)) ∧ (¬ r_1 = 0 → (pX10_isSeal (fun r_4 w_5 => (r_4 = 0 → (post (-1 : Int32) w_5)) ∧ (¬ r_4 = 0 → (pX10_isYear (fun r_7 w_8 => (¬ r_7 = 0 → (pX3_add (fun r_10 w_11 => post r_10 w_11) (1 : Int32) x1 x2 x3 w_8)) ∧ (r_7 = 0 → (post (-1 : Int32) w_8))) x3 w_5))) x2 w_2))) x1 w
set_option maxHeartbeats 4000000 in
set_option maxRecDepth 100000 in
theorem rX10_claim {l : Launch} {g : Gw} {w : Wd} {post : Int32 → Wd → Prop}   {x1 : Int32} {x2 : Int32} {x3 : Int32} (hp : pX10_claim post x1 x2 x3 w) : MtI tabX l yX10_claim cX10_claim 4 (some .int) 3 g w [.ref (g.2.2 0), .int x1, .int x2, .int x3] post := by
  refine q_entI tabX_nd (by decide) rfl (Nat.le_of_ble_eq_true rfl) ?_
  intro p e s m args below meth c A Q ls hC hR hS hl
  have hx := hC.1
  have hb := hC.2.1
  have hl : lv_has ls 4 [(0, .ref (g.2.2 0)), (1, .int x1), (2, .int x2), (3, .int x3)] := hl
  unfold pX10_claim at hp
  refine lv_aload_n hx hb dX10_claim_0 rfl (lv_at hl 0 rfl) ?_
  refine lv_iload_n hx hb dX10_claim_1 rfl (lv_at hl 1 rfl) ?_
  refine q_cvI (As := [.int x1]) (rest := []) hC hS hl.1 (rX10_isRow hp) cwX10_180 yvX10_isRow (rcv_0 hC hS) rfl rfl (Nat.le_of_ble_eq_true rfl) (rmk (by decide) (by decide)) dX10_claim_2 (fun r_1 w_2 H locs hp hS => ?_)
  refine lv_if_eq (tgt := 23) hx hb dX10_claim_5 (by decide) (fun c_3 => ?_) (fun c_3 => ?_)
  · have hp := hp.1 c_3
    refine lv_iconst hx hb dX10_claim_23 kI_m1 ?_
    exact hR _ _ _ _ _ _ dX10_claim_24 hp hS
  · have hp := hp.2 c_3
    refine lv_aload_n hx hb dX10_claim_8 rfl (lv_at hl 0 rfl) ?_
    refine lv_iload_n hx hb dX10_claim_9 rfl (lv_at hl 2 rfl) ?_
    refine q_cvI (As := [.int x2]) (rest := []) hC hS hl.1 (rX10_isSeal hp) cwX10_149 yvX10_isSeal (rcv_0 hC hS) rfl rfl (Nat.le_of_ble_eq_true rfl) (rmk (by decide) (by decide)) dX10_claim_10 (fun r_4 w_5 H locs hp hS => ?_)
    refine lv_if_eq (tgt := 23) hx hb dX10_claim_13 (by decide) (fun c_6 => ?_) (fun c_6 => ?_)
    · have hp := hp.1 c_6
      refine lv_iconst hx hb dX10_claim_23 kI_m1 ?_
      exact hR _ _ _ _ _ _ dX10_claim_24 hp hS
    · have hp := hp.2 c_6
      refine lv_iload_n hx hb dX10_claim_16 rfl (lv_at hl 3 rfl) ?_
      refine q_csI (As := [.int x3]) (rest := []) hC hS hl.1 (rX10_isYear hp) cwX10_283 ysX10_isYear rfl rfl (Nat.le_of_ble_eq_true rfl) (rmk (by decide) (by decide)) dX10_claim_17 (fun r_7 w_8 H locs hp hS => ?_)
      refine lv_if_ne (tgt := 25) hx hb dX10_claim_20 (by decide) (fun c_9 => ?_) (fun c_9 => ?_)
      · have hp := hp.1 c_9
        refine lv_aload_n hx hb dX10_claim_25 rfl (lv_at hl 0 rfl) ?_
        refine G_0_7 hC hS m46 dX10_claim_26 ?_
        refine lv_iconst hx hb dX10_claim_29 kI_1 ?_
        refine lv_iload_n hx hb dX10_claim_30 rfl (lv_at hl 1 rfl) ?_
        refine lv_iload_n hx hb dX10_claim_31 rfl (lv_at hl 2 rfl) ?_
        refine lv_iload_n hx hb dX10_claim_32 rfl (lv_at hl 3 rfl) ?_
        refine q_cvI (As := [.int (1 : Int32), .int x1, .int x2, .int x3]) (rest := []) hC hS hl.1 (rX3_add hp) cwX10_281 yvX3_add (rcv_70 hC hS) rfl rfl (Nat.le_of_ble_eq_true rfl) (rmk (by decide) (by decide)) dX10_claim_33 (fun r_10 w_11 H locs hp hS => ?_)
        exact hR _ _ _ _ _ _ dX10_claim_36 hp hS
      · have hp := hp.2 c_9
        refine lv_iconst hx hb dX10_claim_23 kI_m1 ?_
        exact hR _ _ _ _ _ _ dX10_claim_24 hp hS
def pX10_saw (post : Int32 → Wd → Prop) (x1 : Int32) (x2 : Int32) (x3 : Int32) (w : Wd) : Prop := pX10_isMark (fun r_1 w_2 => (r_1 = 0 → (post (-1 : Int32) w_2)) ∧ (¬ r_1 = 0 → (pX10_isYear (fun r_4 w_5 => (r_4 = 0 → (post (-1 : Int32) w_5)) ∧ (¬ r_4 = 0 → ((x3 = 0 → (pX3_add (fun r_8 w_9 => post r_8 w_9) (2 : Int32) x1 x2 (0 : Int32) w_5)) ∧ (¬ x3 = 0 → (pX3_add (fun r_10 w_11 => post r_10 w_11) (2 : Int32) x1 x2 (1 : Int32) w_5))))) x2 w_2))) x1 w
set_option maxHeartbeats 4000000 in
set_option maxRecDepth 100000 in
theorem rX10_saw {l : Launch} {g : Gw} {w : Wd} {post : Int32 → Wd → Prop}   {x1 : Int32} {x2 : Int32} {x3 : Int32} (hp : pX10_saw post x1 x2 x3 w) : MtI tabX l yX10_saw cX10_saw 4 (some .int) 2 g w [.ref (g.2.2 0), .int x1, .int x2, .int x3] post := by
  refine q_entI tabX_nd (by decide) rfl (Nat.le_of_ble_eq_true rfl) ?_
  intro p e s m args below meth c A Q ls hC hR hS hl
  have hx := hC.1
  have hb := hC.2.1
  have hl : lv_has ls 4 [(0, .ref (g.2.2 0)), (1, .int x1), (2, .int x2), (3, .int x3)] := hl
  unfold pX10_saw at hp
  refine lv_aload_n hx hb dX10_saw_0 rfl (lv_at hl 0 rfl) ?_
  refine lv_iload_n hx hb dX10_saw_1 rfl (lv_at hl 1 rfl) ?_
  refine q_cvI (As := [.int x1]) (rest := []) hC hS hl.1 (rX10_isMark hp) cwX10_286 yvX10_isMark (rcv_0 hC hS) rfl rfl (Nat.le_of_ble_eq_true rfl) (rmk (by decide) (by decide)) dX10_saw_2 (fun r_1 w_2 H locs hp hS => ?_)
  refine lv_if_eq (tgt := 37) hx hb dX10_saw_5 (by decide) (fun c_3 => ?_) (fun c_3 => ?_)
  · have hp := hp.1 c_3
    refine lv_iconst hx hb dX10_saw_37 kI_m1 ?_
    exact hR _ _ _ _ _ _ dX10_saw_38 hp hS
  · have hp := hp.2 c_3
    refine lv_iload_n hx hb dX10_saw_8 rfl (lv_at hl 2 rfl) ?_
    refine q_csI (As := [.int x2]) (rest := []) hC hS hl.1 (rX10_isYear hp) cwX10_283 ysX10_isYear rfl rfl (Nat.le_of_ble_eq_true rfl) (rmk (by decide) (by decide)) dX10_saw_9 (fun r_4 w_5 H locs hp hS => ?_)
    refine lv_if_eq (tgt := 37) hx hb dX10_saw_12 (by decide) (fun c_6 => ?_) (fun c_6 => ?_)
    · have hp := hp.1 c_6
      refine lv_iconst hx hb dX10_saw_37 kI_m1 ?_
      exact hR _ _ _ _ _ _ dX10_saw_38 hp hS
    · have hp := hp.2 c_6
      refine lv_aload_n hx hb dX10_saw_15 rfl (lv_at hl 0 rfl) ?_
      refine G_0_7 hC hS m46 dX10_saw_16 ?_
      refine lv_iconst hx hb dX10_saw_19 kI_2 ?_
      refine lv_iload_n hx hb dX10_saw_20 rfl (lv_at hl 1 rfl) ?_
      refine lv_iload_n hx hb dX10_saw_21 rfl (lv_at hl 2 rfl) ?_
      refine lv_iload_n hx hb dX10_saw_22 rfl (lv_at hl 3 rfl) ?_
      refine lv_if_eq (tgt := 30) hx hb dX10_saw_23 (by decide) (fun c_7 => ?_) (fun c_7 => ?_)
      · have hp := hp.1 c_7
        refine lv_iconst hx hb dX10_saw_30 kI_0 ?_
        refine q_cvI (As := [.int (2 : Int32), .int x1, .int x2, .int (0 : Int32)]) (rest := []) hC hS hl.1 (rX3_add hp) cwX10_281 yvX3_add (rcv_70 hC hS) rfl rfl (Nat.le_of_ble_eq_true rfl) (rmk (by decide) (by decide)) dX10_saw_31 (fun r_8 w_9 H locs hp hS => ?_)
        refine lv_goto (tgt := 38) hx hb dX10_saw_34 (by decide) ?_
        exact hR _ _ _ _ _ _ dX10_saw_38 hp hS
      · have hp := hp.2 c_7
        refine lv_iconst hx hb dX10_saw_26 kI_1 ?_
        refine lv_goto (tgt := 31) hx hb dX10_saw_27 (by decide) ?_
        refine q_cvI (As := [.int (2 : Int32), .int x1, .int x2, .int (1 : Int32)]) (rest := []) hC hS hl.1 (rX3_add hp) cwX10_281 yvX3_add (rcv_70 hC hS) rfl rfl (Nat.le_of_ble_eq_true rfl) (rmk (by decide) (by decide)) dX10_saw_31 (fun r_10 w_11 H locs hp hS => ?_)
        refine lv_goto (tgt := 38) hx hb dX10_saw_34 (by decide) ?_
        exact hR _ _ _ _ _ _ dX10_saw_38 hp hS
def pX10_isPaper (post : Int32 → Wd → Prop) (x0 : Int32) (w : Wd) : Prop := (x0 < 0 → (post (0 : Int32) w)) ∧ (¬ x0 < 0 → (((8 : Int32) ≤ x0 → (post (0 : Int32) w)) ∧ (¬ (8 : Int32) ≤ x0 → (post (1 : Int32) w))))
set_option maxHeartbeats 4000000 in
set_option maxRecDepth 100000 in
theorem rX10_isPaper {l : Launch} {g : Gw} {w : Wd} {post : Int32 → Wd → Prop}   {x0 : Int32} (hp : pX10_isPaper post x0 w) : MtI tabX l yX10_isPaper cX10_isPaper 1 (some .boolean) 1 g w [.int x0] post := by
  refine q_entZ tabX_nd (by decide) rfl (Nat.le_of_ble_eq_true rfl) ?_
  intro p e s m args below meth c A Q ls hC hR hS hl
  have hx := hC.1
  have hb := hC.2.1
  have hl : lv_has ls 1 [(0, .int x0)] := hl
  unfold pX10_isPaper at hp
  refine lv_iload_n hx hb dX10_isPaper_0 rfl (lv_at hl 0 rfl) ?_
  refine lv_if_lt (tgt := 14) hx hb dX10_isPaper_1 (by decide) (fun c_1 => ?_) (fun c_1 => ?_)
  · have hp := hp.1 c_1
    refine lv_iconst hx hb dX10_isPaper_14 kI_0 ?_
    exact hR _ _ _ _ _ _ dX10_isPaper_15 (by decide) hp hS
  · have hp := hp.2 c_1
    refine lv_iload_n hx hb dX10_isPaper_4 rfl (lv_at hl 0 rfl) ?_
    refine lv_bipush hx hb dX10_isPaper_5 kB_8 ?_
    refine lv_icmp_ge (tgt := 14) hx hb dX10_isPaper_7 (by decide) (fun c_2 => ?_) (fun c_2 => ?_)
    · have hp := hp.1 c_2
      refine lv_iconst hx hb dX10_isPaper_14 kI_0 ?_
      exact hR _ _ _ _ _ _ dX10_isPaper_15 (by decide) hp hS
    · have hp := hp.2 c_2
      refine lv_iconst hx hb dX10_isPaper_10 kI_1 ?_
      refine lv_goto (tgt := 15) hx hb dX10_isPaper_11 (by decide) ?_
      exact hR _ _ _ _ _ _ dX10_isPaper_15 (by decide) hp hS
def pX10_link (post : Int32 → Wd → Prop) (x1 : Int32) (x2 : Int32) (x3 : Int32) (w : Wd) : Prop := pX10_isPaper (fun r_1 w_2 => (r_1 = 0 → (post (-1 : Int32) w_2)) ∧ (¬ r_1 = 0 → (pX10_isPaper (fun r_4 w_5 => (r_4 = 0 → (post (-1 : Int32) w_5)) ∧ (¬ r_4 = 0 → ((¬ x1 = x2 → ((x3 = 0 → (pX3_add (fun r_9 w_10 => post r_9 w_10) (3 : Int32) x1 x2 (0 : Int32) w_5)) ∧ (¬ x3 = 0 → (pX3_add (fun r_11 w_12 => post r_11 w_12) (3 : Int32) x1 x2 (1 : Int32) w_5)))) ∧ (x1 = x2 → (post (-1 : Int32) w_5))))) x2 w_2))) x1 w
set_option maxHeartbeats 4000000 in
set_option maxRecDepth 100000 in
theorem rX10_link {l : Launch} {g : Gw} {w : Wd} {post : Int32 → Wd → Prop}   {x1 : Int32} {x2 : Int32} {x3 : Int32} (hp : pX10_link post x1 x2 x3 w) : MtI tabX l yX10_link cX10_link 4 (some .int) 2 g w [.ref (g.2.2 0), .int x1, .int x2, .int x3] post := by
  refine q_entI tabX_nd (by decide) rfl (Nat.le_of_ble_eq_true rfl) ?_
  intro p e s m args below meth c A Q ls hC hR hS hl
  have hx := hC.1
  have hb := hC.2.1
  have hl : lv_has ls 4 [(0, .ref (g.2.2 0)), (1, .int x1), (2, .int x2), (3, .int x3)] := hl
  unfold pX10_link at hp
  refine lv_iload_n hx hb dX10_link_0 rfl (lv_at hl 1 rfl) ?_
  refine q_csI (As := [.int x1]) (rest := []) hC hS hl.1 (rX10_isPaper hp) cwX10_289 ysX10_isPaper rfl rfl (Nat.le_of_ble_eq_true rfl) (rmk (by decide) (by decide)) dX10_link_1 (fun r_1 w_2 H locs hp hS => ?_)
  refine lv_if_eq (tgt := 19) hx hb dX10_link_4 (by decide) (fun c_3 => ?_) (fun c_3 => ?_)
  · have hp := hp.1 c_3
    refine lv_iconst hx hb dX10_link_19 kI_m1 ?_
    exact hR _ _ _ _ _ _ dX10_link_20 hp hS
  · have hp := hp.2 c_3
    refine lv_iload_n hx hb dX10_link_7 rfl (lv_at hl 2 rfl) ?_
    refine q_csI (As := [.int x2]) (rest := []) hC hS hl.1 (rX10_isPaper hp) cwX10_289 ysX10_isPaper rfl rfl (Nat.le_of_ble_eq_true rfl) (rmk (by decide) (by decide)) dX10_link_8 (fun r_4 w_5 H locs hp hS => ?_)
    refine lv_if_eq (tgt := 19) hx hb dX10_link_11 (by decide) (fun c_6 => ?_) (fun c_6 => ?_)
    · have hp := hp.1 c_6
      refine lv_iconst hx hb dX10_link_19 kI_m1 ?_
      exact hR _ _ _ _ _ _ dX10_link_20 hp hS
    · have hp := hp.2 c_6
      refine lv_iload_n hx hb dX10_link_14 rfl (lv_at hl 1 rfl) ?_
      refine lv_iload_n hx hb dX10_link_15 rfl (lv_at hl 2 rfl) ?_
      refine lv_icmp_ne (tgt := 21) hx hb dX10_link_16 (by decide) (fun c_7 => ?_) (fun c_7 => ?_)
      · have hp := hp.1 c_7
        refine lv_aload_n hx hb dX10_link_21 rfl (lv_at hl 0 rfl) ?_
        refine G_0_7 hC hS m46 dX10_link_22 ?_
        refine lv_iconst hx hb dX10_link_25 kI_3 ?_
        refine lv_iload_n hx hb dX10_link_26 rfl (lv_at hl 1 rfl) ?_
        refine lv_iload_n hx hb dX10_link_27 rfl (lv_at hl 2 rfl) ?_
        refine lv_iload_n hx hb dX10_link_28 rfl (lv_at hl 3 rfl) ?_
        refine lv_if_eq (tgt := 36) hx hb dX10_link_29 (by decide) (fun c_8 => ?_) (fun c_8 => ?_)
        · have hp := hp.1 c_8
          refine lv_iconst hx hb dX10_link_36 kI_0 ?_
          refine q_cvI (As := [.int (3 : Int32), .int x1, .int x2, .int (0 : Int32)]) (rest := []) hC hS hl.1 (rX3_add hp) cwX10_281 yvX3_add (rcv_70 hC hS) rfl rfl (Nat.le_of_ble_eq_true rfl) (rmk (by decide) (by decide)) dX10_link_37 (fun r_9 w_10 H locs hp hS => ?_)
          exact hR _ _ _ _ _ _ dX10_link_40 hp hS
        · have hp := hp.2 c_8
          refine lv_iconst hx hb dX10_link_32 kI_1 ?_
          refine lv_goto (tgt := 37) hx hb dX10_link_33 (by decide) ?_
          refine q_cvI (As := [.int (3 : Int32), .int x1, .int x2, .int (1 : Int32)]) (rest := []) hC hS hl.1 (rX3_add hp) cwX10_281 yvX3_add (rcv_70 hC hS) rfl rfl (Nat.le_of_ble_eq_true rfl) (rmk (by decide) (by decide)) dX10_link_37 (fun r_11 w_12 H locs hp hS => ?_)
          exact hR _ _ _ _ _ _ dX10_link_40 hp hS
      · have hp := hp.2 c_7
        refine lv_iconst hx hb dX10_link_19 kI_m1 ?_
        exact hR _ _ _ _ _ _ dX10_link_20 hp hS
def pX10_untell (post : Int32 → Wd → Prop) (x1 : Int32) (w : Wd) : Prop := (x1 < 0 → (post (0 : Int32) w)) ∧ (¬ x1 < 0 → (((w.1 70 0) ≤ x1 → (post (0 : Int32) w)) ∧ (¬ (w.1 70 0) ≤ x1 → (vp_in x1 40 ∧ ((w.2.1 78 x1.toNatClampNeg) = (-1 : Int32) → (vp_in x1 40 ∧ ∀ w_4, w_4 = sA w 78 x1.toNatClampNeg (w.1 70 1) → post (1 : Int32) w_4)) ∧ (¬ (w.2.1 78 x1.toNatClampNeg) = (-1 : Int32) → (post (0 : Int32) w))))))
set_option maxHeartbeats 4000000 in
set_option maxRecDepth 100000 in
theorem rX10_untell {l : Launch} {g : Gw} {w : Wd} {post : Int32 → Wd → Prop}   {x1 : Int32} (hp : pX10_untell post x1 w) : MtI tabX l yX10_untell cX10_untell 2 (some .boolean) 1 g w [.ref (g.2.2 0), .int x1] post := by
  refine q_entZ tabX_nd (by decide) rfl (Nat.le_of_ble_eq_true rfl) ?_
  intro p e s m args below meth c A Q ls hC hR hS hl
  have hx := hC.1
  have hb := hC.2.1
  have hl : lv_has ls 2 [(0, .ref (g.2.2 0)), (1, .int x1)] := hl
  unfold pX10_untell at hp
  refine lv_iload_n hx hb dX10_untell_0 rfl (lv_at hl 1 rfl) ?_
  refine lv_if_lt (tgt := 28) hx hb dX10_untell_1 (by decide) (fun c_1 => ?_) (fun c_1 => ?_)
  · have hp := hp.1 c_1
    refine lv_iconst hx hb dX10_untell_28 kI_0 ?_
    exact hR _ _ _ _ _ _ dX10_untell_29 (by decide) hp hS
  · have hp := hp.2 c_1
    refine lv_iload_n hx hb dX10_untell_4 rfl (lv_at hl 1 rfl) ?_
    refine lv_aload_n hx hb dX10_untell_5 rfl (lv_at hl 0 rfl) ?_
    refine G_0_7 hC hS m46 dX10_untell_6 ?_
    refine G_70_0 hC hS m223 dX10_untell_9 ?_
    refine lv_icmp_ge (tgt := 28) hx hb dX10_untell_12 (by decide) (fun c_2 => ?_) (fun c_2 => ?_)
    · have hp := hp.1 c_2
      refine lv_iconst hx hb dX10_untell_28 kI_0 ?_
      exact hR _ _ _ _ _ _ dX10_untell_29 (by decide) hp hS
    · have hp := hp.2 c_2
      refine lv_aload_n hx hb dX10_untell_15 rfl (lv_at hl 0 rfl) ?_
      refine G_0_7 hC hS m46 dX10_untell_16 ?_
      refine G_70_7 hC hS m1212 dX10_untell_19 ?_
      refine lv_iload_n hx hb dX10_untell_22 rfl (lv_at hl 1 rfl) ?_
      refine La_78 hC hS hp.1 dX10_untell_23 ?_
      have hp := hp.2
      refine lv_iconst hx hb dX10_untell_24 kI_m1 ?_
      refine lv_icmp_eq (tgt := 30) hx hb dX10_untell_25 (by decide) (fun c_3 => ?_) (fun c_3 => ?_)
      · have hp := hp.1 c_3
        refine lv_aload_n hx hb dX10_untell_30 rfl (lv_at hl 0 rfl) ?_
        refine G_0_7 hC hS m46 dX10_untell_31 ?_
        refine G_70_7 hC hS m1212 dX10_untell_34 ?_
        refine lv_iload_n hx hb dX10_untell_37 rfl (lv_at hl 1 rfl) ?_
        refine lv_aload_n hx hb dX10_untell_38 rfl (lv_at hl 0 rfl) ?_
        refine G_0_7 hC hS m46 dX10_untell_39 ?_
        refine G_70_1 hC hS m1213 dX10_untell_42 ?_
        refine Sa_78 hC hS hp.1 dX10_untell_45 (fun w_4 H locs ew_4 hS => ?_)
        have hp := hp.2
        have hp := hp w_4 ew_4
        refine lv_iconst hx hb dX10_untell_46 kI_1 ?_
        exact hR _ _ _ _ _ _ dX10_untell_47 (by decide) hp hS
      · have hp := hp.2 c_3
        refine lv_iconst hx hb dX10_untell_28 kI_0 ?_
        exact hR _ _ _ _ _ _ dX10_untell_29 (by decide) hp hS
def pX10_later (post : Int32 → Wd → Prop) (x1 : Int32) (w : Wd) : Prop := (x1 < 0 → (post (-1 : Int32) w)) ∧ (¬ x1 < 0 → (((1000 : Int32) < x1 → (post (-1 : Int32) w)) ∧ (¬ (1000 : Int32) < x1 → ((((w.1 70 1) + x1) ≤ (100000 : Int32) → (∀ w_4, w_4 = sI w 70 1 ((w.1 70 1) + x1) → post (w_4.1 70 1) w_4)) ∧ (¬ ((w.1 70 1) + x1) ≤ (100000 : Int32) → (post (-1 : Int32) w))))))
set_option maxHeartbeats 4000000 in
set_option maxRecDepth 100000 in
theorem rX10_later {l : Launch} {g : Gw} {w : Wd} {post : Int32 → Wd → Prop}   {x1 : Int32} (hp : pX10_later post x1 w) : MtI tabX l yX10_later cX10_later 2 (some .int) 1 g w [.ref (g.2.2 0), .int x1] post := by
  refine q_entI tabX_nd (by decide) rfl (Nat.le_of_ble_eq_true rfl) ?_
  intro p e s m args below meth c A Q ls hC hR hS hl
  have hx := hC.1
  have hb := hC.2.1
  have hl : lv_has ls 2 [(0, .ref (g.2.2 0)), (1, .int x1)] := hl
  unfold pX10_later at hp
  refine lv_iload_n hx hb dX10_later_0 rfl (lv_at hl 1 rfl) ?_
  refine lv_if_lt (tgt := 26) hx hb dX10_later_1 (by decide) (fun c_1 => ?_) (fun c_1 => ?_)
  · have hp := hp.1 c_1
    refine lv_iconst hx hb dX10_later_26 kI_m1 ?_
    exact hR _ _ _ _ _ _ dX10_later_27 hp hS
  · have hp := hp.2 c_1
    refine lv_iload_n hx hb dX10_later_4 rfl (lv_at hl 1 rfl) ?_
    refine lv_sipush hx hb dX10_later_5 kS_1000 ?_
    refine lv_icmp_gt (tgt := 26) hx hb dX10_later_8 (by decide) (fun c_2 => ?_) (fun c_2 => ?_)
    · have hp := hp.1 c_2
      refine lv_iconst hx hb dX10_later_26 kI_m1 ?_
      exact hR _ _ _ _ _ _ dX10_later_27 hp hS
    · have hp := hp.2 c_2
      refine lv_aload_n hx hb dX10_later_11 rfl (lv_at hl 0 rfl) ?_
      refine G_0_7 hC hS m46 dX10_later_12 ?_
      refine G_70_1 hC hS m1213 dX10_later_15 ?_
      refine lv_iload_n hx hb dX10_later_18 rfl (lv_at hl 1 rfl) ?_
      refine lv_iadd hx hb dX10_later_19 ?_
      refine lv_ldcw hx hb hC.2.2.2.1 (hC.2.2.2.2.1 _ m1222) dX10_later_20 ?_
      refine lv_icmp_le (tgt := 28) hx hb dX10_later_23 (by decide) (fun c_3 => ?_) (fun c_3 => ?_)
      · have hp := hp.1 c_3
        refine lv_aload_n hx hb dX10_later_28 rfl (lv_at hl 0 rfl) ?_
        refine G_0_7 hC hS m46 dX10_later_29 ?_
        refine lv_dup hx hb dX10_later_32 rfl ?_
        refine G_70_1 hC hS m1213 dX10_later_33 ?_
        refine lv_iload_n hx hb dX10_later_36 rfl (lv_at hl 1 rfl) ?_
        refine lv_iadd hx hb dX10_later_37 ?_
        refine P_70_1 hC hS m1213 dX10_later_38 (fun w_4 H locs ew_4 hS => ?_)
        have hp := hp w_4 ew_4
        refine lv_aload_n hx hb dX10_later_41 rfl (lv_at hl 0 rfl) ?_
        refine G_0_7 hC hS m46 dX10_later_42 ?_
        refine G_70_1 hC hS m1213 dX10_later_45 ?_
        exact hR _ _ _ _ _ _ dX10_later_48 hp hS
      · have hp := hp.2 c_3
        refine lv_iconst hx hb dX10_later_26 kI_m1 ?_
        exact hR _ _ _ _ _ _ dX10_later_27 hp hS
def pX5_gather_84 (k72 : Int32 → Int32 → Wd → Prop) (post : Wd → Prop) : Nat → Int32 → Int32 → Int32 → Wd → Prop
  | 0, _, _, _, _ => False
  | n + 1, x3, x4, x5, w => ((w.1 90 0) ≤ x5 → (∀ x4_2, x4_2 = x4 + (1 : Int32) → k72 x3 x4_2 w)) ∧ (¬ (w.1 90 0) ≤ x5 → (vp_in x4 7 ∧ vp_in x5 7 ∧ False))
def pX5_gather_72 (post : Wd → Prop) : Nat → Int32 → Int32 → Wd → Prop
  | 0, _, _, _ => False
  | n + 1, x3, x4, w => ((w.1 90 0) ≤ x4 → (post w)) ∧ (¬ (w.1 90 0) ≤ x4 → (∃ n9, pX5_gather_84 (pX5_gather_72 post n) post n9 x3 x4 (0 : Int32) w))
def pX5_gather_69 (post : Wd → Prop) (x3 : Int32) (w : Wd) : Prop := ∃ n9, pX5_gather_72 post n9 x3 (0 : Int32) w
def pX5_gather_63 (k8 : Int32 → Int32 → Int32 → Wd → Prop) (post : Wd → Prop) (x2 : Int32) (x3 : Int32) (x4 : Int32) (w : Wd) : Prop := ∀ x4_1, x4_1 = x4 + (1 : Int32) → k8 x2 x3 x4_1 w
def pX5_gather_8 (post : Wd → Prop) : Nat → Int32 → Int32 → Int32 → Wd → Prop
  | 0, _, _, _, _ => False
  | n + 1, x2, x3, x4, w => ((w.1 70 0) ≤ x4 → (pX5_gather_69 post x3 w)) ∧ (¬ (w.1 70 0) ≤ x4 → (((7 : Int32) ≤ (w.1 90 0) → (pX5_gather_69 post x3 w)) ∧ (¬ (7 : Int32) ≤ (w.1 90 0) → (False))))
def pX5_gather (post : Wd → Prop) (x2 : Int32) (x3 : Int32) (w : Wd) : Prop := ∀ w_1, w_1 = sI w 90 0 (0 : Int32) → ∃ n9, pX5_gather_8 post n9 x2 x3 (0 : Int32) w_1
set_option maxHeartbeats 4000000 in
set_option maxRecDepth 100000 in
theorem bX5_gather_84 {p : Program} {l : Launch} {e : Env} {s : State} {m : MethodId} {args : Array Value} {below : List Frame} {meth : Method} {c : Code} {Q : State → Prop} {A : Nat → Prop} {g : Gw} {post : Wd → Prop}  (hC : Cx p s m args c cX5_gather RX5 6 g) (hR : RtV tabX p l e (rk 1) s m args below meth c Q cX5_gather A g post)  {k72 : Int32 → Int32 → Wd → Prop} (hk72 : ∀ (x3 : Int32) (x4 : Int32) (w : Wd) (H : Heap) (locs : List Loc) (ls : Array Slot), k72 x3 x4 w → St tabX A s.heap g w H locs → lv_has ls 6 [(0, .ref (g.2.2 90)), (1, .ref (g.2.2 70)), (3, .int x3), (4, .int x4)] → W p l e (rk 1) s m args below meth c H locs 0 0 Q (F0 m 72 ls [])) : ∀ (n : Nat) (x3 : Int32) (x4 : Int32) (x5 : Int32) (w : Wd) (H : Heap) (locs : List Loc) (ls : Array Slot), pX5_gather_84 k72 post n x3 x4 x5 w → St tabX A s.heap g w H locs → lv_has ls 6 [(0, .ref (g.2.2 90)), (1, .ref (g.2.2 70)), (3, .int x3), (4, .int x4), (5, .int x5)] → W p l e (rk 1) s m args below meth c H locs 0 0 Q (F0 m 84 ls []) := by
  have hx := hC.1
  have hb := hC.2.1
  intro n
  induction n with
  | zero =>
    intro x3 x4 x5 w H locs ls hp hS hl
    exact False.elim hp
  | succ n ih =>
    intro x3 x4 x5 w H locs ls hp hS hl
    unfold pX5_gather_84 at hp
    refine lv_iload hx hb dX5_gather_84 (lv_at hl 4 rfl) ?_
    refine lv_aload_n hx hb dX5_gather_86 rfl (lv_at hl 0 rfl) ?_
    refine G_90_0 hC hS m1240 dX5_gather_87 ?_
    refine lv_icmp_ge (tgt := 130) hx hb dX5_gather_90 (by decide) (fun c_1 => ?_) (fun c_1 => ?_)
    · have hp := hp.1 c_1
      obtain ⟨x4_2, ex4_2⟩ : ∃ y : Int32, y = x4 + (1 : Int32) := ⟨_, rfl⟩
      have hp := hp x4_2 ex4_2
      refine lv_iinc (v := x4_2) (lv' := [(4, .int x4_2), (0, .ref (g.2.2 90)), (1, .ref (g.2.2 70)), (3, .int x3), (5, .int x5)]) hx hb dX5_gather_130 hl (k := 3) rfl (by rw [ex4_2]; rfl) (by decide) rfl (fun ls hl => ?_)
      refine lv_goto (tgt := 72) hx hb dX5_gather_133 (by decide) ?_
      exact hk72 x3 x4_2 w _ _ _ hp hS (lv_sub hl [1, 2, 3, 0] rfl)
    · have hp := hp.2 c_1
      refine lv_aload_n hx hb dX5_gather_93 rfl (lv_at hl 0 rfl) ?_
      refine G_90_5 hC hS m209 dX5_gather_94 ?_
      refine lv_iload hx hb dX5_gather_97 (lv_at hl 3 rfl) ?_
      refine lv_bipush hx hb dX5_gather_99 kB_7 ?_
      refine lv_imul hx hb dX5_gather_101 ?_
      refine lv_iload hx hb dX5_gather_102 (lv_at hl 4 rfl) ?_
      refine lv_iadd hx hb dX5_gather_104 ?_
      refine lv_aload_n hx hb dX5_gather_105 rfl (lv_at hl 0 rfl) ?_
      refine G_90_4 hC hS m208 dX5_gather_106 ?_
      refine lv_iload hx hb dX5_gather_109 (lv_at hl 3 rfl) ?_
      refine La_95 hC hS hp.1 dX5_gather_111 ?_
      have hp := hp.2
      refine lv_aload_n hx hb dX5_gather_112 rfl (lv_at hl 0 rfl) ?_
      refine G_90_4 hC hS m208 dX5_gather_113 ?_
      refine lv_iload hx hb dX5_gather_116 (lv_at hl 4 rfl) ?_
      refine La_95 hC hS hp.1 dX5_gather_118 ?_
      have hp := hp.2
      refine lv_iload_n hx hb dX5_gather_119 rfl (lv_at hl 2 rfl) ?_
      exact False.elim hp
set_option maxHeartbeats 4000000 in
set_option maxRecDepth 100000 in
theorem bX5_gather_72 {p : Program} {l : Launch} {e : Env} {s : State} {m : MethodId} {args : Array Value} {below : List Frame} {meth : Method} {c : Code} {Q : State → Prop} {A : Nat → Prop} {g : Gw} {post : Wd → Prop}  (hC : Cx p s m args c cX5_gather RX5 6 g) (hR : RtV tabX p l e (rk 1) s m args below meth c Q cX5_gather A g post)  : ∀ (n : Nat) (x3 : Int32) (x4 : Int32) (w : Wd) (H : Heap) (locs : List Loc) (ls : Array Slot), pX5_gather_72 post n x3 x4 w → St tabX A s.heap g w H locs → lv_has ls 6 [(0, .ref (g.2.2 90)), (1, .ref (g.2.2 70)), (3, .int x3), (4, .int x4)] → W p l e (rk 1) s m args below meth c H locs 0 0 Q (F0 m 72 ls []) := by
  have hx := hC.1
  have hb := hC.2.1
  intro n
  induction n with
  | zero =>
    intro x3 x4 w H locs ls hp hS hl
    exact False.elim hp
  | succ n ih =>
    intro x3 x4 w H locs ls hp hS hl
    unfold pX5_gather_72 at hp
    refine lv_iload hx hb dX5_gather_72 (lv_at hl 3 rfl) ?_
    refine lv_aload_n hx hb dX5_gather_74 rfl (lv_at hl 0 rfl) ?_
    refine G_90_0 hC hS m1240 dX5_gather_75 ?_
    refine lv_icmp_ge (tgt := 136) hx hb dX5_gather_78 (by decide) (fun c_1 => ?_) (fun c_1 => ?_)
    · have hp := hp.1 c_1
      exact hR _ _ _ _ _ dX5_gather_136 hp hS
    · have hp := hp.2 c_1
      refine lv_iconst hx hb dX5_gather_81 kI_0 ?_
      refine lv_istore (lv' := [(5, .int (0 : Int32)), (0, .ref (g.2.2 90)), (1, .ref (g.2.2 70)), (3, .int x3), (4, .int x4)]) hx hb dX5_gather_82 hl (by decide) rfl (fun ls hl => ?_)
      obtain ⟨n9, hp⟩ := hp
      exact bX5_gather_84 hC hR ih n9 x3 x4 (0 : Int32) w _ _ _ hp hS (lv_sub hl [1, 2, 3, 4, 0] rfl)
set_option maxHeartbeats 4000000 in
set_option maxRecDepth 100000 in
theorem bX5_gather_69 {p : Program} {l : Launch} {e : Env} {s : State} {m : MethodId} {args : Array Value} {below : List Frame} {meth : Method} {c : Code} {Q : State → Prop} {A : Nat → Prop} {g : Gw} {post : Wd → Prop}  (hC : Cx p s m args c cX5_gather RX5 6 g) (hR : RtV tabX p l e (rk 1) s m args below meth c Q cX5_gather A g post)  : ∀ (x3 : Int32) (w : Wd) (H : Heap) (locs : List Loc) (ls : Array Slot), pX5_gather_69 post x3 w → St tabX A s.heap g w H locs → lv_has ls 6 [(0, .ref (g.2.2 90)), (1, .ref (g.2.2 70)), (3, .int x3)] → W p l e (rk 1) s m args below meth c H locs 0 0 Q (F0 m 69 ls []) := by
  have hx := hC.1
  have hb := hC.2.1
  intro x3 w H locs ls hp hS hl
  unfold pX5_gather_69 at hp
  refine lv_iconst hx hb dX5_gather_69 kI_0 ?_
  refine lv_istore (lv' := [(4, .int (0 : Int32)), (0, .ref (g.2.2 90)), (1, .ref (g.2.2 70)), (3, .int x3)]) hx hb dX5_gather_70 hl (by decide) rfl (fun ls hl => ?_)
  obtain ⟨n9, hp⟩ := hp
  exact bX5_gather_72 hC hR n9 x3 (0 : Int32) w _ _ _ hp hS (lv_sub hl [1, 2, 3, 0] rfl)
set_option maxHeartbeats 4000000 in
set_option maxRecDepth 100000 in
theorem bX5_gather_63 {p : Program} {l : Launch} {e : Env} {s : State} {m : MethodId} {args : Array Value} {below : List Frame} {meth : Method} {c : Code} {Q : State → Prop} {A : Nat → Prop} {g : Gw} {post : Wd → Prop}  (hC : Cx p s m args c cX5_gather RX5 6 g) (hR : RtV tabX p l e (rk 1) s m args below meth c Q cX5_gather A g post)  {k8 : Int32 → Int32 → Int32 → Wd → Prop} (hk8 : ∀ (x2 : Int32) (x3 : Int32) (x4 : Int32) (w : Wd) (H : Heap) (locs : List Loc) (ls : Array Slot), k8 x2 x3 x4 w → St tabX A s.heap g w H locs → lv_has ls 6 [(0, .ref (g.2.2 90)), (1, .ref (g.2.2 70)), (2, .int x2), (3, .int x3), (4, .int x4)] → W p l e (rk 1) s m args below meth c H locs 0 0 Q (F0 m 8 ls [])) : ∀ (x2 : Int32) (x3 : Int32) (x4 : Int32) (w : Wd) (H : Heap) (locs : List Loc) (ls : Array Slot), pX5_gather_63 k8 post x2 x3 x4 w → St tabX A s.heap g w H locs → lv_has ls 6 [(0, .ref (g.2.2 90)), (1, .ref (g.2.2 70)), (2, .int x2), (3, .int x3), (4, .int x4)] → W p l e (rk 1) s m args below meth c H locs 0 0 Q (F0 m 63 ls []) := by
  have hx := hC.1
  have hb := hC.2.1
  intro x2 x3 x4 w H locs ls hp hS hl
  unfold pX5_gather_63 at hp
  obtain ⟨x4_1, ex4_1⟩ : ∃ y : Int32, y = x4 + (1 : Int32) := ⟨_, rfl⟩
  have hp := hp x4_1 ex4_1
  refine lv_iinc (v := x4_1) (lv' := [(4, .int x4_1), (0, .ref (g.2.2 90)), (1, .ref (g.2.2 70)), (2, .int x2), (3, .int x3)]) hx hb dX5_gather_63 hl (k := 4) rfl (by rw [ex4_1]; rfl) (by decide) rfl (fun ls hl => ?_)
  refine lv_goto (tgt := 8) hx hb dX5_gather_66 (by decide) ?_
  exact hk8 x2 x3 x4_1 w _ _ _ hp hS (lv_sub hl [1, 2, 3, 4, 0] rfl)
set_option maxHeartbeats 4000000 in
set_option maxRecDepth 100000 in
theorem bX5_gather_8 {p : Program} {l : Launch} {e : Env} {s : State} {m : MethodId} {args : Array Value} {below : List Frame} {meth : Method} {c : Code} {Q : State → Prop} {A : Nat → Prop} {g : Gw} {post : Wd → Prop}  (hC : Cx p s m args c cX5_gather RX5 6 g) (hR : RtV tabX p l e (rk 1) s m args below meth c Q cX5_gather A g post)  : ∀ (n : Nat) (x2 : Int32) (x3 : Int32) (x4 : Int32) (w : Wd) (H : Heap) (locs : List Loc) (ls : Array Slot), pX5_gather_8 post n x2 x3 x4 w → St tabX A s.heap g w H locs → lv_has ls 6 [(0, .ref (g.2.2 90)), (1, .ref (g.2.2 70)), (2, .int x2), (3, .int x3), (4, .int x4)] → W p l e (rk 1) s m args below meth c H locs 0 0 Q (F0 m 8 ls []) := by
  have hx := hC.1
  have hb := hC.2.1
  intro n
  induction n with
  | zero =>
    intro x2 x3 x4 w H locs ls hp hS hl
    exact False.elim hp
  | succ n ih =>
    intro x2 x3 x4 w H locs ls hp hS hl
    unfold pX5_gather_8 at hp
    refine lv_iload hx hb dX5_gather_8 (lv_at hl 4 rfl) ?_
    refine lv_aload_n hx hb dX5_gather_10 rfl (lv_at hl 1 rfl) ?_
    refine G_70_0 hC hS m1241 dX5_gather_11 ?_
    refine lv_icmp_ge (tgt := 69) hx hb dX5_gather_14 (by decide) (fun c_1 => ?_) (fun c_1 => ?_)
    · have hp := hp.1 c_1
      exact bX5_gather_69 hC hR x3 w _ _ _ hp hS (lv_sub hl [0, 1, 3] rfl)
    · have hp := hp.2 c_1
      refine lv_aload_n hx hb dX5_gather_17 rfl (lv_at hl 0 rfl) ?_
      refine G_90_0 hC hS m1240 dX5_gather_18 ?_
      refine lv_bipush hx hb dX5_gather_21 kB_7 ?_
      refine lv_icmp_ge (tgt := 69) hx hb dX5_gather_23 (by decide) (fun c_2 => ?_) (fun c_2 => ?_)
      · have hp := hp.1 c_2
        exact bX5_gather_69 hC hR x3 w _ _ _ hp hS (lv_sub hl [0, 1, 3] rfl)
      · have hp := hp.2 c_2
        refine lv_aload_n hx hb dX5_gather_26 rfl (lv_at hl 1 rfl) ?_
        refine lv_iload hx hb dX5_gather_27 (lv_at hl 4 rfl) ?_
        refine lv_iconst hx hb dX5_gather_29 kI_0 ?_
        refine lv_iload_n hx hb dX5_gather_30 rfl (lv_at hl 2 rfl) ?_
        exact False.elim hp
set_option maxHeartbeats 4000000 in
set_option maxRecDepth 100000 in
theorem rX5_gather {l : Launch} {g : Gw} {w : Wd} {post : Wd → Prop}   {x2 : Int32} {x3 : Int32} (hp : pX5_gather post x2 x3 w) : MtV tabX l yX5_gather cX5_gather 6 none 1 g w [.ref (g.2.2 90), .ref (g.2.2 70), .int x2, .int x3] post := by
  refine q_entV tabX_nd (by decide) rfl (Nat.le_of_ble_eq_true rfl) ?_
  intro p e s m args below meth c A Q ls hC hR hS hl
  have hx := hC.1
  have hb := hC.2.1
  have hl : lv_has ls 6 [(0, .ref (g.2.2 90)), (1, .ref (g.2.2 70)), (2, .int x2), (3, .int x3)] := hl
  unfold pX5_gather at hp
  refine lv_aload_n hx hb dX5_gather_0 rfl (lv_at hl 0 rfl) ?_
  refine lv_iconst hx hb dX5_gather_1 kI_0 ?_
  refine P_90_0 hC hS m1240 dX5_gather_2 (fun w_1 H locs ew_1 hS => ?_)
  have hp := hp w_1 ew_1
  refine lv_iconst hx hb dX5_gather_5 kI_0 ?_
  refine lv_istore (lv' := [(4, .int (0 : Int32)), (0, .ref (g.2.2 90)), (1, .ref (g.2.2 70)), (2, .int x2), (3, .int x3)]) hx hb dX5_gather_6 hl (by decide) rfl (fun ls hl => ?_)
  obtain ⟨n9, hp⟩ := hp
  exact bX5_gather_8 hC hR n9 x2 x3 (0 : Int32) w_1 _ _ _ hp hS (lv_sub hl [1, 2, 3, 4, 0] rfl)
def pX10_tree_64 (post : Int32 → Wd → Prop) : Nat → Int32 → Int32 → Wd → Prop
  | 0, _, _, _ => False
  | n + 1, x2, x4, w => ((w.1 90 0) ≤ x4 → ((¬ x2 = 0 → (post (w.1 90 2) w)) ∧ (x2 = 0 → (post (w.1 90 1) w)))) ∧ (¬ (w.1 90 0) ≤ x4 → (vp_in x4 7 ∧ pX4_lay (fun w_3 => ∀ x4_4, x4_4 = x4 + (1 : Int32) → pX10_tree_64 post n x2 x4_4 w_3) (w.2.1 94 x4.toNatClampNeg) w))
def pX10_tree (post : Int32 → Wd → Prop) (x1 : Int32) (x2 : Int32) (x3 : Int32) (w : Wd) : Prop := ∀ w_1, w_1 = sI w 110 1 (0 : Int32) → pX5_gather (fun w_2 => (x1 < 0 → (post (-1 : Int32) w_2)) ∧ (¬ x1 < 0 → (((w_2.1 90 0) ≤ x1 → (post (-1 : Int32) w_2)) ∧ (¬ (w_2.1 90 0) ≤ x1 → ((x2 < 0 → (post (-1 : Int32) w_2)) ∧ (¬ x2 < 0 → ((x2 ≤ (1 : Int32) → (False)) ∧ (¬ x2 ≤ (1 : Int32) → (post (-1 : Int32) w_2))))))))) x3 (w_1.1 (rl (w_1.2.2.2.2 0)) 0) w_1
set_option maxHeartbeats 4000000 in
set_option maxRecDepth 100000 in
theorem bX10_tree_64 {p : Program} {l : Launch} {e : Env} {s : State} {m : MethodId} {args : Array Value} {below : List Frame} {meth : Method} {c : Code} {Q : State → Prop} {A : Nat → Prop} {g : Gw} {post : Int32 → Wd → Prop}  (hC : Cx p s m args c cX10_tree RX10 5 g) (hR : RtI tabX p l e (rk 2) s m args below meth c Q cX10_tree A g post)  : ∀ (n : Nat) (x2 : Int32) (x4 : Int32) (w : Wd) (H : Heap) (locs : List Loc) (ls : Array Slot), pX10_tree_64 post n x2 x4 w → St tabX A s.heap g w H locs → lv_has ls 5 [(0, .ref (g.2.2 0)), (2, .int x2), (4, .int x4)] → W p l e (rk 2) s m args below meth c H locs 0 0 Q (F0 m 64 ls []) := by
  have hx := hC.1
  have hb := hC.2.1
  intro n
  induction n with
  | zero =>
    intro x2 x4 w H locs ls hp hS hl
    exact False.elim hp
  | succ n ih =>
    intro x2 x4 w H locs ls hp hS hl
    unfold pX10_tree_64 at hp
    refine lv_iload hx hb dX10_tree_64 (lv_at hl 2 rfl) ?_
    refine lv_aload_n hx hb dX10_tree_66 rfl (lv_at hl 0 rfl) ?_
    refine G_0_8 hC hS m50 dX10_tree_67 ?_
    refine G_90_0 hC hS m1232 dX10_tree_70 ?_
    refine lv_icmp_ge (tgt := 99) hx hb dX10_tree_73 (by decide) (fun c_1 => ?_) (fun c_1 => ?_)
    · have hp := hp.1 c_1
      refine lv_iload_n hx hb dX10_tree_99 rfl (lv_at hl 1 rfl) ?_
      refine lv_if_ne (tgt := 113) hx hb dX10_tree_100 (by decide) (fun c_2 => ?_) (fun c_2 => ?_)
      · have hp := hp.1 c_2
        refine lv_aload_n hx hb dX10_tree_113 rfl (lv_at hl 0 rfl) ?_
        refine G_0_8 hC hS m50 dX10_tree_114 ?_
        refine G_90_2 hC hS m1235 dX10_tree_117 ?_
        exact hR _ _ _ _ _ _ dX10_tree_120 hp hS
      · have hp := hp.2 c_2
        refine lv_aload_n hx hb dX10_tree_103 rfl (lv_at hl 0 rfl) ?_
        refine G_0_8 hC hS m50 dX10_tree_104 ?_
        refine G_90_1 hC hS m1234 dX10_tree_107 ?_
        refine lv_goto (tgt := 120) hx hb dX10_tree_110 (by decide) ?_
        exact hR _ _ _ _ _ _ dX10_tree_120 hp hS
    · have hp := hp.2 c_1
      refine lv_aload_n hx hb dX10_tree_76 rfl (lv_at hl 0 rfl) ?_
      refine G_0_9 hC hS m54 dX10_tree_77 ?_
      refine lv_aload_n hx hb dX10_tree_80 rfl (lv_at hl 0 rfl) ?_
      refine G_0_8 hC hS m50 dX10_tree_81 ?_
      refine G_90_3 hC hS m1233 dX10_tree_84 ?_
      refine lv_iload hx hb dX10_tree_87 (lv_at hl 2 rfl) ?_
      refine La_94 hC hS hp.1 dX10_tree_89 ?_
      have hp := hp.2
      refine q_cvV (As := [.int (w.2.1 94 x4.toNatClampNeg)]) (rest := []) hC hS hl.1 (rX4_lay hp) cwX10_263 yvX4_lay (rcv_110 hC hS) rfl rfl (Nat.le_of_ble_eq_true rfl) (rmk (by decide) (by decide)) dX10_tree_90 (fun w_3 H locs hp hS => ?_)
      obtain ⟨x4_4, ex4_4⟩ : ∃ y : Int32, y = x4 + (1 : Int32) := ⟨_, rfl⟩
      have hp := hp x4_4 ex4_4
      refine lv_iinc (v := x4_4) (lv' := [(4, .int x4_4), (0, .ref (g.2.2 0)), (2, .int x2)]) hx hb dX10_tree_93 hl (k := 2) rfl (by rw [ex4_4]; rfl) (by decide) rfl (fun ls hl => ?_)
      refine lv_goto (tgt := 64) hx hb dX10_tree_96 (by decide) ?_
      exact ih x2 x4_4 w_3 _ _ _ hp hS (lv_sub hl [1, 2, 0] rfl)
set_option maxHeartbeats 4000000 in
set_option maxRecDepth 100000 in
theorem rX10_tree {l : Launch} {g : Gw} {w : Wd} {post : Int32 → Wd → Prop}   {x1 : Int32} {x2 : Int32} {x3 : Int32} (hp : pX10_tree post x1 x2 x3 w) : MtI tabX l yX10_tree cX10_tree 5 (some .int) 2 g w [.ref (g.2.2 0), .int x1, .int x2, .int x3] post := by
  refine q_entI tabX_nd (by decide) rfl (Nat.le_of_ble_eq_true rfl) ?_
  intro p e s m args below meth c A Q ls hC hR hS hl
  have hx := hC.1
  have hb := hC.2.1
  have hl : lv_has ls 5 [(0, .ref (g.2.2 0)), (1, .int x1), (2, .int x2), (3, .int x3)] := hl
  unfold pX10_tree at hp
  refine lv_aload_n hx hb dX10_tree_0 rfl (lv_at hl 0 rfl) ?_
  refine G_0_9 hC hS m54 dX10_tree_1 ?_
  refine lv_iconst hx hb dX10_tree_4 kI_0 ?_
  refine P_110_1 hC hS m224 dX10_tree_5 (fun w_1 H locs ew_1 hS => ?_)
  have hp := hp w_1 ew_1
  refine lv_aload_n hx hb dX10_tree_8 rfl (lv_at hl 0 rfl) ?_
  refine G_0_8 hC hS m50 dX10_tree_9 ?_
  refine lv_aload_n hx hb dX10_tree_12 rfl (lv_at hl 0 rfl) ?_
  refine G_0_7 hC hS m46 dX10_tree_13 ?_
  refine lv_iload_n hx hb dX10_tree_16 rfl (lv_at hl 3 rfl) ?_
  refine lv_aload_n hx hb dX10_tree_17 rfl (lv_at hl 0 rfl) ?_
  refine G_0_16 hC hS m21 dX10_tree_18 ?_
  refine GR_0 hC hS m678 dX10_tree_21 ?_
  refine q_cvV (As := [.ref (g.2.2 70), .int x3, .int (w_1.1 (rl (w_1.2.2.2.2 0)) 0)]) (rest := []) hC hS hl.1 (rX5_gather hp) cwX10_299 yvX5_gather (rcv_90 hC hS) rfl rfl (Nat.le_of_ble_eq_true rfl) (rmk (by decide) (by decide)) dX10_tree_24 (fun w_2 H locs hp hS => ?_)
  refine lv_iload_n hx hb dX10_tree_27 rfl (lv_at hl 1 rfl) ?_
  refine lv_if_lt (tgt := 51) hx hb dX10_tree_28 (by decide) (fun c_3 => ?_) (fun c_3 => ?_)
  · have hp := hp.1 c_3
    refine lv_iconst hx hb dX10_tree_51 kI_m1 ?_
    exact hR _ _ _ _ _ _ dX10_tree_52 hp hS
  · have hp := hp.2 c_3
    refine lv_iload_n hx hb dX10_tree_31 rfl (lv_at hl 1 rfl) ?_
    refine lv_aload_n hx hb dX10_tree_32 rfl (lv_at hl 0 rfl) ?_
    refine G_0_8 hC hS m50 dX10_tree_33 ?_
    refine G_90_0 hC hS m1232 dX10_tree_36 ?_
    refine lv_icmp_ge (tgt := 51) hx hb dX10_tree_39 (by decide) (fun c_4 => ?_) (fun c_4 => ?_)
    · have hp := hp.1 c_4
      refine lv_iconst hx hb dX10_tree_51 kI_m1 ?_
      exact hR _ _ _ _ _ _ dX10_tree_52 hp hS
    · have hp := hp.2 c_4
      refine lv_iload_n hx hb dX10_tree_42 rfl (lv_at hl 2 rfl) ?_
      refine lv_if_lt (tgt := 51) hx hb dX10_tree_43 (by decide) (fun c_5 => ?_) (fun c_5 => ?_)
      · have hp := hp.1 c_5
        refine lv_iconst hx hb dX10_tree_51 kI_m1 ?_
        exact hR _ _ _ _ _ _ dX10_tree_52 hp hS
      · have hp := hp.2 c_5
        refine lv_iload_n hx hb dX10_tree_46 rfl (lv_at hl 2 rfl) ?_
        refine lv_iconst hx hb dX10_tree_47 kI_1 ?_
        refine lv_icmp_le (tgt := 53) hx hb dX10_tree_48 (by decide) (fun c_6 => ?_) (fun c_6 => ?_)
        · have hp := hp.1 c_6
          refine lv_aload_n hx hb dX10_tree_53 rfl (lv_at hl 0 rfl) ?_
          refine G_0_8 hC hS m50 dX10_tree_54 ?_
          refine lv_iload_n hx hb dX10_tree_57 rfl (lv_at hl 1 rfl) ?_
          exact False.elim hp
        · have hp := hp.2 c_6
          refine lv_iconst hx hb dX10_tree_51 kI_m1 ?_
          exact hR _ _ _ _ _ _ dX10_tree_52 hp hS
def pX10_centre_80 (k45 : Int32 → Int32 → Int32 → Wd → Prop) (post : Int32 → Wd → Prop) (x1 : Int32) (x3 : Int32) (x4 : Int32) (w : Wd) : Prop := ∀ x4_1, x4_1 = x4 + (1 : Int32) → k45 x1 x3 x4_1 w
def pX10_centre_45 (post : Int32 → Wd → Prop) : Nat → Int32 → Int32 → Int32 → Wd → Prop
  | 0, _, _, _, _ => False
  | n + 1, x1, x3, x4, w => ((w.1 90 0) ≤ x4 → ((¬ x1 = 0 → (False)) ∧ (x1 = 0 → (post x3 w)))) ∧ (¬ (w.1 90 0) ≤ x4 → (False))
def pX10_centre (post : Int32 → Wd → Prop) (x1 : Int32) (x2 : Int32) (w : Wd) : Prop := pX5_gather (fun w_1 => ((w_1.1 90 0) = 0 → (post (-1 : Int32) w_1)) ∧ (¬ (w_1.1 90 0) = 0 → ((x1 < 0 → (post (-1 : Int32) w_1)) ∧ (¬ x1 < 0 → ((x1 ≤ (1 : Int32) → (∃ n9, pX10_centre_45 post n9 x1 (0 : Int32) (1 : Int32) w_1)) ∧ (¬ x1 ≤ (1 : Int32) → (post (-1 : Int32) w_1))))))) x2 (w.1 (rl (w.2.2.2.2 0)) 0) w
set_option maxHeartbeats 4000000 in
set_option maxRecDepth 100000 in
theorem bX10_centre_80 {p : Program} {l : Launch} {e : Env} {s : State} {m : MethodId} {args : Array Value} {below : List Frame} {meth : Method} {c : Code} {Q : State → Prop} {A : Nat → Prop} {g : Gw} {post : Int32 → Wd → Prop}  (hC : Cx p s m args c cX10_centre RX10 5 g) (hR : RtI tabX p l e (rk 2) s m args below meth c Q cX10_centre A g post)  {k45 : Int32 → Int32 → Int32 → Wd → Prop} (hk45 : ∀ (x1 : Int32) (x3 : Int32) (x4 : Int32) (w : Wd) (H : Heap) (locs : List Loc) (ls : Array Slot), k45 x1 x3 x4 w → St tabX A s.heap g w H locs → lv_has ls 5 [(0, .ref (g.2.2 0)), (1, .int x1), (3, .int x3), (4, .int x4)] → W p l e (rk 2) s m args below meth c H locs 0 0 Q (F0 m 45 ls [])) : ∀ (x1 : Int32) (x3 : Int32) (x4 : Int32) (w : Wd) (H : Heap) (locs : List Loc) (ls : Array Slot), pX10_centre_80 k45 post x1 x3 x4 w → St tabX A s.heap g w H locs → lv_has ls 5 [(0, .ref (g.2.2 0)), (1, .int x1), (3, .int x3), (4, .int x4)] → W p l e (rk 2) s m args below meth c H locs 0 0 Q (F0 m 80 ls []) := by
  have hx := hC.1
  have hb := hC.2.1
  intro x1 x3 x4 w H locs ls hp hS hl
  unfold pX10_centre_80 at hp
  obtain ⟨x4_1, ex4_1⟩ : ∃ y : Int32, y = x4 + (1 : Int32) := ⟨_, rfl⟩
  have hp := hp x4_1 ex4_1
  refine lv_iinc (v := x4_1) (lv' := [(4, .int x4_1), (0, .ref (g.2.2 0)), (1, .int x1), (3, .int x3)]) hx hb dX10_centre_80 hl (k := 3) rfl (by rw [ex4_1]; rfl) (by decide) rfl (fun ls hl => ?_)
  refine lv_goto (tgt := 45) hx hb dX10_centre_83 (by decide) ?_
  exact hk45 x1 x3 x4_1 w _ _ _ hp hS (lv_sub hl [1, 2, 3, 0] rfl)
set_option maxHeartbeats 4000000 in
set_option maxRecDepth 100000 in
theorem bX10_centre_45 {p : Program} {l : Launch} {e : Env} {s : State} {m : MethodId} {args : Array Value} {below : List Frame} {meth : Method} {c : Code} {Q : State → Prop} {A : Nat → Prop} {g : Gw} {post : Int32 → Wd → Prop}  (hC : Cx p s m args c cX10_centre RX10 5 g) (hR : RtI tabX p l e (rk 2) s m args below meth c Q cX10_centre A g post)  : ∀ (n : Nat) (x1 : Int32) (x3 : Int32) (x4 : Int32) (w : Wd) (H : Heap) (locs : List Loc) (ls : Array Slot), pX10_centre_45 post n x1 x3 x4 w → St tabX A s.heap g w H locs → lv_has ls 5 [(0, .ref (g.2.2 0)), (1, .int x1), (3, .int x3), (4, .int x4)] → W p l e (rk 2) s m args below meth c H locs 0 0 Q (F0 m 45 ls []) := by
  have hx := hC.1
  have hb := hC.2.1
  intro n
  induction n with
  | zero =>
    intro x1 x3 x4 w H locs ls hp hS hl
    exact False.elim hp
  | succ n ih =>
    intro x1 x3 x4 w H locs ls hp hS hl
    unfold pX10_centre_45 at hp
    refine lv_iload hx hb dX10_centre_45 (lv_at hl 3 rfl) ?_
    refine lv_aload_n hx hb dX10_centre_47 rfl (lv_at hl 0 rfl) ?_
    refine G_0_8 hC hS m50 dX10_centre_48 ?_
    refine G_90_0 hC hS m1232 dX10_centre_51 ?_
    refine lv_icmp_ge (tgt := 86) hx hb dX10_centre_54 (by decide) (fun c_1 => ?_) (fun c_1 => ?_)
    · have hp := hp.1 c_1
      refine lv_iload_n hx hb dX10_centre_86 rfl (lv_at hl 1 rfl) ?_
      refine lv_if_ne (tgt := 94) hx hb dX10_centre_87 (by decide) (fun c_2 => ?_) (fun c_2 => ?_)
      · have hp := hp.1 c_2
        refine lv_aload_n hx hb dX10_centre_94 rfl (lv_at hl 0 rfl) ?_
        refine G_0_8 hC hS m50 dX10_centre_95 ?_
        refine lv_iload_n hx hb dX10_centre_98 rfl (lv_at hl 2 rfl) ?_
        exact False.elim hp
      · have hp := hp.2 c_2
        refine lv_iload_n hx hb dX10_centre_90 rfl (lv_at hl 2 rfl) ?_
        refine lv_goto (tgt := 102) hx hb dX10_centre_91 (by decide) ?_
        exact hR _ _ _ _ _ _ dX10_centre_102 hp hS
    · have hp := hp.2 c_1
      refine lv_aload_n hx hb dX10_centre_57 rfl (lv_at hl 0 rfl) ?_
      refine G_0_8 hC hS m50 dX10_centre_58 ?_
      refine lv_iload hx hb dX10_centre_61 (lv_at hl 3 rfl) ?_
      exact False.elim hp
set_option maxHeartbeats 4000000 in
set_option maxRecDepth 100000 in
theorem rX10_centre {l : Launch} {g : Gw} {w : Wd} {post : Int32 → Wd → Prop}   {x1 : Int32} {x2 : Int32} (hp : pX10_centre post x1 x2 w) : MtI tabX l yX10_centre cX10_centre 5 (some .int) 2 g w [.ref (g.2.2 0), .int x1, .int x2] post := by
  refine q_entI tabX_nd (by decide) rfl (Nat.le_of_ble_eq_true rfl) ?_
  intro p e s m args below meth c A Q ls hC hR hS hl
  have hx := hC.1
  have hb := hC.2.1
  have hl : lv_has ls 5 [(0, .ref (g.2.2 0)), (1, .int x1), (2, .int x2)] := hl
  unfold pX10_centre at hp
  refine lv_aload_n hx hb dX10_centre_0 rfl (lv_at hl 0 rfl) ?_
  refine G_0_8 hC hS m50 dX10_centre_1 ?_
  refine lv_aload_n hx hb dX10_centre_4 rfl (lv_at hl 0 rfl) ?_
  refine G_0_7 hC hS m46 dX10_centre_5 ?_
  refine lv_iload_n hx hb dX10_centre_8 rfl (lv_at hl 2 rfl) ?_
  refine lv_aload_n hx hb dX10_centre_9 rfl (lv_at hl 0 rfl) ?_
  refine G_0_16 hC hS m21 dX10_centre_10 ?_
  refine GR_0 hC hS m678 dX10_centre_13 ?_
  refine q_cvV (As := [.ref (g.2.2 70), .int x2, .int (w.1 (rl (w.2.2.2.2 0)) 0)]) (rest := []) hC hS hl.1 (rX5_gather hp) cwX10_299 yvX5_gather (rcv_90 hC hS) rfl rfl (Nat.le_of_ble_eq_true rfl) (rmk (by decide) (by decide)) dX10_centre_16 (fun w_1 H locs hp hS => ?_)
  refine lv_aload_n hx hb dX10_centre_19 rfl (lv_at hl 0 rfl) ?_
  refine G_0_8 hC hS m50 dX10_centre_20 ?_
  refine G_90_0 hC hS m1232 dX10_centre_23 ?_
  refine lv_if_eq (tgt := 38) hx hb dX10_centre_26 (by decide) (fun c_2 => ?_) (fun c_2 => ?_)
  · have hp := hp.1 c_2
    refine lv_iconst hx hb dX10_centre_38 kI_m1 ?_
    exact hR _ _ _ _ _ _ dX10_centre_39 hp hS
  · have hp := hp.2 c_2
    refine lv_iload_n hx hb dX10_centre_29 rfl (lv_at hl 1 rfl) ?_
    refine lv_if_lt (tgt := 38) hx hb dX10_centre_30 (by decide) (fun c_3 => ?_) (fun c_3 => ?_)
    · have hp := hp.1 c_3
      refine lv_iconst hx hb dX10_centre_38 kI_m1 ?_
      exact hR _ _ _ _ _ _ dX10_centre_39 hp hS
    · have hp := hp.2 c_3
      refine lv_iload_n hx hb dX10_centre_33 rfl (lv_at hl 1 rfl) ?_
      refine lv_iconst hx hb dX10_centre_34 kI_1 ?_
      refine lv_icmp_le (tgt := 40) hx hb dX10_centre_35 (by decide) (fun c_4 => ?_) (fun c_4 => ?_)
      · have hp := hp.1 c_4
        refine lv_iconst hx hb dX10_centre_40 kI_0 ?_
        refine lv_istore_n (lv' := [(3, .int (0 : Int32)), (0, .ref (g.2.2 0)), (1, .int x1), (2, .int x2)]) hx hb dX10_centre_41 rfl hl (by decide) rfl (fun ls hl => ?_)
        refine lv_iconst hx hb dX10_centre_42 kI_1 ?_
        refine lv_istore (lv' := [(4, .int (1 : Int32)), (3, .int (0 : Int32)), (0, .ref (g.2.2 0)), (1, .int x1), (2, .int x2)]) hx hb dX10_centre_43 hl (by decide) rfl (fun ls hl => ?_)
        obtain ⟨n9, hp⟩ := hp
        exact bX10_centre_45 hC hR n9 x1 (0 : Int32) (1 : Int32) w_1 _ _ _ hp hS (lv_sub hl [2, 3, 1, 0] rfl)
      · have hp := hp.2 c_4
        refine lv_iconst hx hb dX10_centre_38 kI_m1 ?_
        exact hR _ _ _ _ _ _ dX10_centre_39 hp hS
def pX5_clanCount_28 (k4 : Int32 → Int32 → Wd → Prop) (post : Int32 → Wd → Prop) (x2 : Int32) (t0 : Int32) (t1 : Int32) (w : Wd) : Prop := ∀ x1_1, x1_1 = (t0 + t1) → ∀ x2_2, x2_2 = x2 + (1 : Int32) → k4 x1_1 x2_2 w
def pX5_clanCount_4 (post : Int32 → Wd → Prop) : Nat → Int32 → Int32 → Wd → Prop
  | 0, _, _, _ => False
  | n + 1, x1, x2, w => ((w.1 90 0) ≤ x2 → (post x1 w)) ∧ (¬ (w.1 90 0) ≤ x2 → (vp_in x2 7 ∧ (¬ (w.2.1 100 x2.toNatClampNeg) = x2 → (pX5_clanCount_28 (pX5_clanCount_4 post n) post x2 x1 (0 : Int32) w)) ∧ ((w.2.1 100 x2.toNatClampNeg) = x2 → (pX5_clanCount_28 (pX5_clanCount_4 post n) post x2 x1 (1 : Int32) w))))
def pX5_clanCount (post : Int32 → Wd → Prop)  (w : Wd) : Prop := ∃ n9, pX5_clanCount_4 post n9 (0 : Int32) (0 : Int32) w
set_option maxHeartbeats 4000000 in
set_option maxRecDepth 100000 in
theorem bX5_clanCount_28 {p : Program} {l : Launch} {e : Env} {s : State} {m : MethodId} {args : Array Value} {below : List Frame} {meth : Method} {c : Code} {Q : State → Prop} {A : Nat → Prop} {g : Gw} {post : Int32 → Wd → Prop}  (hC : Cx p s m args c cX5_clanCount RX5 3 g) (hR : RtI tabX p l e (rk 1) s m args below meth c Q cX5_clanCount A g post)  {k4 : Int32 → Int32 → Wd → Prop} (hk4 : ∀ (x1 : Int32) (x2 : Int32) (w : Wd) (H : Heap) (locs : List Loc) (ls : Array Slot), k4 x1 x2 w → St tabX A s.heap g w H locs → lv_has ls 3 [(0, .ref (g.2.2 90)), (1, .int x1), (2, .int x2)] → W p l e (rk 1) s m args below meth c H locs 0 0 Q (F0 m 4 ls [])) : ∀ (x2 : Int32) (t0 : Int32) (t1 : Int32) (w : Wd) (H : Heap) (locs : List Loc) (ls : Array Slot), pX5_clanCount_28 k4 post x2 t0 t1 w → St tabX A s.heap g w H locs → lv_has ls 3 [(0, .ref (g.2.2 90)), (2, .int x2)] → W p l e (rk 1) s m args below meth c H locs 0 0 Q (F0 m 28 ls [.int t1, .int t0]) := by
  have hx := hC.1
  have hb := hC.2.1
  intro x2 t0 t1 w H locs ls hp hS hl
  unfold pX5_clanCount_28 at hp
  refine lv_iadd hx hb dX5_clanCount_28 ?_
  refine lv_topi (fun x1_1 ex1_1 => ?_)
  have hp := hp x1_1 ex1_1
  refine lv_istore_n (lv' := [(1, .int x1_1), (0, .ref (g.2.2 90)), (2, .int x2)]) hx hb dX5_clanCount_29 rfl hl (by decide) rfl (fun ls hl => ?_)
  obtain ⟨x2_2, ex2_2⟩ : ∃ y : Int32, y = x2 + (1 : Int32) := ⟨_, rfl⟩
  have hp := hp x2_2 ex2_2
  refine lv_iinc (v := x2_2) (lv' := [(2, .int x2_2), (1, .int x1_1), (0, .ref (g.2.2 90))]) hx hb dX5_clanCount_30 hl (k := 2) rfl (by rw [ex2_2]; rfl) (by decide) rfl (fun ls hl => ?_)
  refine lv_goto (tgt := 4) hx hb dX5_clanCount_33 (by decide) ?_
  exact hk4 x1_1 x2_2 w _ _ _ hp hS (lv_sub hl [2, 1, 0] rfl)
set_option maxHeartbeats 4000000 in
set_option maxRecDepth 100000 in
theorem bX5_clanCount_4 {p : Program} {l : Launch} {e : Env} {s : State} {m : MethodId} {args : Array Value} {below : List Frame} {meth : Method} {c : Code} {Q : State → Prop} {A : Nat → Prop} {g : Gw} {post : Int32 → Wd → Prop}  (hC : Cx p s m args c cX5_clanCount RX5 3 g) (hR : RtI tabX p l e (rk 1) s m args below meth c Q cX5_clanCount A g post)  : ∀ (n : Nat) (x1 : Int32) (x2 : Int32) (w : Wd) (H : Heap) (locs : List Loc) (ls : Array Slot), pX5_clanCount_4 post n x1 x2 w → St tabX A s.heap g w H locs → lv_has ls 3 [(0, .ref (g.2.2 90)), (1, .int x1), (2, .int x2)] → W p l e (rk 1) s m args below meth c H locs 0 0 Q (F0 m 4 ls []) := by
  have hx := hC.1
  have hb := hC.2.1
  intro n
  induction n with
  | zero =>
    intro x1 x2 w H locs ls hp hS hl
    exact False.elim hp
  | succ n ih =>
    intro x1 x2 w H locs ls hp hS hl
    unfold pX5_clanCount_4 at hp
    refine lv_iload_n hx hb dX5_clanCount_4 rfl (lv_at hl 2 rfl) ?_
    refine lv_aload_n hx hb dX5_clanCount_5 rfl (lv_at hl 0 rfl) ?_
    refine G_90_0 hC hS m1240 dX5_clanCount_6 ?_
    refine lv_icmp_ge (tgt := 36) hx hb dX5_clanCount_9 (by decide) (fun c_1 => ?_) (fun c_1 => ?_)
    · have hp := hp.1 c_1
      refine lv_iload_n hx hb dX5_clanCount_36 rfl (lv_at hl 1 rfl) ?_
      exact hR _ _ _ _ _ _ dX5_clanCount_37 hp hS
    · have hp := hp.2 c_1
      refine lv_iload_n hx hb dX5_clanCount_12 rfl (lv_at hl 1 rfl) ?_
      refine lv_aload_n hx hb dX5_clanCount_13 rfl (lv_at hl 0 rfl) ?_
      refine G_90_9 hC hS m212 dX5_clanCount_14 ?_
      refine lv_iload_n hx hb dX5_clanCount_17 rfl (lv_at hl 2 rfl) ?_
      refine La_100 hC hS hp.1 dX5_clanCount_18 ?_
      have hp := hp.2
      refine lv_iload_n hx hb dX5_clanCount_19 rfl (lv_at hl 2 rfl) ?_
      refine lv_icmp_ne (tgt := 27) hx hb dX5_clanCount_20 (by decide) (fun c_2 => ?_) (fun c_2 => ?_)
      · have hp := hp.1 c_2
        refine lv_iconst hx hb dX5_clanCount_27 kI_0 ?_
        exact bX5_clanCount_28 hC hR ih x2 x1 (0 : Int32) w _ _ _ hp hS (lv_sub hl [0, 2] rfl)
      · have hp := hp.2 c_2
        refine lv_iconst hx hb dX5_clanCount_23 kI_1 ?_
        refine lv_goto (tgt := 28) hx hb dX5_clanCount_24 (by decide) ?_
        exact bX5_clanCount_28 hC hR ih x2 x1 (1 : Int32) w _ _ _ hp hS (lv_sub hl [0, 2] rfl)
set_option maxHeartbeats 4000000 in
set_option maxRecDepth 100000 in
theorem rX5_clanCount {l : Launch} {g : Gw} {w : Wd} {post : Int32 → Wd → Prop}    (hp : pX5_clanCount post  w) : MtI tabX l yX5_clanCount cX5_clanCount 3 (some .int) 1 g w [.ref (g.2.2 90)] post := by
  refine q_entI tabX_nd (by decide) rfl (Nat.le_of_ble_eq_true rfl) ?_
  intro p e s m args below meth c A Q ls hC hR hS hl
  have hx := hC.1
  have hb := hC.2.1
  have hl : lv_has ls 3 [(0, .ref (g.2.2 90))] := hl
  unfold pX5_clanCount at hp
  refine lv_iconst hx hb dX5_clanCount_0 kI_0 ?_
  refine lv_istore_n (lv' := [(1, .int (0 : Int32)), (0, .ref (g.2.2 90))]) hx hb dX5_clanCount_1 rfl hl (by decide) rfl (fun ls hl => ?_)
  refine lv_iconst hx hb dX5_clanCount_2 kI_0 ?_
  refine lv_istore_n (lv' := [(2, .int (0 : Int32)), (1, .int (0 : Int32)), (0, .ref (g.2.2 90))]) hx hb dX5_clanCount_3 rfl hl (by decide) rfl (fun ls hl => ?_)
  obtain ⟨n9, hp⟩ := hp
  exact bX5_clanCount_4 hC hR n9 (0 : Int32) (0 : Int32) w _ _ _ hp hS (lv_sub hl [2, 1, 0] rfl)
def pX5_joinClans_75 (k35 : Int32 → Int32 → Int32 → Wd → Prop) (post : Wd → Prop) (x1 : Int32) (x2 : Int32) (x3 : Int32) (w : Wd) : Prop := ∀ x3_1, x3_1 = x3 + (1 : Int32) → k35 x1 x2 x3_1 w
def pX5_joinClans_35 (k25 : Int32 → Int32 → Wd → Prop) (post : Wd → Prop) : Nat → Int32 → Int32 → Int32 → Wd → Prop
  | 0, _, _, _, _ => False
  | n + 1, x1, x2, x3, w => (x2 ≤ x3 → (∀ x2_2, x2_2 = x2 + (1 : Int32) → k25 x1 x2_2 w)) ∧ (¬ x2 ≤ x3 → (False))
def pX5_joinClans_25 (post : Wd → Prop) : Nat → Int32 → Int32 → Wd → Prop
  | 0, _, _, _ => False
  | n + 1, x1, x2, w => ((w.1 90 0) ≤ x2 → (post w)) ∧ (¬ (w.1 90 0) ≤ x2 → (∃ n9, pX5_joinClans_35 (pX5_joinClans_25 post n) post n9 x1 x2 (0 : Int32) w))
def pX5_joinClans_2 (post : Wd → Prop) : Nat → Int32 → Int32 → Wd → Prop
  | 0, _, _, _ => False
  | n + 1, x1, x2, w => ((w.1 90 0) ≤ x2 → (∃ n9, pX5_joinClans_25 post n9 x1 (0 : Int32) w)) ∧ (¬ (w.1 90 0) ≤ x2 → (vp_in x2 7 ∧ ∀ w_2, w_2 = sA w 100 x2.toNatClampNeg x2 → ∀ x2_3, x2_3 = x2 + (1 : Int32) → pX5_joinClans_2 post n x1 x2_3 w_2))
def pX5_joinClans (post : Wd → Prop) (x1 : Int32) (w : Wd) : Prop := ∃ n9, pX5_joinClans_2 post n9 x1 (0 : Int32) w
set_option maxHeartbeats 4000000 in
set_option maxRecDepth 100000 in
theorem bX5_joinClans_75 {p : Program} {l : Launch} {e : Env} {s : State} {m : MethodId} {args : Array Value} {below : List Frame} {meth : Method} {c : Code} {Q : State → Prop} {A : Nat → Prop} {g : Gw} {post : Wd → Prop}  (hC : Cx p s m args c cX5_joinClans RX5 4 g) (hR : RtV tabX p l e (rk 1) s m args below meth c Q cX5_joinClans A g post)  {k35 : Int32 → Int32 → Int32 → Wd → Prop} (hk35 : ∀ (x1 : Int32) (x2 : Int32) (x3 : Int32) (w : Wd) (H : Heap) (locs : List Loc) (ls : Array Slot), k35 x1 x2 x3 w → St tabX A s.heap g w H locs → lv_has ls 4 [(0, .ref (g.2.2 90)), (1, .int x1), (2, .int x2), (3, .int x3)] → W p l e (rk 1) s m args below meth c H locs 0 0 Q (F0 m 35 ls [])) : ∀ (x1 : Int32) (x2 : Int32) (x3 : Int32) (w : Wd) (H : Heap) (locs : List Loc) (ls : Array Slot), pX5_joinClans_75 k35 post x1 x2 x3 w → St tabX A s.heap g w H locs → lv_has ls 4 [(0, .ref (g.2.2 90)), (1, .int x1), (2, .int x2), (3, .int x3)] → W p l e (rk 1) s m args below meth c H locs 0 0 Q (F0 m 75 ls []) := by
  have hx := hC.1
  have hb := hC.2.1
  intro x1 x2 x3 w H locs ls hp hS hl
  unfold pX5_joinClans_75 at hp
  obtain ⟨x3_1, ex3_1⟩ : ∃ y : Int32, y = x3 + (1 : Int32) := ⟨_, rfl⟩
  have hp := hp x3_1 ex3_1
  refine lv_iinc (v := x3_1) (lv' := [(3, .int x3_1), (0, .ref (g.2.2 90)), (1, .int x1), (2, .int x2)]) hx hb dX5_joinClans_75 hl (k := 3) rfl (by rw [ex3_1]; rfl) (by decide) rfl (fun ls hl => ?_)
  refine lv_goto (tgt := 35) hx hb dX5_joinClans_78 (by decide) ?_
  exact hk35 x1 x2 x3_1 w _ _ _ hp hS (lv_sub hl [1, 2, 3, 0] rfl)
set_option maxHeartbeats 4000000 in
set_option maxRecDepth 100000 in
theorem bX5_joinClans_35 {p : Program} {l : Launch} {e : Env} {s : State} {m : MethodId} {args : Array Value} {below : List Frame} {meth : Method} {c : Code} {Q : State → Prop} {A : Nat → Prop} {g : Gw} {post : Wd → Prop}  (hC : Cx p s m args c cX5_joinClans RX5 4 g) (hR : RtV tabX p l e (rk 1) s m args below meth c Q cX5_joinClans A g post)  {k25 : Int32 → Int32 → Wd → Prop} (hk25 : ∀ (x1 : Int32) (x2 : Int32) (w : Wd) (H : Heap) (locs : List Loc) (ls : Array Slot), k25 x1 x2 w → St tabX A s.heap g w H locs → lv_has ls 4 [(0, .ref (g.2.2 90)), (1, .int x1), (2, .int x2)] → W p l e (rk 1) s m args below meth c H locs 0 0 Q (F0 m 25 ls [])) : ∀ (n : Nat) (x1 : Int32) (x2 : Int32) (x3 : Int32) (w : Wd) (H : Heap) (locs : List Loc) (ls : Array Slot), pX5_joinClans_35 k25 post n x1 x2 x3 w → St tabX A s.heap g w H locs → lv_has ls 4 [(0, .ref (g.2.2 90)), (1, .int x1), (2, .int x2), (3, .int x3)] → W p l e (rk 1) s m args below meth c H locs 0 0 Q (F0 m 35 ls []) := by
  have hx := hC.1
  have hb := hC.2.1
  intro n
  induction n with
  | zero =>
    intro x1 x2 x3 w H locs ls hp hS hl
    exact False.elim hp
  | succ n ih =>
    intro x1 x2 x3 w H locs ls hp hS hl
    unfold pX5_joinClans_35 at hp
    refine lv_iload_n hx hb dX5_joinClans_35 rfl (lv_at hl 3 rfl) ?_
    refine lv_iload_n hx hb dX5_joinClans_36 rfl (lv_at hl 2 rfl) ?_
    refine lv_icmp_ge (tgt := 81) hx hb dX5_joinClans_37 (by decide) (fun c_1 => ?_) (fun c_1 => ?_)
    · have hp := hp.1 c_1
      obtain ⟨x2_2, ex2_2⟩ : ∃ y : Int32, y = x2 + (1 : Int32) := ⟨_, rfl⟩
      have hp := hp x2_2 ex2_2
      refine lv_iinc (v := x2_2) (lv' := [(2, .int x2_2), (0, .ref (g.2.2 90)), (1, .int x1), (3, .int x3)]) hx hb dX5_joinClans_81 hl (k := 2) rfl (by rw [ex2_2]; rfl) (by decide) rfl (fun ls hl => ?_)
      refine lv_goto (tgt := 25) hx hb dX5_joinClans_84 (by decide) ?_
      exact hk25 x1 x2_2 w _ _ _ hp hS (lv_sub hl [1, 2, 0] rfl)
    · have hp := hp.2 c_1
      refine lv_aload_n hx hb dX5_joinClans_40 rfl (lv_at hl 0 rfl) ?_
      refine lv_iload_n hx hb dX5_joinClans_41 rfl (lv_at hl 2 rfl) ?_
      refine lv_iload_n hx hb dX5_joinClans_42 rfl (lv_at hl 3 rfl) ?_
      exact False.elim hp
set_option maxHeartbeats 4000000 in
set_option maxRecDepth 100000 in
theorem bX5_joinClans_25 {p : Program} {l : Launch} {e : Env} {s : State} {m : MethodId} {args : Array Value} {below : List Frame} {meth : Method} {c : Code} {Q : State → Prop} {A : Nat → Prop} {g : Gw} {post : Wd → Prop}  (hC : Cx p s m args c cX5_joinClans RX5 4 g) (hR : RtV tabX p l e (rk 1) s m args below meth c Q cX5_joinClans A g post)  : ∀ (n : Nat) (x1 : Int32) (x2 : Int32) (w : Wd) (H : Heap) (locs : List Loc) (ls : Array Slot), pX5_joinClans_25 post n x1 x2 w → St tabX A s.heap g w H locs → lv_has ls 4 [(0, .ref (g.2.2 90)), (1, .int x1), (2, .int x2)] → W p l e (rk 1) s m args below meth c H locs 0 0 Q (F0 m 25 ls []) := by
  have hx := hC.1
  have hb := hC.2.1
  intro n
  induction n with
  | zero =>
    intro x1 x2 w H locs ls hp hS hl
    exact False.elim hp
  | succ n ih =>
    intro x1 x2 w H locs ls hp hS hl
    unfold pX5_joinClans_25 at hp
    refine lv_iload_n hx hb dX5_joinClans_25 rfl (lv_at hl 2 rfl) ?_
    refine lv_aload_n hx hb dX5_joinClans_26 rfl (lv_at hl 0 rfl) ?_
    refine G_90_0 hC hS m1240 dX5_joinClans_27 ?_
    refine lv_icmp_ge (tgt := 87) hx hb dX5_joinClans_30 (by decide) (fun c_1 => ?_) (fun c_1 => ?_)
    · have hp := hp.1 c_1
      exact hR _ _ _ _ _ dX5_joinClans_87 hp hS
    · have hp := hp.2 c_1
      refine lv_iconst hx hb dX5_joinClans_33 kI_0 ?_
      refine lv_istore_n (lv' := [(3, .int (0 : Int32)), (0, .ref (g.2.2 90)), (1, .int x1), (2, .int x2)]) hx hb dX5_joinClans_34 rfl hl (by decide) rfl (fun ls hl => ?_)
      obtain ⟨n9, hp⟩ := hp
      exact bX5_joinClans_35 hC hR ih n9 x1 x2 (0 : Int32) w _ _ _ hp hS (lv_sub hl [1, 2, 3, 0] rfl)
set_option maxHeartbeats 4000000 in
set_option maxRecDepth 100000 in
theorem bX5_joinClans_2 {p : Program} {l : Launch} {e : Env} {s : State} {m : MethodId} {args : Array Value} {below : List Frame} {meth : Method} {c : Code} {Q : State → Prop} {A : Nat → Prop} {g : Gw} {post : Wd → Prop}  (hC : Cx p s m args c cX5_joinClans RX5 4 g) (hR : RtV tabX p l e (rk 1) s m args below meth c Q cX5_joinClans A g post)  : ∀ (n : Nat) (x1 : Int32) (x2 : Int32) (w : Wd) (H : Heap) (locs : List Loc) (ls : Array Slot), pX5_joinClans_2 post n x1 x2 w → St tabX A s.heap g w H locs → lv_has ls 4 [(0, .ref (g.2.2 90)), (1, .int x1), (2, .int x2)] → W p l e (rk 1) s m args below meth c H locs 0 0 Q (F0 m 2 ls []) := by
  have hx := hC.1
  have hb := hC.2.1
  intro n
  induction n with
  | zero =>
    intro x1 x2 w H locs ls hp hS hl
    exact False.elim hp
  | succ n ih =>
    intro x1 x2 w H locs ls hp hS hl
    unfold pX5_joinClans_2 at hp
    refine lv_iload_n hx hb dX5_joinClans_2 rfl (lv_at hl 2 rfl) ?_
    refine lv_aload_n hx hb dX5_joinClans_3 rfl (lv_at hl 0 rfl) ?_
    refine G_90_0 hC hS m1240 dX5_joinClans_4 ?_
    refine lv_icmp_ge (tgt := 23) hx hb dX5_joinClans_7 (by decide) (fun c_1 => ?_) (fun c_1 => ?_)
    · have hp := hp.1 c_1
      refine lv_iconst hx hb dX5_joinClans_23 kI_0 ?_
      refine lv_istore_n (lv' := [(2, .int (0 : Int32)), (0, .ref (g.2.2 90)), (1, .int x1)]) hx hb dX5_joinClans_24 rfl hl (by decide) rfl (fun ls hl => ?_)
      obtain ⟨n9, hp⟩ := hp
      exact bX5_joinClans_25 hC hR n9 x1 (0 : Int32) w _ _ _ hp hS (lv_sub hl [1, 2, 0] rfl)
    · have hp := hp.2 c_1
      refine lv_aload_n hx hb dX5_joinClans_10 rfl (lv_at hl 0 rfl) ?_
      refine G_90_9 hC hS m212 dX5_joinClans_11 ?_
      refine lv_iload_n hx hb dX5_joinClans_14 rfl (lv_at hl 2 rfl) ?_
      refine lv_iload_n hx hb dX5_joinClans_15 rfl (lv_at hl 2 rfl) ?_
      refine Sa_100 hC hS hp.1 dX5_joinClans_16 (fun w_2 H locs ew_2 hS => ?_)
      have hp := hp.2
      have hp := hp w_2 ew_2
      obtain ⟨x2_3, ex2_3⟩ : ∃ y : Int32, y = x2 + (1 : Int32) := ⟨_, rfl⟩
      have hp := hp x2_3 ex2_3
      refine lv_iinc (v := x2_3) (lv' := [(2, .int x2_3), (0, .ref (g.2.2 90)), (1, .int x1)]) hx hb dX5_joinClans_17 hl (k := 2) rfl (by rw [ex2_3]; rfl) (by decide) rfl (fun ls hl => ?_)
      refine lv_goto (tgt := 2) hx hb dX5_joinClans_20 (by decide) ?_
      exact ih x1 x2_3 w_2 _ _ _ hp hS (lv_sub hl [1, 2, 0] rfl)
set_option maxHeartbeats 4000000 in
set_option maxRecDepth 100000 in
theorem rX5_joinClans {l : Launch} {g : Gw} {w : Wd} {post : Wd → Prop}   {x1 : Int32} (hp : pX5_joinClans post x1 w) : MtV tabX l yX5_joinClans cX5_joinClans 4 none 1 g w [.ref (g.2.2 90), .int x1] post := by
  refine q_entV tabX_nd (by decide) rfl (Nat.le_of_ble_eq_true rfl) ?_
  intro p e s m args below meth c A Q ls hC hR hS hl
  have hx := hC.1
  have hb := hC.2.1
  have hl : lv_has ls 4 [(0, .ref (g.2.2 90)), (1, .int x1)] := hl
  unfold pX5_joinClans at hp
  refine lv_iconst hx hb dX5_joinClans_0 kI_0 ?_
  refine lv_istore_n (lv' := [(2, .int (0 : Int32)), (0, .ref (g.2.2 90)), (1, .int x1)]) hx hb dX5_joinClans_1 rfl hl (by decide) rfl (fun ls hl => ?_)
  obtain ⟨n9, hp⟩ := hp
  exact bX5_joinClans_2 hC hR n9 x1 (0 : Int32) w _ _ _ hp hS (lv_sub hl [1, 2, 0] rfl)
def pX5_largestClan_43 (k17 : Int32 → Int32 → Int32 → Int32 → Wd → Prop) (post : Int32 → Wd → Prop) (x1 : Int32) (x2 : Int32) (x4 : Int32) (t0 : Int32) (t1 : Int32) (w : Wd) : Prop := ∀ x3_1, x3_1 = (t0 + t1) → ∀ x4_2, x4_2 = x4 + (1 : Int32) → k17 x1 x2 x3_1 x4_2 w
def pX5_largestClan_17 (k4 : Int32 → Int32 → Wd → Prop) (post : Int32 → Wd → Prop) : Nat → Int32 → Int32 → Int32 → Int32 → Wd → Prop
  | 0, _, _, _, _, _ => False
  | n + 1, x1, x2, x3, x4, w => ((w.1 90 0) ≤ x4 → (∀ x1_2, x1_2 = (if x1 < x3 then x3 else x1) → ∀ x2_3, x2_3 = x2 + (1 : Int32) → k4 x1_2 x2_3 w)) ∧ (¬ (w.1 90 0) ≤ x4 → (vp_in x4 7 ∧ (¬ (w.2.1 100 x4.toNatClampNeg) = x2 → (pX5_largestClan_43 (pX5_largestClan_17 k4 post n) post x1 x2 x4 x3 (0 : Int32) w)) ∧ ((w.2.1 100 x4.toNatClampNeg) = x2 → (pX5_largestClan_43 (pX5_largestClan_17 k4 post n) post x1 x2 x4 x3 (1 : Int32) w))))
def pX5_largestClan_4 (post : Int32 → Wd → Prop) : Nat → Int32 → Int32 → Wd → Prop
  | 0, _, _, _ => False
  | n + 1, x1, x2, w => ((w.1 90 0) ≤ x2 → (post x1 w)) ∧ (¬ (w.1 90 0) ≤ x2 → (∃ n9, pX5_largestClan_17 (pX5_largestClan_4 post n) post n9 x1 x2 (0 : Int32) (0 : Int32) w))
def pX5_largestClan (post : Int32 → Wd → Prop)  (w : Wd) : Prop := ∃ n9, pX5_largestClan_4 post n9 (0 : Int32) (0 : Int32) w
set_option maxHeartbeats 4000000 in
set_option maxRecDepth 100000 in
theorem bX5_largestClan_43 {p : Program} {l : Launch} {e : Env} {s : State} {m : MethodId} {args : Array Value} {below : List Frame} {meth : Method} {c : Code} {Q : State → Prop} {A : Nat → Prop} {g : Gw} {post : Int32 → Wd → Prop}  (hC : Cx p s m args c cX5_largestClan RX5 5 g) (hR : RtI tabX p l e (rk 1) s m args below meth c Q cX5_largestClan A g post)  {k17 : Int32 → Int32 → Int32 → Int32 → Wd → Prop} (hk17 : ∀ (x1 : Int32) (x2 : Int32) (x3 : Int32) (x4 : Int32) (w : Wd) (H : Heap) (locs : List Loc) (ls : Array Slot), k17 x1 x2 x3 x4 w → St tabX A s.heap g w H locs → lv_has ls 5 [(0, .ref (g.2.2 90)), (1, .int x1), (2, .int x2), (3, .int x3), (4, .int x4)] → W p l e (rk 1) s m args below meth c H locs 0 0 Q (F0 m 17 ls [])) : ∀ (x1 : Int32) (x2 : Int32) (x4 : Int32) (t0 : Int32) (t1 : Int32) (w : Wd) (H : Heap) (locs : List Loc) (ls : Array Slot), pX5_largestClan_43 k17 post x1 x2 x4 t0 t1 w → St tabX A s.heap g w H locs → lv_has ls 5 [(0, .ref (g.2.2 90)), (1, .int x1), (2, .int x2), (4, .int x4)] → W p l e (rk 1) s m args below meth c H locs 0 0 Q (F0 m 43 ls [.int t1, .int t0]) := by
  have hx := hC.1
  have hb := hC.2.1
  intro x1 x2 x4 t0 t1 w H locs ls hp hS hl
  unfold pX5_largestClan_43 at hp
  refine lv_iadd hx hb dX5_largestClan_43 ?_
  refine lv_topi (fun x3_1 ex3_1 => ?_)
  have hp := hp x3_1 ex3_1
  refine lv_istore_n (lv' := [(3, .int x3_1), (0, .ref (g.2.2 90)), (1, .int x1), (2, .int x2), (4, .int x4)]) hx hb dX5_largestClan_44 rfl hl (by decide) rfl (fun ls hl => ?_)
  obtain ⟨x4_2, ex4_2⟩ : ∃ y : Int32, y = x4 + (1 : Int32) := ⟨_, rfl⟩
  have hp := hp x4_2 ex4_2
  refine lv_iinc (v := x4_2) (lv' := [(4, .int x4_2), (3, .int x3_1), (0, .ref (g.2.2 90)), (1, .int x1), (2, .int x2)]) hx hb dX5_largestClan_45 hl (k := 4) rfl (by rw [ex4_2]; rfl) (by decide) rfl (fun ls hl => ?_)
  refine lv_goto (tgt := 17) hx hb dX5_largestClan_48 (by decide) ?_
  exact hk17 x1 x2 x3_1 x4_2 w _ _ _ hp hS (lv_sub hl [2, 3, 4, 1, 0] rfl)
set_option maxHeartbeats 4000000 in
set_option maxRecDepth 100000 in
theorem bX5_largestClan_17 {p : Program} {l : Launch} {e : Env} {s : State} {m : MethodId} {args : Array Value} {below : List Frame} {meth : Method} {c : Code} {Q : State → Prop} {A : Nat → Prop} {g : Gw} {post : Int32 → Wd → Prop}  (hC : Cx p s m args c cX5_largestClan RX5 5 g) (hR : RtI tabX p l e (rk 1) s m args below meth c Q cX5_largestClan A g post)  {k4 : Int32 → Int32 → Wd → Prop} (hk4 : ∀ (x1 : Int32) (x2 : Int32) (w : Wd) (H : Heap) (locs : List Loc) (ls : Array Slot), k4 x1 x2 w → St tabX A s.heap g w H locs → lv_has ls 5 [(0, .ref (g.2.2 90)), (1, .int x1), (2, .int x2)] → W p l e (rk 1) s m args below meth c H locs 0 0 Q (F0 m 4 ls [])) : ∀ (n : Nat) (x1 : Int32) (x2 : Int32) (x3 : Int32) (x4 : Int32) (w : Wd) (H : Heap) (locs : List Loc) (ls : Array Slot), pX5_largestClan_17 k4 post n x1 x2 x3 x4 w → St tabX A s.heap g w H locs → lv_has ls 5 [(0, .ref (g.2.2 90)), (1, .int x1), (2, .int x2), (3, .int x3), (4, .int x4)] → W p l e (rk 1) s m args below meth c H locs 0 0 Q (F0 m 17 ls []) := by
  have hx := hC.1
  have hb := hC.2.1
  intro n
  induction n with
  | zero =>
    intro x1 x2 x3 x4 w H locs ls hp hS hl
    exact False.elim hp
  | succ n ih =>
    intro x1 x2 x3 x4 w H locs ls hp hS hl
    unfold pX5_largestClan_17 at hp
    refine lv_iload hx hb dX5_largestClan_17 (lv_at hl 4 rfl) ?_
    refine lv_aload_n hx hb dX5_largestClan_19 rfl (lv_at hl 0 rfl) ?_
    refine G_90_0 hC hS m1240 dX5_largestClan_20 ?_
    refine lv_icmp_ge (tgt := 51) hx hb dX5_largestClan_23 (by decide) (fun c_1 => ?_) (fun c_1 => ?_)
    · have hp := hp.1 c_1
      refine lv_iload_n hx hb dX5_largestClan_51 rfl (lv_at hl 1 rfl) ?_
      refine lv_iload_n hx hb dX5_largestClan_52 rfl (lv_at hl 3 rfl) ?_
      refine q_max hC hl.1 m1327 m728 m348 m729 (rmm (by decide) (Nat.le_of_ble_eq_true rfl)) dX5_largestClan_53 ?_
      refine lv_topi (fun x1_2 ex1_2 => ?_)
      have hp := hp x1_2 ex1_2
      refine lv_istore_n (lv' := [(1, .int x1_2), (0, .ref (g.2.2 90)), (2, .int x2), (3, .int x3), (4, .int x4)]) hx hb dX5_largestClan_56 rfl hl (by decide) rfl (fun ls hl => ?_)
      obtain ⟨x2_3, ex2_3⟩ : ∃ y : Int32, y = x2 + (1 : Int32) := ⟨_, rfl⟩
      have hp := hp x2_3 ex2_3
      refine lv_iinc (v := x2_3) (lv' := [(2, .int x2_3), (1, .int x1_2), (0, .ref (g.2.2 90)), (3, .int x3), (4, .int x4)]) hx hb dX5_largestClan_57 hl (k := 2) rfl (by rw [ex2_3]; rfl) (by decide) rfl (fun ls hl => ?_)
      refine lv_goto (tgt := 4) hx hb dX5_largestClan_60 (by decide) ?_
      exact hk4 x1_2 x2_3 w _ _ _ hp hS (lv_sub hl [2, 1, 0] rfl)
    · have hp := hp.2 c_1
      refine lv_iload_n hx hb dX5_largestClan_26 rfl (lv_at hl 3 rfl) ?_
      refine lv_aload_n hx hb dX5_largestClan_27 rfl (lv_at hl 0 rfl) ?_
      refine G_90_9 hC hS m212 dX5_largestClan_28 ?_
      refine lv_iload hx hb dX5_largestClan_31 (lv_at hl 4 rfl) ?_
      refine La_100 hC hS hp.1 dX5_largestClan_33 ?_
      have hp := hp.2
      refine lv_iload_n hx hb dX5_largestClan_34 rfl (lv_at hl 2 rfl) ?_
      refine lv_icmp_ne (tgt := 42) hx hb dX5_largestClan_35 (by decide) (fun c_4 => ?_) (fun c_4 => ?_)
      · have hp := hp.1 c_4
        refine lv_iconst hx hb dX5_largestClan_42 kI_0 ?_
        exact bX5_largestClan_43 hC hR ih x1 x2 x4 x3 (0 : Int32) w _ _ _ hp hS (lv_sub hl [0, 1, 2, 4] rfl)
      · have hp := hp.2 c_4
        refine lv_iconst hx hb dX5_largestClan_38 kI_1 ?_
        refine lv_goto (tgt := 43) hx hb dX5_largestClan_39 (by decide) ?_
        exact bX5_largestClan_43 hC hR ih x1 x2 x4 x3 (1 : Int32) w _ _ _ hp hS (lv_sub hl [0, 1, 2, 4] rfl)
set_option maxHeartbeats 4000000 in
set_option maxRecDepth 100000 in
theorem bX5_largestClan_4 {p : Program} {l : Launch} {e : Env} {s : State} {m : MethodId} {args : Array Value} {below : List Frame} {meth : Method} {c : Code} {Q : State → Prop} {A : Nat → Prop} {g : Gw} {post : Int32 → Wd → Prop}  (hC : Cx p s m args c cX5_largestClan RX5 5 g) (hR : RtI tabX p l e (rk 1) s m args below meth c Q cX5_largestClan A g post)  : ∀ (n : Nat) (x1 : Int32) (x2 : Int32) (w : Wd) (H : Heap) (locs : List Loc) (ls : Array Slot), pX5_largestClan_4 post n x1 x2 w → St tabX A s.heap g w H locs → lv_has ls 5 [(0, .ref (g.2.2 90)), (1, .int x1), (2, .int x2)] → W p l e (rk 1) s m args below meth c H locs 0 0 Q (F0 m 4 ls []) := by
  have hx := hC.1
  have hb := hC.2.1
  intro n
  induction n with
  | zero =>
    intro x1 x2 w H locs ls hp hS hl
    exact False.elim hp
  | succ n ih =>
    intro x1 x2 w H locs ls hp hS hl
    unfold pX5_largestClan_4 at hp
    refine lv_iload_n hx hb dX5_largestClan_4 rfl (lv_at hl 2 rfl) ?_
    refine lv_aload_n hx hb dX5_largestClan_5 rfl (lv_at hl 0 rfl) ?_
    refine G_90_0 hC hS m1240 dX5_largestClan_6 ?_
    refine lv_icmp_ge (tgt := 63) hx hb dX5_largestClan_9 (by decide) (fun c_1 => ?_) (fun c_1 => ?_)
    · have hp := hp.1 c_1
      refine lv_iload_n hx hb dX5_largestClan_63 rfl (lv_at hl 1 rfl) ?_
      exact hR _ _ _ _ _ _ dX5_largestClan_64 hp hS
    · have hp := hp.2 c_1
      refine lv_iconst hx hb dX5_largestClan_12 kI_0 ?_
      refine lv_istore_n (lv' := [(3, .int (0 : Int32)), (0, .ref (g.2.2 90)), (1, .int x1), (2, .int x2)]) hx hb dX5_largestClan_13 rfl hl (by decide) rfl (fun ls hl => ?_)
      refine lv_iconst hx hb dX5_largestClan_14 kI_0 ?_
      refine lv_istore (lv' := [(4, .int (0 : Int32)), (3, .int (0 : Int32)), (0, .ref (g.2.2 90)), (1, .int x1), (2, .int x2)]) hx hb dX5_largestClan_15 hl (by decide) rfl (fun ls hl => ?_)
      obtain ⟨n9, hp⟩ := hp
      exact bX5_largestClan_17 hC hR ih n9 x1 x2 (0 : Int32) (0 : Int32) w _ _ _ hp hS (lv_sub hl [2, 3, 4, 1, 0] rfl)
set_option maxHeartbeats 4000000 in
set_option maxRecDepth 100000 in
theorem rX5_largestClan {l : Launch} {g : Gw} {w : Wd} {post : Int32 → Wd → Prop}    (hp : pX5_largestClan post  w) : MtI tabX l yX5_largestClan cX5_largestClan 5 (some .int) 1 g w [.ref (g.2.2 90)] post := by
  refine q_entI tabX_nd (by decide) rfl (Nat.le_of_ble_eq_true rfl) ?_
  intro p e s m args below meth c A Q ls hC hR hS hl
  have hx := hC.1
  have hb := hC.2.1
  have hl : lv_has ls 5 [(0, .ref (g.2.2 90))] := hl
  unfold pX5_largestClan at hp
  refine lv_iconst hx hb dX5_largestClan_0 kI_0 ?_
  refine lv_istore_n (lv' := [(1, .int (0 : Int32)), (0, .ref (g.2.2 90))]) hx hb dX5_largestClan_1 rfl hl (by decide) rfl (fun ls hl => ?_)
  refine lv_iconst hx hb dX5_largestClan_2 kI_0 ?_
  refine lv_istore_n (lv' := [(2, .int (0 : Int32)), (1, .int (0 : Int32)), (0, .ref (g.2.2 90))]) hx hb dX5_largestClan_3 rfl hl (by decide) rfl (fun ls hl => ?_)
  obtain ⟨n9, hp⟩ := hp
  exact bX5_largestClan_4 hC hR n9 (0 : Int32) (0 : Int32) w _ _ _ hp hS (lv_sub hl [2, 1, 0] rfl)
def pX10_clans (post : Int32 → Wd → Prop) (x1 : Int32) (x2 : Int32) (x3 : Int32) (w : Wd) : Prop := (x1 < 0 → (post (-1 : Int32) w)) ∧ (¬ x1 < 0 → (((24 : Int32) < x1 → (post (-1 : Int32) w)) ∧ (¬ (24 : Int32) < x1 → ((x2 < 0 → (post (-1 : Int32) w)) ∧ (¬ x2 < 0 → ((x2 ≤ (1 : Int32) → (pX5_gather (fun w_5 => pX5_joinClans (fun w_6 => (¬ x2 = 0 → (pX5_largestClan (fun r_8 w_9 => post r_8 w_9) w_6)) ∧ (x2 = 0 → (pX5_clanCount (fun r_10 w_11 => post r_10 w_11) w_6))) x1 w_5) x3 (w.1 (rl (w.2.2.2.2 0)) 0) w)) ∧ (¬ x2 ≤ (1 : Int32) → (post (-1 : Int32) w))))))))
set_option maxHeartbeats 4000000 in
set_option maxRecDepth 100000 in
theorem rX10_clans {l : Launch} {g : Gw} {w : Wd} {post : Int32 → Wd → Prop}   {x1 : Int32} {x2 : Int32} {x3 : Int32} (hp : pX10_clans post x1 x2 x3 w) : MtI tabX l yX10_clans cX10_clans 4 (some .int) 2 g w [.ref (g.2.2 0), .int x1, .int x2, .int x3] post := by
  refine q_entI tabX_nd (by decide) rfl (Nat.le_of_ble_eq_true rfl) ?_
  intro p e s m args below meth c A Q ls hC hR hS hl
  have hx := hC.1
  have hb := hC.2.1
  have hl : lv_has ls 4 [(0, .ref (g.2.2 0)), (1, .int x1), (2, .int x2), (3, .int x3)] := hl
  unfold pX10_clans at hp
  refine lv_iload_n hx hb dX10_clans_0 rfl (lv_at hl 1 rfl) ?_
  refine lv_if_lt (tgt := 19) hx hb dX10_clans_1 (by decide) (fun c_1 => ?_) (fun c_1 => ?_)
  · have hp := hp.1 c_1
    refine lv_iconst hx hb dX10_clans_19 kI_m1 ?_
    exact hR _ _ _ _ _ _ dX10_clans_20 hp hS
  · have hp := hp.2 c_1
    refine lv_iload_n hx hb dX10_clans_4 rfl (lv_at hl 1 rfl) ?_
    refine lv_bipush hx hb dX10_clans_5 kB_24 ?_
    refine lv_icmp_gt (tgt := 19) hx hb dX10_clans_7 (by decide) (fun c_2 => ?_) (fun c_2 => ?_)
    · have hp := hp.1 c_2
      refine lv_iconst hx hb dX10_clans_19 kI_m1 ?_
      exact hR _ _ _ _ _ _ dX10_clans_20 hp hS
    · have hp := hp.2 c_2
      refine lv_iload_n hx hb dX10_clans_10 rfl (lv_at hl 2 rfl) ?_
      refine lv_if_lt (tgt := 19) hx hb dX10_clans_11 (by decide) (fun c_3 => ?_) (fun c_3 => ?_)
      · have hp := hp.1 c_3
        refine lv_iconst hx hb dX10_clans_19 kI_m1 ?_
        exact hR _ _ _ _ _ _ dX10_clans_20 hp hS
      · have hp := hp.2 c_3
        refine lv_iload_n hx hb dX10_clans_14 rfl (lv_at hl 2 rfl) ?_
        refine lv_iconst hx hb dX10_clans_15 kI_1 ?_
        refine lv_icmp_le (tgt := 21) hx hb dX10_clans_16 (by decide) (fun c_4 => ?_) (fun c_4 => ?_)
        · have hp := hp.1 c_4
          refine lv_aload_n hx hb dX10_clans_21 rfl (lv_at hl 0 rfl) ?_
          refine G_0_8 hC hS m50 dX10_clans_22 ?_
          refine lv_aload_n hx hb dX10_clans_25 rfl (lv_at hl 0 rfl) ?_
          refine G_0_7 hC hS m46 dX10_clans_26 ?_
          refine lv_iload_n hx hb dX10_clans_29 rfl (lv_at hl 3 rfl) ?_
          refine lv_aload_n hx hb dX10_clans_30 rfl (lv_at hl 0 rfl) ?_
          refine G_0_16 hC hS m21 dX10_clans_31 ?_
          refine GR_0 hC hS m678 dX10_clans_34 ?_
          refine q_cvV (As := [.ref (g.2.2 70), .int x3, .int (w.1 (rl (w.2.2.2.2 0)) 0)]) (rest := []) hC hS hl.1 (rX5_gather hp) cwX10_299 yvX5_gather (rcv_90 hC hS) rfl rfl (Nat.le_of_ble_eq_true rfl) (rmk (by decide) (by decide)) dX10_clans_37 (fun w_5 H locs hp hS => ?_)
          refine lv_aload_n hx hb dX10_clans_40 rfl (lv_at hl 0 rfl) ?_
          refine G_0_8 hC hS m50 dX10_clans_41 ?_
          refine lv_iload_n hx hb dX10_clans_44 rfl (lv_at hl 1 rfl) ?_
          refine q_cvV (As := [.int x1]) (rest := []) hC hS hl.1 (rX5_joinClans hp) cwX10_319 yvX5_joinClans (rcv_90 hC hS) rfl rfl (Nat.le_of_ble_eq_true rfl) (rmk (by decide) (by decide)) dX10_clans_45 (fun w_6 H locs hp hS => ?_)
          refine lv_iload_n hx hb dX10_clans_48 rfl (lv_at hl 2 rfl) ?_
          refine lv_if_ne (tgt := 62) hx hb dX10_clans_49 (by decide) (fun c_7 => ?_) (fun c_7 => ?_)
          · have hp := hp.1 c_7
            refine lv_aload_n hx hb dX10_clans_62 rfl (lv_at hl 0 rfl) ?_
            refine G_0_8 hC hS m50 dX10_clans_63 ?_
            refine q_cvI (As := []) (rest := []) hC hS hl.1 (rX5_largestClan hp) cwX10_325 yvX5_largestClan (rcv_90 hC hS) rfl rfl (Nat.le_of_ble_eq_true rfl) (rmk (by decide) (by decide)) dX10_clans_66 (fun r_8 w_9 H locs hp hS => ?_)
            exact hR _ _ _ _ _ _ dX10_clans_69 hp hS
          · have hp := hp.2 c_7
            refine lv_aload_n hx hb dX10_clans_52 rfl (lv_at hl 0 rfl) ?_
            refine G_0_8 hC hS m50 dX10_clans_53 ?_
            refine q_cvI (As := []) (rest := []) hC hS hl.1 (rX5_clanCount hp) cwX10_322 yvX5_clanCount (rcv_90 hC hS) rfl rfl (Nat.le_of_ble_eq_true rfl) (rmk (by decide) (by decide)) dX10_clans_56 (fun r_10 w_11 H locs hp hS => ?_)
            refine lv_goto (tgt := 69) hx hb dX10_clans_59 (by decide) ?_
            exact hR _ _ _ _ _ _ dX10_clans_69 hp hS
        · have hp := hp.2 c_4
          refine lv_iconst hx hb dX10_clans_19 kI_m1 ?_
          exact hR _ _ _ _ _ _ dX10_clans_20 hp hS
