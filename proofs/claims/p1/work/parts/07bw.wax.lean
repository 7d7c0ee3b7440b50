theorem m1120 : (Cond.methodLink RX9 47 yX9_waxFrom) ∈ wsL_law := rin47 _ (List.mem_of_getElem? (i := 16) (by decide +kernel))
theorem m1121 : (Cond.instanceMethod yX9_waxFrom) ∈ wsL_law := rin47 _ (List.mem_of_getElem? (i := 17) (by decide +kernel))
theorem m1122 : (Cond.selects RX9 yX9_waxFrom yX9_waxFrom) ∈ wsL_law := rin47 _ (List.mem_of_getElem? (i := 18) (by decide +kernel))
theorem m1123 : (Cond.code yX9_waxFrom cX9_waxFrom 9 (some .int)) ∈ wsL_law := rin47 _ (List.mem_of_getElem? (i := 19) (by decide +kernel))
theorem cwX9_47 : GoodIn wsL_law (wsV RX9 47 RX9 yX9_waxFrom (.code yX9_waxFrom cX9_waxFrom 9 (some .int) :: wsL_law)) := gV m1120 m1121 m1122 m41 m1123
theorem yvX9_waxFrom : Yv yX9_waxFrom RX9 2 := by decide +kernel
def pX9_seekW_100 (k53 : Int32 → Int32 → Wd → Prop) (post : Int32 → Wd → Prop) (x3 : Int32) (x4 : Int32) (w : Wd) : Prop := ∀ x4_1, x4_1 = x4 + (1 : Int32) → k53 x3 x4_1 w
def pX9_seekW_53 (post : Int32 → Wd → Prop) : Nat → Int32 → Int32 → Wd → Prop
  | 0, _, _, _ => False
  | n + 1, x3, x4, w => ((w.1 160 0) ≤ x4 → (post x3 w)) ∧ (¬ (w.1 160 0) ≤ x4 → (vp_in x4 24 ∧ pX9_waxFrom (fun r_2 w_3 => ((w_3.1 60 5) ≤ r_2 → (pX9_seekW_100 (pX9_seekW_53 post n) post x3 x4 w_3)) ∧ (¬ (w_3.1 60 5) ≤ r_2 → (∀ w_5, w_5 = sI w_3 60 5 r_2 → pX9_seekW_100 (pX9_seekW_53 post n) post x4 x4 w_5))) (w.2.1 162 x4.toNatClampNeg) (4 : Int32) w))
def pX9_seekW_18 (post : Int32 → Wd → Prop) : Nat → Int32 → Wd → Prop
  | 0, _, _ => False
  | n + 1, x3, w => (((3 : Int32) * (w.1 60 4)) ≤ x3 → (∀ w_2, w_2 = sI w 60 5 (1000 : Int32) → ∃ n9, pX9_seekW_53 post n9 (-1 : Int32) (0 : Int32) w_2)) ∧ (¬ ((3 : Int32) * (w.1 60 4)) ≤ x3 → (vp_in x3 12288 ∧ ∀ w_3, w_3 = sA w 63 x3.toNatClampNeg (-1 : Int32) → ∀ x3_4, x3_4 = x3 + (1 : Int32) → pX9_seekW_18 post n x3_4 w_3))
def pX9_seekW (post : Int32 → Wd → Prop) (x1 : Int32) (x2 : Int32) (w : Wd) : Prop := ∀ w_1, w_1 = sI w 60 3 x1 → ∀ w_2, w_2 = sI w_1 60 4 (if (4096 : Int32) < x2 then (4096 : Int32) else x2) → ∃ n9, pX9_seekW_18 post n9 (0 : Int32) w_2
set_option maxHeartbeats 4000000 in
set_option maxRecDepth 100000 in
theorem bX9_seekW_100 {p : Program} {l : Launch} {e : Env} {s : State} {m : MethodId} {args : Array Value} {below : List Frame} {meth : Method} {c : Code} {Q : State → Prop} {A : Nat → Prop} {g : Gw} {post : Int32 → Wd → Prop}  (hC : Cx p s m args c cX9_seek RX9 6 g) (hR : RtI tabX p l e (rk 3) s m args below meth c Q cX9_seek A g post)  {k53 : Int32 → Int32 → Wd → Prop} (hk53 : ∀ (x3 : Int32) (x4 : Int32) (w : Wd) (H : Heap) (locs : List Loc) (ls : Array Slot), k53 x3 x4 w → St tabX A s.heap g w H locs → lv_has ls 6 [(0, .ref (g.2.2 60)), (3, .int x3), (4, .int x4)] → W p l e (rk 3) s m args below meth c H locs 0 0 Q (F0 m 53 ls [])) : ∀ (x3 : Int32) (x4 : Int32) (w : Wd) (H : Heap) (locs : List Loc) (ls : Array Slot), pX9_seekW_100 k53 post x3 x4 w → St tabX A s.heap g w H locs → lv_has ls 6 [(0, .ref (g.2.2 60)), (3, .int x3), (4, .int x4)] → W p l e (rk 3) s m args below meth c H locs 0 0 Q (F0 m 100 ls []) := by
  have hx := hC.1
  have hb := hC.2.1
  intro x3 x4 w H locs ls hp hS hl
  unfold pX9_seekW_100 at hp
  obtain ⟨x4_1, ex4_1⟩ : ∃ y : Int32, y = x4 + (1 : Int32) := ⟨_, rfl⟩
  have hp := hp x4_1 ex4_1
  refine lv_iinc (v := x4_1) (lv' := [(4, .int x4_1), (0, .ref (g.2.2 60)), (3, .int x3)]) hx hb dX9_seek_100 hl (k := 2) rfl (by rw [ex4_1]; rfl) (by decide) rfl (fun ls hl => ?_)
  refine lv_goto (tgt := 53) hx hb dX9_seek_103 (by decide) ?_
  exact hk53 x3 x4_1 w _ _ _ hp hS (lv_sub hl [1, 2, 0] rfl)
set_option maxHeartbeats 4000000 in
set_option maxRecDepth 100000 in
theorem bX9_seekW_53 {p : Program} {l : Launch} {e : Env} {s : State} {m : MethodId} {args : Array Value} {below : List Frame} {meth : Method} {c : Code} {Q : State → Prop} {A : Nat → Prop} {g : Gw} {post : Int32 → Wd → Prop}  (hC : Cx p s m args c cX9_seek RX9 6 g) (hR : RtI tabX p l e (rk 3) s m args below meth c Q cX9_seek A g post)  : ∀ (n : Nat) (x3 : Int32) (x4 : Int32) (w : Wd) (H : Heap) (locs : List Loc) (ls : Array Slot), pX9_seekW_53 post n x3 x4 w → St tabX A s.heap g w H locs → lv_has ls 6 [(0, .ref (g.2.2 60)), (3, .int x3), (4, .int x4)] → W p l e (rk 3) s m args below meth c H locs 0 0 Q (F0 m 53 ls []) := by
  have hx := hC.1
  have hb := hC.2.1
  intro n
  induction n with
  | zero =>
    intro x3 x4 w H locs ls hp hS hl
    exact False.elim hp
  | succ n ih =>
    intro x3 x4 w H locs ls hp hS hl
    unfold pX9_seekW_53 at hp
    refine lv_iload hx hb dX9_seek_53 (lv_at hl 2 rfl) ?_
    refine lv_aload_n hx hb dX9_seek_55 rfl (lv_at hl 0 rfl) ?_
    refine G_60_0 hC hS m188 dX9_seek_56 ?_
    refine G_160_0 hC hS m1118 dX9_seek_59 ?_
    refine lv_icmp_ge (tgt := 106) hx hb dX9_seek_62 (by decide) (fun c_1 => ?_) (fun c_1 => ?_)
    · have hp := hp.1 c_1
      refine lv_iload_n hx hb dX9_seek_106 rfl (lv_at hl 1 rfl) ?_
      exact hR _ _ _ _ _ _ dX9_seek_107 hp hS
    · have hp := hp.2 c_1
      refine lv_aload_n hx hb dX9_seek_65 rfl (lv_at hl 0 rfl) ?_
      refine lv_aload_n hx hb dX9_seek_66 rfl (lv_at hl 0 rfl) ?_
      refine G_60_0 hC hS m188 dX9_seek_67 ?_
      refine G_160_1 hC hS m1119 dX9_seek_70 ?_
      refine lv_iload hx hb dX9_seek_73 (lv_at hl 2 rfl) ?_
      refine La_162 hC hS hp.1 dX9_seek_75 ?_
      have hp := hp.2
      refine lv_iconst hx hb dX9_seek_76 kI_4 ?_
      refine q_cvI (As := [.int (w.2.1 162 x4.toNatClampNeg), .int (4 : Int32)]) (rest := []) hC hS hl.1 (rX9_waxFrom hp) cwX9_47 yvX9_waxFrom (rcv_60 hC hS) rfl rfl (Nat.le_of_ble_eq_true rfl) (rmk (by decide) (by decide)) dX9_seek_77 (fun r_2 w_3 H locs hp hS => ?_)
      refine lv_istore (lv' := [(5, .int r_2), (0, .ref (g.2.2 60)), (3, .int x3), (4, .int x4)]) hx hb dX9_seek_80 hl (by decide) rfl (fun ls hl => ?_)
      refine lv_iload hx hb dX9_seek_82 (lv_at hl 0 rfl) ?_
      refine lv_aload_n hx hb dX9_seek_84 rfl (lv_at hl 1 rfl) ?_
      refine G_60_5 hC hS m1117 dX9_seek_85 ?_
      refine lv_icmp_ge (tgt := 100) hx hb dX9_seek_88 (by decide) (fun c_4 => ?_) (fun c_4 => ?_)
      · have hp := hp.1 c_4
        exact bX9_seekW_100 hC hR ih x3 x4 w_3 _ _ _ hp hS (lv_sub hl [1, 2, 3] rfl)
      · have hp := hp.2 c_4
        refine lv_aload_n hx hb dX9_seek_91 rfl (lv_at hl 1 rfl) ?_
        refine lv_iload hx hb dX9_seek_92 (lv_at hl 0 rfl) ?_
        refine P_60_5 hC hS m1117 dX9_seek_94 (fun w_5 H locs ew_5 hS => ?_)
        have hp := hp w_5 ew_5
        refine lv_iload hx hb dX9_seek_97 (lv_at hl 3 rfl) ?_
        refine lv_istore_n (lv' := [(3, .int x4), (5, .int r_2), (0, .ref (g.2.2 60)), (4, .int x4)]) hx hb dX9_seek_99 rfl hl (by decide) rfl (fun ls hl => ?_)
        exact bX9_seekW_100 hC hR ih x4 x4 w_5 _ _ _ hp hS (lv_sub hl [2, 0, 3] rfl)
set_option maxHeartbeats 4000000 in
set_option maxRecDepth 100000 in
theorem bX9_seekW_18 {p : Program} {l : Launch} {e : Env} {s : State} {m : MethodId} {args : Array Value} {below : List Frame} {meth : Method} {c : Code} {Q : State → Prop} {A : Nat → Prop} {g : Gw} {post : Int32 → Wd → Prop}  (hC : Cx p s m args c cX9_seek RX9 6 g) (hR : RtI tabX p l e (rk 3) s m args below meth c Q cX9_seek A g post)  : ∀ (n : Nat) (x3 : Int32) (w : Wd) (H : Heap) (locs : List Loc) (ls : Array Slot), pX9_seekW_18 post n x3 w → St tabX A s.heap g w H locs → lv_has ls 6 [(0, .ref (g.2.2 60)), (3, .int x3)] → W p l e (rk 3) s m args below meth c H locs 0 0 Q (F0 m 18 ls []) := by
  have hx := hC.1
  have hb := hC.2.1
  intro n
  induction n with
  | zero =>
    intro x3 w H locs ls hp hS hl
    exact False.elim hp
  | succ n ih =>
    intro x3 w H locs ls hp hS hl
    unfold pX9_seekW_18 at hp
    refine lv_iload_n hx hb dX9_seek_18 rfl (lv_at hl 1 rfl) ?_
    refine lv_iconst hx hb dX9_seek_19 kI_3 ?_
    refine lv_aload_n hx hb dX9_seek_20 rfl (lv_at hl 0 rfl) ?_
    refine G_60_4 hC hS m1116 dX9_seek_21 ?_
    refine lv_imul hx hb dX9_seek_24 ?_
    refine lv_icmp_ge (tgt := 41) hx hb dX9_seek_25 (by decide) (fun c_1 => ?_) (fun c_1 => ?_)
    · have hp := hp.1 c_1
      refine lv_aload_n hx hb dX9_seek_41 rfl (lv_at hl 0 rfl) ?_
      refine lv_sipush hx hb dX9_seek_42 kS_1000 ?_
      refine P_60_5 hC hS m1117 dX9_seek_45 (fun w_2 H locs ew_2 hS => ?_)
      have hp := hp w_2 ew_2
      refine lv_iconst hx hb dX9_seek_48 kI_m1 ?_
      refine lv_istore_n (lv' := [(3, .int (-1 : Int32)), (0, .ref (g.2.2 60))]) hx hb dX9_seek_49 rfl hl (by decide) rfl (fun ls hl => ?_)
      refine lv_iconst hx hb dX9_seek_50 kI_0 ?_
      refine lv_istore (lv' := [(4, .int (0 : Int32)), (3, .int (-1 : Int32)), (0, .ref (g.2.2 60))]) hx hb dX9_seek_51 hl (by decide) rfl (fun ls hl => ?_)
      obtain ⟨n9, hp⟩ := hp
      exact bX9_seekW_53 hC hR n9 (-1 : Int32) (0 : Int32) w_2 _ _ _ hp hS (lv_sub hl [2, 1, 0] rfl)
    · have hp := hp.2 c_1
      refine lv_aload_n hx hb dX9_seek_28 rfl (lv_at hl 0 rfl) ?_
      refine G_60_2 hC hS m190 dX9_seek_29 ?_
      refine lv_iload_n hx hb dX9_seek_32 rfl (lv_at hl 1 rfl) ?_
      refine lv_iconst hx hb dX9_seek_33 kI_m1 ?_
      refine Sa_63 hC hS hp.1 dX9_seek_34 (fun w_3 H locs ew_3 hS => ?_)
      have hp := hp.2
      have hp := hp w_3 ew_3
      obtain ⟨x3_4, ex3_4⟩ : ∃ y : Int32, y = x3 + (1 : Int32) := ⟨_, rfl⟩
      have hp := hp x3_4 ex3_4
      refine lv_iinc (v := x3_4) (lv' := [(3, .int x3_4), (0, .ref (g.2.2 60))]) hx hb dX9_seek_35 hl (k := 1) rfl (by rw [ex3_4]; rfl) (by decide) rfl (fun ls hl => ?_)
      refine lv_goto (tgt := 18) hx hb dX9_seek_38 (by decide) ?_
      exact ih x3_4 w_3 _ _ _ hp hS (lv_sub hl [1, 0] rfl)
set_option maxHeartbeats 4000000 in
set_option maxRecDepth 100000 in
theorem rX9_seekW {l : Launch} {g : Gw} {w : Wd} {post : Int32 → Wd → Prop}   {x1 : Int32} {x2 : Int32} (hp : pX9_seekW post x1 x2 w) : MtI tabX l yX9_seek cX9_seek 6 (some .int) 3 g w [.ref (g.2.2 60), .int x1, .int x2] post := by
  refine q_entI tabX_nd (by decide) rfl (Nat.le_of_ble_eq_true rfl) ?_
  intro p e s m args below meth c A Q ls hC hR hS hl
  have hx := hC.1
  have hb := hC.2.1
  have hl : lv_has ls 6 [(0, .ref (g.2.2 60)), (1, .int x1), (2, .int x2)] := hl
  unfold pX9_seekW at hp
  refine lv_aload_n hx hb dX9_seek_0 rfl (lv_at hl 0 rfl) ?_
  refine lv_iload_n hx hb dX9_seek_1 rfl (lv_at hl 1 rfl) ?_
  refine P_60_3 hC hS m1114 dX9_seek_2 (fun w_1 H locs ew_1 hS => ?_)
  have hp := hp w_1 ew_1
  refine lv_aload_n hx hb dX9_seek_5 rfl (lv_at hl 0 rfl) ?_
  refine lv_iload_n hx hb dX9_seek_6 rfl (lv_at hl 2 rfl) ?_
  refine lv_sipush hx hb dX9_seek_7 kS_4096 ?_
  refine q_min hC hl.1 m1115 m347 m348 m349 (rmm (by decide) (Nat.le_of_ble_eq_true rfl)) dX9_seek_10 ?_
  refine P_60_4 hC hS m1116 dX9_seek_13 (fun w_2 H locs ew_2 hS => ?_)
  have hp := hp w_2 ew_2
  refine lv_iconst hx hb dX9_seek_16 kI_0 ?_
  refine lv_istore_n (lv' := [(3, .int (0 : Int32)), (0, .ref (g.2.2 60)), (1, .int x1), (2, .int x2)]) hx hb dX9_seek_17 rfl hl (by decide) rfl (fun ls hl => ?_)
  obtain ⟨n9, hp⟩ := hp
  exact bX9_seekW_18 hC hR n9 (0 : Int32) w_2 _ _ _ hp hS (lv_sub hl [1, 0] rfl)
def pX10_waxW (post : Int32 → Wd → Prop) (x1 : Int32) (w : Wd) : Prop := ∀ w_1, w_1 = sI w 110 1 (0 : Int32) → pX10_isRow (fun r_2 w_3 => (¬ r_2 = 0 → (pX7_rows (fun r_5 w_6 => pX9_seekW (fun r_7 w_8 => pX10_isSeal (fun r_9 w_10 => (¬ r_9 = 0 → (pX4_lay (fun w_12 => vp_in r_7 24 ∧ pX9_layWay (fun w_13 => post (w_13.1 60 5) w_13) (w_12.2.1 162 r_7.toNatClampNeg) w_12) r_7 w_10)) ∧ (r_9 = 0 → (post (-1 : Int32) w_10))) r_7 w_8) x1 r_5 w_6) (w_3.2.2.2.2 0) w_3)) ∧ (r_2 = 0 → (post (-1 : Int32) w_3))) x1 w_1
set_option maxHeartbeats 4000000 in
set_option maxRecDepth 100000 in
theorem rX10_waxW {l : Launch} {g : Gw} {w : Wd} {post : Int32 → Wd → Prop}   {x1 : Int32} (hp : pX10_waxW post x1 w) : MtI tabX l yX10_wax cX10_wax 3 (some .int) 4 g w [.ref (g.2.2 0), .int x1] post := by
  refine q_entI tabX_nd (by decide) rfl (Nat.le_of_ble_eq_true rfl) ?_
  intro p e s m args below meth c A Q ls hC hR hS hl
  have hx := hC.1
  have hb := hC.2.1
  have hl : lv_has ls 3 [(0, .ref (g.2.2 0)), (1, .int x1)] := hl
  unfold pX10_waxW at hp
  refine lv_aload_n hx hb dX10_wax_0 rfl (lv_at hl 0 rfl) ?_
  refine G_0_9 hC hS m54 dX10_wax_1 ?_
  refine lv_iconst hx hb dX10_wax_4 kI_0 ?_
  refine P_110_1 hC hS m224 dX10_wax_5 (fun w_1 H locs ew_1 hS => ?_)
  have hp := hp w_1 ew_1
  refine lv_aload_n hx hb dX10_wax_8 rfl (lv_at hl 0 rfl) ?_
  refine lv_iload_n hx hb dX10_wax_9 rfl (lv_at hl 1 rfl) ?_
  refine q_cvI (As := [.int x1]) (rest := []) hC hS hl.1 (rX10_isRow hp) cwX10_180 yvX10_isRow (rcv_0 hC hS) rfl rfl (Nat.le_of_ble_eq_true rfl) (rmk (by decide) (by decide)) dX10_wax_10 (fun r_2 w_3 H locs hp hS => ?_)
  refine lv_if_ne (tgt := 18) hx hb dX10_wax_13 (by decide) (fun c_4 => ?_) (fun c_4 => ?_)
  · have hp := hp.1 c_4
    refine lv_aload_n hx hb dX10_wax_18 rfl (lv_at hl 0 rfl) ?_
    refine G_0_6 hC hS m42 dX10_wax_19 ?_
    refine lv_iload_n hx hb dX10_wax_22 rfl (lv_at hl 1 rfl) ?_
    refine lv_aload_n hx hb dX10_wax_23 rfl (lv_at hl 0 rfl) ?_
    refine G_0_16 hC hS m21 dX10_wax_24 ?_
    refine q_cvI (As := []) (rest := [.int x1, .ref (g.2.2 60)]) hC hS hl.1 (rX7_rows hp) cwX10_240 yvX7_rows (rcvR hC hS) rfl rfl (Nat.le_of_ble_eq_true rfl) (rmk (by decide) (by decide)) dX10_wax_27 (fun r_5 w_6 H locs hp hS => ?_)
    refine q_cvI (As := [.int x1, .int r_5]) (rest := []) hC hS hl.1 (rX9_seekW hp) cwX10_271 yvX9_seek (rcv_60 hC hS) rfl rfl (Nat.le_of_ble_eq_true rfl) (rmk (by decide) (by decide)) dX10_wax_30 (fun r_7 w_8 H locs hp hS => ?_)
    refine lv_istore_n (lv' := [(2, .int r_7), (0, .ref (g.2.2 0)), (1, .int x1)]) hx hb dX10_wax_33 rfl hl (by decide) rfl (fun ls hl => ?_)
    refine lv_aload_n hx hb dX10_wax_34 rfl (lv_at hl 1 rfl) ?_
    refine lv_iload_n hx hb dX10_wax_35 rfl (lv_at hl 0 rfl) ?_
    refine q_cvI (As := [.int r_7]) (rest := []) hC hS hl.1 (rX10_isSeal hp) cwX10_149 yvX10_isSeal (rcv_0 hC hS) rfl rfl (Nat.le_of_ble_eq_true rfl) (rmk (by decide) (by decide)) dX10_wax_36 (fun r_9 w_10 H locs hp hS => ?_)
    refine lv_if_ne (tgt := 44) hx hb dX10_wax_39 (by decide) (fun c_11 => ?_) (fun c_11 => ?_)
    · have hp := hp.1 c_11
      refine lv_aload_n hx hb dX10_wax_44 rfl (lv_at hl 1 rfl) ?_
      refine G_0_9 hC hS m54 dX10_wax_45 ?_
      refine lv_iload_n hx hb dX10_wax_48 rfl (lv_at hl 0 rfl) ?_
      refine q_cvV (As := [.int r_7]) (rest := []) hC hS hl.1 (rX4_lay hp) cwX10_263 yvX4_lay (rcv_110 hC hS) rfl rfl (Nat.le_of_ble_eq_true rfl) (rmk (by decide) (by decide)) dX10_wax_49 (fun w_12 H locs hp hS => ?_)
      refine lv_aload_n hx hb dX10_wax_52 rfl (lv_at hl 1 rfl) ?_
      refine G_0_6 hC hS m42 dX10_wax_53 ?_
      refine lv_aload_n hx hb dX10_wax_56 rfl (lv_at hl 1 rfl) ?_
      refine G_0_3 hC hS m30 dX10_wax_57 ?_
      refine G_160_1 hC hS m613 dX10_wax_60 ?_
      refine lv_iload_n hx hb dX10_wax_63 rfl (lv_at hl 0 rfl) ?_
      refine La_162 hC hS hp.1 dX10_wax_64 ?_
      have hp := hp.2
      refine lv_aload_n hx hb dX10_wax_65 rfl (lv_at hl 1 rfl) ?_
      refine G_0_9 hC hS m54 dX10_wax_66 ?_
      refine q_cvV (As := [.int (w_12.2.1 162 r_7.toNatClampNeg), .ref (g.2.2 110)]) (rest := []) hC hS hl.1 (rX9_layWay hp) cwX10_274 yvX9_layWay (rcv_60 hC hS) rfl rfl (Nat.le_of_ble_eq_true rfl) (rmk (by decide) (by decide)) dX10_wax_69 (fun w_13 H locs hp hS => ?_)
      refine lv_aload_n hx hb dX10_wax_72 rfl (lv_at hl 1 rfl) ?_
      refine G_0_6 hC hS m42 dX10_wax_73 ?_
      refine G_60_5 hC hS m1109 dX10_wax_76 ?_
      exact hR _ _ _ _ _ _ dX10_wax_79 hp hS
    · have hp := hp.2 c_11
      refine lv_iconst hx hb dX10_wax_42 kI_m1 ?_
      exact hR _ _ _ _ _ _ dX10_wax_43 hp hS
  · have hp := hp.2 c_4
    refine lv_iconst hx hb dX10_wax_16 kI_m1 ?_
    exact hR _ _ _ _ _ _ dX10_wax_17 hp hS
