def pX11_chancery_95 (post : Int32 → Wd → Prop)  (w : Wd) : Prop := pX11_isGood (fun r_1 w_2 => (¬ r_1 = 0 → (∀ w_4, w_4 = sI w_2 300 29 (w_2.1 300 30) → pX11_startAnew (fun w_5 => vp_in (w_5.1 300 29) 2 ∧ post (w_5.2.1 314 (w_5.1 300 29).toNatClampNeg) w_5) w_4)) ∧ (r_1 = 0 → (post (-1 : Int32) w_2))) w
def pX11_chancery_74 (post : Int32 → Wd → Prop) : Nat → Wd → Prop
  | 0, _ => False
  | n + 1, w => pX11_isGood (fun r_1 w_2 => (r_1 = 0 → (pX11_chancery_95 post  w_2)) ∧ (¬ r_1 = 0 → (((w_2.1 300 8) = 0 → (pX11_chancery_95 post  w_2)) ∧ (¬ (w_2.1 300 8) = 0 → (pX11_readLine (fun w_5 => pX11_chancery_74 post n  w_5) w_2))))) w
def pX11_chancery_20 (post : Int32 → Wd → Prop) : Nat → Int32 → Wd → Prop
  | 0, _, _ => False
  | n + 1, x1, w => ((w.1 300 3) ≤ x1 → (∀ w_2, w_2 = sI w 300 2 (0 : Int32) → ∀ w_3, w_3 = sI w_2 300 7 (0 : Int32) → ∀ w_4, w_4 = sI w_3 300 30 ((1 : Int32) - (w_3.1 300 29)) → pX11_clearBank (fun w_5 => pX11_goOn (fun w_6 => ∃ n9, pX11_chancery_74 post n9  w_6) w_5) w_4)) ∧ (¬ (w.1 300 3) ≤ x1 → (vp_in x1 1620 ∧ vp_in x1 1600 ∧ ∀ w_7, w_7 = sA w 302 x1.toNatClampNeg (vp_nar .byte (w.2.1 301 x1.toNatClampNeg)) → ∀ x1_8, x1_8 = x1 + (1 : Int32) → pX11_chancery_20 post n x1_8 w_7))
def pX11_chancery (post : Int32 → Wd → Prop)  (w : Wd) : Prop := ∀ w_1, w_1 = sI w 300 4 (0 : Int32) → ∀ w_2, w_2 = sI w_1 300 5 (-1 : Int32) → ∀ w_3, w_3 = sI w_2 300 3 (w_2.1 300 2) → ∃ n9, pX11_chancery_20 post n9 (0 : Int32) w_3
set_option maxHeartbeats 4000000 in
set_option maxRecDepth 100000 in
theorem bX11_chancery_95 {p : Program} {l : Launch} {e : Env} {s : State} {m : MethodId} {args : Array Value} {below : List Frame} {meth : Method} {c : Code} {Q : State → Prop} {A : Nat → Prop} {g : Gw} {post : Int32 → Wd → Prop}  (hC : Cx p s m args c cX11_chancery RX11 2 g) (hR : RtI tabM p l e (rk 9) s m args below meth c Q cX11_chancery A g post)  : ∀  (w : Wd) (H : Heap) (locs : List Loc) (ls : Array Slot), pX11_chancery_95 post  w → St tabM A s.heap g w H locs → lv_has ls 2 [(0, .ref (g.2.2 300))] → W p l e (rk 9) s m args below meth c H locs 0 0 Q (F0 m 95 ls []) := by
  have hx := hC.1
  have hb := hC.2.1
  intro  w H locs ls hp hS hl
  unfold pX11_chancery_95 at hp
  refine lv_aload_n hx hb dX11_chancery_95 rfl (lv_at hl 0 rfl) ?_
  refine q_cvI (As := []) (rest := []) hC hS hl.1 (rX11_isGood hp) cwX11_231 yvX11_isGood (rcv_300 hC hS) rfl rfl (Nat.le_of_ble_eq_true rfl) (rmk (by decide) (by decide)) dX11_chancery_96 (fun r_1 w_2 H locs hp hS => ?_)
  refine lv_if_ne (tgt := 104) hx hb dX11_chancery_99 (by decide) (fun c_3 => ?_) (fun c_3 => ?_)
  · have hp := hp.1 c_3
    refine lv_aload_n hx hb dX11_chancery_104 rfl (lv_at hl 0 rfl) ?_
    refine lv_aload_n hx hb dX11_chancery_105 rfl (lv_at hl 0 rfl) ?_
    refine G_300_30 hC hS m302 dX11_chancery_106 ?_
    refine P_300_29 hC hS m308 dX11_chancery_109 (fun w_4 H locs ew_4 hS => ?_)
    have hp := hp w_4 ew_4
    refine lv_aload_n hx hb dX11_chancery_112 rfl (lv_at hl 0 rfl) ?_
    refine q_cvV (As := []) (rest := []) hC hS hl.1 (rX11_startAnew hp) cwX11_150 yvX11_startAnew (rcv_300 hC hS) rfl rfl (Nat.le_of_ble_eq_true rfl) (rmk (by decide) (by decide)) dX11_chancery_113 (fun w_5 H locs hp hS => ?_)
    refine lv_aload_n hx hb dX11_chancery_116 rfl (lv_at hl 0 rfl) ?_
    refine G_300_13 hC hS m258 dX11_chancery_117 ?_
    refine lv_aload_n hx hb dX11_chancery_120 rfl (lv_at hl 0 rfl) ?_
    refine G_300_29 hC hS m308 dX11_chancery_121 ?_
    refine La_314 hC hS hp.1 dX11_chancery_124 ?_
    have hp := hp.2
    exact hR _ _ _ _ _ _ dX11_chancery_125 hp hS
  · have hp := hp.2 c_3
    refine lv_iconst hx hb dX11_chancery_102 kI_m1 ?_
    exact hR _ _ _ _ _ _ dX11_chancery_103 hp hS
set_option maxHeartbeats 4000000 in
set_option maxRecDepth 100000 in
theorem bX11_chancery_74 {p : Program} {l : Launch} {e : Env} {s : State} {m : MethodId} {args : Array Value} {below : List Frame} {meth : Method} {c : Code} {Q : State → Prop} {A : Nat → Prop} {g : Gw} {post : Int32 → Wd → Prop}  (hC : Cx p s m args c cX11_chancery RX11 2 g) (hR : RtI tabM p l e (rk 9) s m args below meth c Q cX11_chancery A g post)  : ∀ (n : Nat)  (w : Wd) (H : Heap) (locs : List Loc) (ls : Array Slot), pX11_chancery_74 post n  w → St tabM A s.heap g w H locs → lv_has ls 2 [(0, .ref (g.2.2 300))] → W p l e (rk 9) s m args below meth c H locs 0 0 Q (F0 m 74 ls []) := by
  have hx := hC.1
  have hb := hC.2.1
  intro n
  induction n with
  | zero =>
    intro  w H locs ls hp hS hl
    exact False.elim hp
  | succ n ih =>
    intro  w H locs ls hp hS hl
    unfold pX11_chancery_74 at hp
    refine lv_aload_n hx hb dX11_chancery_74 rfl (lv_at hl 0 rfl) ?_
    refine q_cvI (As := []) (rest := []) hC hS hl.1 (rX11_isGood hp) cwX11_231 yvX11_isGood (rcv_300 hC hS) rfl rfl (Nat.le_of_ble_eq_true rfl) (rmk (by decide) (by decide)) dX11_chancery_75 (fun r_1 w_2 H locs hp hS => ?_)
    refine lv_if_eq (tgt := 95) hx hb dX11_chancery_78 (by decide) (fun c_3 => ?_) (fun c_3 => ?_)
    · have hp := hp.1 c_3
      exact bX11_chancery_95 hC hR  w_2 _ _ _ hp hS (lv_sub hl [0] rfl)
    · have hp := hp.2 c_3
      refine lv_aload_n hx hb dX11_chancery_81 rfl (lv_at hl 0 rfl) ?_
      refine G_300_8 hC hS m473 dX11_chancery_82 ?_
      refine lv_if_eq (tgt := 95) hx hb dX11_chancery_85 (by decide) (fun c_4 => ?_) (fun c_4 => ?_)
      · have hp := hp.1 c_4
        exact bX11_chancery_95 hC hR  w_2 _ _ _ hp hS (lv_sub hl [0] rfl)
      · have hp := hp.2 c_4
        refine lv_aload_n hx hb dX11_chancery_88 rfl (lv_at hl 0 rfl) ?_
        refine q_cvV (As := []) (rest := []) hC hS hl.1 (rX11_readLine hp) cwX11_253 yvX11_readLine (rcv_300 hC hS) rfl rfl (Nat.le_of_ble_eq_true rfl) (rmk (by decide) (by decide)) dX11_chancery_89 (fun w_5 H locs hp hS => ?_)
        refine lv_goto (tgt := 74) hx hb dX11_chancery_92 (by decide) ?_
        exact ih  w_5 _ _ _ hp hS (lv_sub hl [0] rfl)
set_option maxHeartbeats 4000000 in
set_option maxRecDepth 100000 in
theorem bX11_chancery_20 {p : Program} {l : Launch} {e : Env} {s : State} {m : MethodId} {args : Array Value} {below : List Frame} {meth : Method} {c : Code} {Q : State → Prop} {A : Nat → Prop} {g : Gw} {post : Int32 → Wd → Prop}  (hC : Cx p s m args c cX11_chancery RX11 2 g) (hR : RtI tabM p l e (rk 9) s m args below meth c Q cX11_chancery A g post)  : ∀ (n : Nat) (x1 : Int32) (w : Wd) (H : Heap) (locs : List Loc) (ls : Array Slot), pX11_chancery_20 post n x1 w → St tabM A s.heap g w H locs → lv_has ls 2 [(0, .ref (g.2.2 300)), (1, .int x1)] → W p l e (rk 9) s m args below meth c H locs 0 0 Q (F0 m 20 ls []) := by
  have hx := hC.1
  have hb := hC.2.1
  intro n
  induction n with
  | zero =>
    intro x1 w H locs ls hp hS hl
    exact False.elim hp
  | succ n ih =>
    intro x1 w H locs ls hp hS hl
    unfold pX11_chancery_20 at hp
    refine lv_iload_n hx hb dX11_chancery_20 rfl (lv_at hl 1 rfl) ?_
    refine lv_aload_n hx hb dX11_chancery_21 rfl (lv_at hl 0 rfl) ?_
    refine G_300_3 hC hS m471 dX11_chancery_22 ?_
    refine lv_icmp_ge (tgt := 46) hx hb dX11_chancery_25 (by decide) (fun c_1 => ?_) (fun c_1 => ?_)
    · have hp := hp.1 c_1
      refine lv_aload_n hx hb dX11_chancery_46 rfl (lv_at hl 0 rfl) ?_
      refine lv_iconst hx hb dX11_chancery_47 kI_0 ?_
      refine P_300_2 hC hS m325 dX11_chancery_48 (fun w_2 H locs ew_2 hS => ?_)
      have hp := hp w_2 ew_2
      refine lv_aload_n hx hb dX11_chancery_51 rfl (lv_at hl 0 rfl) ?_
      refine lv_iconst hx hb dX11_chancery_52 kI_0 ?_
      refine P_300_7 hC hS m472 dX11_chancery_53 (fun w_3 H locs ew_3 hS => ?_)
      have hp := hp w_3 ew_3
      refine lv_aload_n hx hb dX11_chancery_56 rfl (lv_at hl 0 rfl) ?_
      refine lv_iconst hx hb dX11_chancery_57 kI_1 ?_
      refine lv_aload_n hx hb dX11_chancery_58 rfl (lv_at hl 0 rfl) ?_
      refine G_300_29 hC hS m308 dX11_chancery_59 ?_
      refine lv_isub hx hb dX11_chancery_62 ?_
      refine P_300_30 hC hS m302 dX11_chancery_63 (fun w_4 H locs ew_4 hS => ?_)
      have hp := hp w_4 ew_4
      refine lv_aload_n hx hb dX11_chancery_66 rfl (lv_at hl 0 rfl) ?_
      refine q_cvV (As := []) (rest := []) hC hS hl.1 (rX11_clearBank hp) cwX11_147 yvX11_clearBank (rcv_300 hC hS) rfl rfl (Nat.le_of_ble_eq_true rfl) (rmk (by decide) (by decide)) dX11_chancery_67 (fun w_5 H locs hp hS => ?_)
      refine lv_aload_n hx hb dX11_chancery_70 rfl (lv_at hl 0 rfl) ?_
      refine q_cvV (As := []) (rest := []) hC hS hl.1 (rX11_goOn hp) cwX11_235 yvX11_goOn (rcv_300 hC hS) rfl rfl (Nat.le_of_ble_eq_true rfl) (rmk (by decide) (by decide)) dX11_chancery_71 (fun w_6 H locs hp hS => ?_)
      obtain ⟨n9, hp⟩ := hp
      exact bX11_chancery_74 hC hR n9  w_6 _ _ _ hp hS (lv_sub hl [0] rfl)
    · have hp := hp.2 c_1
      refine lv_aload_n hx hb dX11_chancery_28 rfl (lv_at hl 0 rfl) ?_
      refine G_300_1 hC hS m254 dX11_chancery_29 ?_
      refine lv_iload_n hx hb dX11_chancery_32 rfl (lv_at hl 1 rfl) ?_
      refine lv_aload_n hx hb dX11_chancery_33 rfl (lv_at hl 0 rfl) ?_
      refine G_300_0 hC hS m253 dX11_chancery_34 ?_
      refine lv_iload_n hx hb dX11_chancery_37 rfl (lv_at hl 1 rfl) ?_
      refine La_301 hC hS hp.1 dX11_chancery_38 ?_
      have hp := hp.2
      refine Sa_302 hC hS hp.1 dX11_chancery_39 (fun w_7 H locs ew_7 hS => ?_)
      have hp := hp.2
      have hp := hp w_7 ew_7
      obtain ⟨x1_8, ex1_8⟩ : ∃ y : Int32, y = x1 + (1 : Int32) := ⟨_, rfl⟩
      have hp := hp x1_8 ex1_8
      refine lv_iinc (v := x1_8) (lv' := [(1, .int x1_8), (0, .ref (g.2.2 300))]) hx hb dX11_chancery_40 hl (k := 1) rfl (by rw [ex1_8]; rfl) (by decide) rfl (fun ls hl => ?_)
      refine lv_goto (tgt := 20) hx hb dX11_chancery_43 (by decide) ?_
      exact ih x1_8 w_7 _ _ _ hp hS (lv_sub hl [1, 0] rfl)
set_option maxHeartbeats 4000000 in
set_option maxRecDepth 100000 in
theorem rX11_chancery {l : Launch} {g : Gw} {w : Wd} {post : Int32 → Wd → Prop}    (hp : pX11_chancery post  w) : MtI tabM l yX11_chancery cX11_chancery 2 (some .int) 9 g w [.ref (g.2.2 300)] post := by
  refine q_entI tabM_nd (by decide) rfl (Nat.le_of_ble_eq_true rfl) ?_
  intro p e s m args below meth c A Q ls hC hR hS hl
  have hx := hC.1
  have hb := hC.2.1
  have hl : lv_has ls 2 [(0, .ref (g.2.2 300))] := hl
  unfold pX11_chancery at hp
  refine lv_aload_n hx hb dX11_chancery_0 rfl (lv_at hl 0 rfl) ?_
  refine lv_iconst hx hb dX11_chancery_1 kI_0 ?_
  refine P_300_4 hC hS m470 dX11_chancery_2 (fun w_1 H locs ew_1 hS => ?_)
  have hp := hp w_1 ew_1
  refine lv_aload_n hx hb dX11_chancery_5 rfl (lv_at hl 0 rfl) ?_
  refine lv_iconst hx hb dX11_chancery_6 kI_m1 ?_
  refine P_300_5 hC hS m255 dX11_chancery_7 (fun w_2 H locs ew_2 hS => ?_)
  have hp := hp w_2 ew_2
  refine lv_aload_n hx hb dX11_chancery_10 rfl (lv_at hl 0 rfl) ?_
  refine lv_aload_n hx hb dX11_chancery_11 rfl (lv_at hl 0 rfl) ?_
  refine G_300_2 hC hS m325 dX11_chancery_12 ?_
  refine P_300_3 hC hS m471 dX11_chancery_15 (fun w_3 H locs ew_3 hS => ?_)
  have hp := hp w_3 ew_3
  refine lv_iconst hx hb dX11_chancery_18 kI_0 ?_
  refine lv_istore_n (lv' := [(1, .int (0 : Int32)), (0, .ref (g.2.2 300))]) hx hb dX11_chancery_19 rfl hl (by decide) rfl (fun ls hl => ?_)
  obtain ⟨n9, hp⟩ := hp
  exact bX11_chancery_20 hC hR n9 (0 : Int32) w_3 _ _ _ hp hS (lv_sub hl [1, 0] rfl)
def pX11_fault (post : Int32 → Wd → Prop) (x1 : Int32) (w : Wd) : Prop := (¬ x1 = 0 → ((¬ x1 = (1 : Int32) → (post (-1 : Int32) w)) ∧ (x1 = (1 : Int32) → (post (w.1 300 5) w)))) ∧ (x1 = 0 → (post (w.1 300 4) w))
set_option maxHeartbeats 4000000 in
set_option maxRecDepth 100000 in
theorem rX11_fault {l : Launch} {g : Gw} {w : Wd} {post : Int32 → Wd → Prop}   {x1 : Int32} (hp : pX11_fault post x1 w) : MtI tabM l yX11_fault cX11_fault 2 (some .int) 1 g w [.ref (g.2.2 300), .int x1] post := by
  refine q_entI tabM_nd (by decide) rfl (Nat.le_of_ble_eq_true rfl) ?_
  intro p e s m args below meth c A Q ls hC hR hS hl
  have hx := hC.1
  have hb := hC.2.1
  have hl : lv_has ls 2 [(0, .ref (g.2.2 300)), (1, .int x1)] := hl
  unfold pX11_fault at hp
  refine lv_iload_n hx hb dX11_fault_0 rfl (lv_at hl 1 rfl) ?_
  refine lv_if_ne (tgt := 11) hx hb dX11_fault_1 (by decide) (fun c_1 => ?_) (fun c_1 => ?_)
  · have hp := hp.1 c_1
    refine lv_iload_n hx hb dX11_fault_11 rfl (lv_at hl 1 rfl) ?_
    refine lv_iconst hx hb dX11_fault_12 kI_1 ?_
    refine lv_icmp_ne (tgt := 23) hx hb dX11_fault_13 (by decide) (fun c_2 => ?_) (fun c_2 => ?_)
    · have hp := hp.1 c_2
      refine lv_iconst hx hb dX11_fault_23 kI_m1 ?_
      exact hR _ _ _ _ _ _ dX11_fault_24 hp hS
    · have hp := hp.2 c_2
      refine lv_aload_n hx hb dX11_fault_16 rfl (lv_at hl 0 rfl) ?_
      refine G_300_5 hC hS m255 dX11_fault_17 ?_
      refine lv_goto (tgt := 24) hx hb dX11_fault_20 (by decide) ?_
      exact hR _ _ _ _ _ _ dX11_fault_24 hp hS
  · have hp := hp.2 c_1
    refine lv_aload_n hx hb dX11_fault_4 rfl (lv_at hl 0 rfl) ?_
    refine G_300_4 hC hS m470 dX11_fault_5 ?_
    refine lv_goto (tgt := 24) hx hb dX11_fault_8 (by decide) ?_
    exact hR _ _ _ _ _ _ dX11_fault_24 hp hS
def pX11_deep_4 (post : Int32 → Wd → Prop) : Nat → Int32 → Int32 → Wd → Prop
  | 0, _, _, _ => False
  | n + 1, x2, x3, w => (x3 ≤ 0 → (post x2 w)) ∧ (¬ x3 ≤ 0 → (∀ x2_2, x2_2 = x2 + (1 : Int32) → vp_in (((4 : Int32) * x3) + (1 : Int32)) 221 ∧ ∀ x3_3, x3_3 = (w.2.1 341 (((4 : Int32) * x3) + (1 : Int32)).toNatClampNeg) → pX11_deep_4 post n x2_2 x3_3 w))
def pX11_deep (post : Int32 → Wd → Prop) (x1 : Int32) (w : Wd) : Prop := ∃ n9, pX11_deep_4 post n9 (0 : Int32) x1 w
set_option maxHeartbeats 4000000 in
set_option maxRecDepth 100000 in
theorem bX11_deep_4 {p : Program} {l : Launch} {e : Env} {s : State} {m : MethodId} {args : Array Value} {below : List Frame} {meth : Method} {c : Code} {Q : State → Prop} {A : Nat → Prop} {g : Gw} {post : Int32 → Wd → Prop}  (hC : Cx p s m args c cX11_deep RX11 4 g) (hR : RtI tabM p l e (rk 1) s m args below meth c Q cX11_deep A g post)  : ∀ (n : Nat) (x2 : Int32) (x3 : Int32) (w : Wd) (H : Heap) (locs : List Loc) (ls : Array Slot), pX11_deep_4 post n x2 x3 w → St tabM A s.heap g w H locs → lv_has ls 4 [(0, .ref (g.2.2 300)), (2, .int x2), (3, .int x3)] → W p l e (rk 1) s m args below meth c H locs 0 0 Q (F0 m 4 ls []) := by
  have hx := hC.1
  have hb := hC.2.1
  intro n
  induction n with
  | zero =>
    intro x2 x3 w H locs ls hp hS hl
    exact False.elim hp
  | succ n ih =>
    intro x2 x3 w H locs ls hp hS hl
    unfold pX11_deep_4 at hp
    refine lv_iload_n hx hb dX11_deep_4 rfl (lv_at hl 2 rfl) ?_
    refine lv_if_le (tgt := 25) hx hb dX11_deep_5 (by decide) (fun c_1 => ?_) (fun c_1 => ?_)
    · have hp := hp.1 c_1
      refine lv_iload_n hx hb dX11_deep_25 rfl (lv_at hl 1 rfl) ?_
      exact hR _ _ _ _ _ _ dX11_deep_26 hp hS
    · have hp := hp.2 c_1
      obtain ⟨x2_2, ex2_2⟩ : ∃ y : Int32, y = x2 + (1 : Int32) := ⟨_, rfl⟩
      have hp := hp x2_2 ex2_2
      refine lv_iinc (v := x2_2) (lv' := [(2, .int x2_2), (0, .ref (g.2.2 300)), (3, .int x3)]) hx hb dX11_deep_8 hl (k := 1) rfl (by rw [ex2_2]; rfl) (by decide) rfl (fun ls hl => ?_)
      refine lv_aload_n hx hb dX11_deep_11 rfl (lv_at hl 1 rfl) ?_
      refine G_300_40 hC hS m274 dX11_deep_12 ?_
      refine lv_iconst hx hb dX11_deep_15 kI_4 ?_
      refine lv_iload_n hx hb dX11_deep_16 rfl (lv_at hl 2 rfl) ?_
      refine lv_imul hx hb dX11_deep_17 ?_
      refine lv_iconst hx hb dX11_deep_18 kI_1 ?_
      refine lv_iadd hx hb dX11_deep_19 ?_
      refine La_341 hC hS hp.1 dX11_deep_20 ?_
      have hp := hp.2
      refine lv_topi (fun x3_3 ex3_3 => ?_)
      have hp := hp x3_3 ex3_3
      refine lv_istore_n (lv' := [(3, .int x3_3), (2, .int x2_2), (0, .ref (g.2.2 300))]) hx hb dX11_deep_21 rfl hl (by decide) rfl (fun ls hl => ?_)
      refine lv_goto (tgt := 4) hx hb dX11_deep_22 (by decide) ?_
      exact ih x2_2 x3_3 w _ _ _ hp hS (lv_sub hl [2, 1, 0] rfl)
set_option maxHeartbeats 4000000 in
set_option maxRecDepth 100000 in
theorem rX11_deep {l : Launch} {g : Gw} {w : Wd} {post : Int32 → Wd → Prop}   {x1 : Int32} (hp : pX11_deep post x1 w) : MtI tabM l yX11_deep cX11_deep 4 (some .int) 1 g w [.ref (g.2.2 300), .int x1] post := by
  refine q_entI tabM_nd (by decide) rfl (Nat.le_of_ble_eq_true rfl) ?_
  intro p e s m args below meth c A Q ls hC hR hS hl
  have hx := hC.1
  have hb := hC.2.1
  have hl : lv_has ls 4 [(0, .ref (g.2.2 300)), (1, .int x1)] := hl
  unfold pX11_deep at hp
  refine lv_iconst hx hb dX11_deep_0 kI_0 ?_
  refine lv_istore_n (lv' := [(2, .int (0 : Int32)), (0, .ref (g.2.2 300)), (1, .int x1)]) hx hb dX11_deep_1 rfl hl (by decide) rfl (fun ls hl => ?_)
  refine lv_iload_n hx hb dX11_deep_2 rfl (lv_at hl 2 rfl) ?_
  refine lv_istore_n (lv' := [(3, .int x1), (2, .int (0 : Int32)), (0, .ref (g.2.2 300)), (1, .int x1)]) hx hb dX11_deep_3 rfl hl (by decide) rfl (fun ls hl => ?_)
  obtain ⟨n9, hp⟩ := hp
  exact bX11_deep_4 hC hR n9 (0 : Int32) x1 w _ _ _ hp hS (lv_sub hl [2, 1, 0] rfl)
def pX11_isIn (post : Int32 → Wd → Prop) (x0 : Int32) (x1 : Int32) (x2 : Int32) (w : Wd) : Prop := (x0 < x1 → (post (0 : Int32) w)) ∧ (¬ x0 < x1 → ((x2 < x0 → (post (0 : Int32) w)) ∧ (¬ x2 < x0 → (post (1 : Int32) w))))
set_option maxHeartbeats 4000000 in
set_option maxRecDepth 100000 in
theorem rX11_isIn {l : Launch} {g : Gw} {w : Wd} {post : Int32 → Wd → Prop}   {x0 : Int32} {x1 : Int32} {x2 : Int32} (hp : pX11_isIn post x0 x1 x2 w) : MtI tabM l yX11_isIn cX11_isIn 3 (some .boolean) 1 g w [.int x0, .int x1, .int x2] post := by
  refine q_entZ tabM_nd (by decide) rfl (Nat.le_of_ble_eq_true rfl) ?_
  intro p e s m args below meth c A Q ls hC hR hS hl
  have hx := hC.1
  have hb := hC.2.1
  have hl : lv_has ls 3 [(0, .int x0), (1, .int x1), (2, .int x2)] := hl
  unfold pX11_isIn at hp
  refine lv_iload_n hx hb dX11_isIn_0 rfl (lv_at hl 0 rfl) ?_
  refine lv_iload_n hx hb dX11_isIn_1 rfl (lv_at hl 1 rfl) ?_
  refine lv_icmp_lt (tgt := 14) hx hb dX11_isIn_2 (by decide) (fun c_1 => ?_) (fun c_1 => ?_)
  · have hp := hp.1 c_1
    refine lv_iconst hx hb dX11_isIn_14 kI_0 ?_
    exact hR _ _ _ _ _ _ dX11_isIn_15 (by decide) hp hS
  · have hp := hp.2 c_1
    refine lv_iload_n hx hb dX11_isIn_5 rfl (lv_at hl 0 rfl) ?_
    refine lv_iload_n hx hb dX11_isIn_6 rfl (lv_at hl 2 rfl) ?_
    refine lv_icmp_gt (tgt := 14) hx hb dX11_isIn_7 (by decide) (fun c_2 => ?_) (fun c_2 => ?_)
    · have hp := hp.1 c_2
      refine lv_iconst hx hb dX11_isIn_14 kI_0 ?_
      exact hR _ _ _ _ _ _ dX11_isIn_15 (by decide) hp hS
    · have hp := hp.2 c_2
      refine lv_iconst hx hb dX11_isIn_10 kI_1 ?_
      refine lv_goto (tgt := 15) hx hb dX11_isIn_11 (by decide) ?_
      exact hR _ _ _ _ _ _ dX11_isIn_15 (by decide) hp hS
def pX11_isSeal (post : Int32 → Wd → Prop) (x1 : Int32) (w : Wd) : Prop := pX11_isIn (fun r_1 w_2 => r_1 = vp_nar .boolean r_1 ∧ post r_1 w_2) x1 (0 : Int32) ((w.2.1 341 (216 : Int32).toNatClampNeg) - (1 : Int32)) w
set_option maxHeartbeats 4000000 in
set_option maxRecDepth 100000 in
theorem rX11_isSeal {l : Launch} {g : Gw} {w : Wd} {post : Int32 → Wd → Prop}   {x1 : Int32} (hp : pX11_isSeal post x1 w) : MtI tabM l yX11_isSeal cX11_isSeal 2 (some .boolean) 2 g w [.ref (g.2.2 300), .int x1] post := by
  refine q_entZ tabM_nd (by decide) rfl (Nat.le_of_ble_eq_true rfl) ?_
  intro p e s m args below meth c A Q ls hC hR hS hl
  have hx := hC.1
  have hb := hC.2.1
  have hl : lv_has ls 2 [(0, .ref (g.2.2 300)), (1, .int x1)] := hl
  unfold pX11_isSeal at hp
  refine lv_iload_n hx hb dX11_isSeal_0 rfl (lv_at hl 1 rfl) ?_
  refine lv_iconst hx hb dX11_isSeal_1 kI_0 ?_
  refine lv_aload_n hx hb dX11_isSeal_2 rfl (lv_at hl 0 rfl) ?_
  refine G_300_40 hC hS m274 dX11_isSeal_3 ?_
  refine lv_sipush hx hb dX11_isSeal_6 kS_216 ?_
  refine La_341 hC hS (by unfold vp_in; decide) dX11_isSeal_9 ?_
  refine lv_iconst hx hb dX11_isSeal_10 kI_1 ?_
  refine lv_isub hx hb dX11_isSeal_11 ?_
  refine q_csI (As := [.int x1, .int (0 : Int32), .int ((w.2.1 341 (216 : Int32).toNatClampNeg) - (1 : Int32))]) (rest := []) hC hS hl.1 (rX11_isIn hp) cwX11_345 ysX11_isIn rfl rfl (Nat.le_of_ble_eq_true rfl) (rmk (by decide) (by decide)) dX11_isSeal_12 (fun r_1 w_2 H locs hp hS => ?_)
  exact hR _ _ _ _ _ _ dX11_isSeal_15 hp.1 hp.2 hS
def pX11_seal (post : Int32 → Wd → Prop) (x1 : Int32) (x2 : Int32) (w : Wd) : Prop := pX11_isSeal (fun r_1 w_2 => (r_1 = 0 → (post (-1 : Int32) w_2)) ∧ (¬ r_1 = 0 → (pX11_isIn (fun r_4 w_5 => (¬ r_4 = 0 → ((¬ x2 = (4 : Int32) → (vp_in (((4 : Int32) * x1) + x2) 221 ∧ post (w_5.2.1 341 (((4 : Int32) * x1) + x2).toNatClampNeg) w_5)) ∧ (x2 = (4 : Int32) → (pX11_deep (fun r_8 w_9 => post r_8 w_9) x1 w_5)))) ∧ (r_4 = 0 → (post (-1 : Int32) w_5))) x2 (0 : Int32) (4 : Int32) w_2))) x1 w
set_option maxHeartbeats 4000000 in
set_option maxRecDepth 100000 in
theorem rX11_seal {l : Launch} {g : Gw} {w : Wd} {post : Int32 → Wd → Prop}   {x1 : Int32} {x2 : Int32} (hp : pX11_seal post x1 x2 w) : MtI tabM l yX11_seal cX11_seal 3 (some .int) 3 g w [.ref (g.2.2 300), .int x1, .int x2] post := by
  refine q_entI tabM_nd (by decide) rfl (Nat.le_of_ble_eq_true rfl) ?_
  intro p e s m args below meth c A Q ls hC hR hS hl
  have hx := hC.1
  have hb := hC.2.1
  have hl : lv_has ls 3 [(0, .ref (g.2.2 300)), (1, .int x1), (2, .int x2)] := hl
  unfold pX11_seal at hp
  refine lv_aload_n hx hb dX11_seal_0 rfl (lv_at hl 0 rfl) ?_
  refine lv_iload_n hx hb dX11_seal_1 rfl (lv_at hl 1 rfl) ?_
  refine q_cvI (As := [.int x1]) (rest := []) hC hS hl.1 (rX11_isSeal hp) cwX11_383 yvX11_isSeal (rcv_300 hC hS) rfl rfl (Nat.le_of_ble_eq_true rfl) (rmk (by decide) (by decide)) dX11_seal_2 (fun r_1 w_2 H locs hp hS => ?_)
  refine lv_if_eq (tgt := 17) hx hb dX11_seal_5 (by decide) (fun c_3 => ?_) (fun c_3 => ?_)
  · have hp := hp.1 c_3
    refine lv_iconst hx hb dX11_seal_17 kI_m1 ?_
    refine lv_goto (tgt := 44) hx hb dX11_seal_18 (by decide) ?_
    exact hR _ _ _ _ _ _ dX11_seal_44 hp hS
  · have hp := hp.2 c_3
    refine lv_iload_n hx hb dX11_seal_8 rfl (lv_at hl 2 rfl) ?_
    refine lv_iconst hx hb dX11_seal_9 kI_0 ?_
    refine lv_iconst hx hb dX11_seal_10 kI_4 ?_
    refine q_csI (As := [.int x2, .int (0 : Int32), .int (4 : Int32)]) (rest := []) hC hS hl.1 (rX11_isIn hp) cwX11_345 ysX11_isIn rfl rfl (Nat.le_of_ble_eq_true rfl) (rmk (by decide) (by decide)) dX11_seal_11 (fun r_4 w_5 H locs hp hS => ?_)
    refine lv_if_ne (tgt := 21) hx hb dX11_seal_14 (by decide) (fun c_6 => ?_) (fun c_6 => ?_)
    · have hp := hp.1 c_6
      refine lv_iload_n hx hb dX11_seal_21 rfl (lv_at hl 2 rfl) ?_
      refine lv_iconst hx hb dX11_seal_22 kI_4 ?_
      refine lv_icmp_ne (tgt := 34) hx hb dX11_seal_23 (by decide) (fun c_7 => ?_) (fun c_7 => ?_)
      · have hp := hp.1 c_7
        refine lv_aload_n hx hb dX11_seal_34 rfl (lv_at hl 0 rfl) ?_
        refine G_300_40 hC hS m274 dX11_seal_35 ?_
        refine lv_iconst hx hb dX11_seal_38 kI_4 ?_
        refine lv_iload_n hx hb dX11_seal_39 rfl (lv_at hl 1 rfl) ?_
        refine lv_imul hx hb dX11_seal_40 ?_
        refine lv_iload_n hx hb dX11_seal_41 rfl (lv_at hl 2 rfl) ?_
        refine lv_iadd hx hb dX11_seal_42 ?_
        refine La_341 hC hS hp.1 dX11_seal_43 ?_
        have hp := hp.2
        exact hR _ _ _ _ _ _ dX11_seal_44 hp hS
      · have hp := hp.2 c_7
        refine lv_aload_n hx hb dX11_seal_26 rfl (lv_at hl 0 rfl) ?_
        refine lv_iload_n hx hb dX11_seal_27 rfl (lv_at hl 1 rfl) ?_
        refine q_cvI (As := [.int x1]) (rest := []) hC hS hl.1 (rX11_deep hp) cwX11_386 yvX11_deep (rcv_300 hC hS) rfl rfl (Nat.le_of_ble_eq_true rfl) (rmk (by decide) (by decide)) dX11_seal_28 (fun r_8 w_9 H locs hp hS => ?_)
        refine lv_goto (tgt := 44) hx hb dX11_seal_31 (by decide) ?_
        exact hR _ _ _ _ _ _ dX11_seal_44 hp hS
    · have hp := hp.2 c_6
      refine lv_iconst hx hb dX11_seal_17 kI_m1 ?_
      refine lv_goto (tgt := 44) hx hb dX11_seal_18 (by decide) ?_
      exact hR _ _ _ _ _ _ dX11_seal_44 hp hS
def pX11_shown (post : Int32 → Wd → Prop) (x1 : Int32) (x2 : Int32) (w : Wd) : Prop := pX11_isIn (fun r_1 w_2 => (r_1 = 0 → (post (-1 : Int32) w_2)) ∧ (¬ r_1 = 0 → (pX11_isIn (fun r_4 w_5 => (r_4 = 0 → (post (-1 : Int32) w_5)) ∧ (¬ r_4 = 0 → (vp_in (((96 : Int32) + ((3 : Int32) * x1)) + x2) 221 ∧ post (w_5.2.1 341 (((96 : Int32) + ((3 : Int32) * x1)) + x2).toNatClampNeg) w_5))) x2 (0 : Int32) (2 : Int32) w_2))) x1 (0 : Int32) ((w.2.1 341 (217 : Int32).toNatClampNeg) - (1 : Int32)) w
set_option maxHeartbeats 4000000 in
set_option maxRecDepth 100000 in
theorem rX11_shown {l : Launch} {g : Gw} {w : Wd} {post : Int32 → Wd → Prop}   {x1 : Int32} {x2 : Int32} (hp : pX11_shown post x1 x2 w) : MtI tabM l yX11_shown cX11_shown 3 (some .int) 2 g w [.ref (g.2.2 300), .int x1, .int x2] post := by
  refine q_entI tabM_nd (by decide) rfl (Nat.le_of_ble_eq_true rfl) ?_
  intro p e s m args below meth c A Q ls hC hR hS hl
  have hx := hC.1
  have hb := hC.2.1
  have hl : lv_has ls 3 [(0, .ref (g.2.2 300)), (1, .int x1), (2, .int x2)] := hl
  unfold pX11_shown at hp
  refine lv_iload_n hx hb dX11_shown_0 rfl (lv_at hl 1 rfl) ?_
  refine lv_iconst hx hb dX11_shown_1 kI_0 ?_
  refine lv_aload_n hx hb dX11_shown_2 rfl (lv_at hl 0 rfl) ?_
  refine G_300_40 hC hS m274 dX11_shown_3 ?_
  refine lv_sipush hx hb dX11_shown_6 kS_217 ?_
  refine La_341 hC hS (by unfold vp_in; decide) dX11_shown_9 ?_
  refine lv_iconst hx hb dX11_shown_10 kI_1 ?_
  refine lv_isub hx hb dX11_shown_11 ?_
  refine q_csI (As := [.int x1, .int (0 : Int32), .int ((w.2.1 341 (217 : Int32).toNatClampNeg) - (1 : Int32))]) (rest := []) hC hS hl.1 (rX11_isIn hp) cwX11_345 ysX11_isIn rfl rfl (Nat.le_of_ble_eq_true rfl) (rmk (by decide) (by decide)) dX11_shown_12 (fun r_1 w_2 H locs hp hS => ?_)
  refine lv_if_eq (tgt := 43) hx hb dX11_shown_15 (by decide) (fun c_3 => ?_) (fun c_3 => ?_)
  · have hp := hp.1 c_3
    refine lv_iconst hx hb dX11_shown_43 kI_m1 ?_
    exact hR _ _ _ _ _ _ dX11_shown_44 hp hS
  · have hp := hp.2 c_3
    refine lv_iload_n hx hb dX11_shown_18 rfl (lv_at hl 2 rfl) ?_
    refine lv_iconst hx hb dX11_shown_19 kI_0 ?_
    refine lv_iconst hx hb dX11_shown_20 kI_2 ?_
    refine q_csI (As := [.int x2, .int (0 : Int32), .int (2 : Int32)]) (rest := []) hC hS hl.1 (rX11_isIn hp) cwX11_345 ysX11_isIn rfl rfl (Nat.le_of_ble_eq_true rfl) (rmk (by decide) (by decide)) dX11_shown_21 (fun r_4 w_5 H locs hp hS => ?_)
    refine lv_if_eq (tgt := 43) hx hb dX11_shown_24 (by decide) (fun c_6 => ?_) (fun c_6 => ?_)
    · have hp := hp.1 c_6
      refine lv_iconst hx hb dX11_shown_43 kI_m1 ?_
      exact hR _ _ _ _ _ _ dX11_shown_44 hp hS
    · have hp := hp.2 c_6
      refine lv_aload_n hx hb dX11_shown_27 rfl (lv_at hl 0 rfl) ?_
      refine G_300_40 hC hS m274 dX11_shown_28 ?_
      refine lv_bipush hx hb dX11_shown_31 kB_96 ?_
      refine lv_iconst hx hb dX11_shown_33 kI_3 ?_
      refine lv_iload_n hx hb dX11_shown_34 rfl (lv_at hl 1 rfl) ?_
      refine lv_imul hx hb dX11_shown_35 ?_
      refine lv_iadd hx hb dX11_shown_36 ?_
      refine lv_iload_n hx hb dX11_shown_37 rfl (lv_at hl 2 rfl) ?_
      refine lv_iadd hx hb dX11_shown_38 ?_
      refine La_341 hC hS hp.1 dX11_shown_39 ?_
      have hp := hp.2
      refine lv_goto (tgt := 44) hx hb dX11_shown_40 (by decide) ?_
      exact hR _ _ _ _ _ _ dX11_shown_44 hp hS
def pX11_width (post : Int32 → Wd → Prop)  (w : Wd) : Prop := vp_in (w.1 300 29) 2 ∧ post (w.2.1 312 (w.1 300 29).toNatClampNeg) w
set_option maxHeartbeats 4000000 in
set_option maxRecDepth 100000 in
theorem rX11_width {l : Launch} {g : Gw} {w : Wd} {post : Int32 → Wd → Prop}    (hp : pX11_width post  w) : MtI tabM l yX11_width cX11_width 1 (some .int) 1 g w [.ref (g.2.2 300)] post := by
  refine q_entI tabM_nd (by decide) rfl (Nat.le_of_ble_eq_true rfl) ?_
  intro p e s m args below meth c A Q ls hC hR hS hl
  have hx := hC.1
  have hb := hC.2.1
  have hl : lv_has ls 1 [(0, .ref (g.2.2 300))] := hl
  unfold pX11_width at hp
  refine lv_aload_n hx hb dX11_width_0 rfl (lv_at hl 0 rfl) ?_
  refine G_300_11 hC hS m256 dX11_width_1 ?_
  refine lv_aload_n hx hb dX11_width_4 rfl (lv_at hl 0 rfl) ?_
  refine G_300_29 hC hS m308 dX11_width_5 ?_
  refine La_312 hC hS hp.1 dX11_width_8 ?_
  have hp := hp.2
  exact hR _ _ _ _ _ _ dX11_width_9 hp hS
def pX11_isRow (post : Int32 → Wd → Prop) (x1 : Int32) (w : Wd) : Prop := (x1 < 0 → (post (0 : Int32) w)) ∧ (¬ x1 < 0 → (pX11_width (fun r_2 w_3 => (((1 : Int32) <<< (r_2 &&& 31)) ≤ x1 → (post (0 : Int32) w_3)) ∧ (¬ ((1 : Int32) <<< (r_2 &&& 31)) ≤ x1 → (post (1 : Int32) w_3))) w))
set_option maxHeartbeats 4000000 in
set_option maxRecDepth 100000 in
theorem rX11_isRow {l : Launch} {g : Gw} {w : Wd} {post : Int32 → Wd → Prop}   {x1 : Int32} (hp : pX11_isRow post x1 w) : MtI tabM l yX11_isRow cX11_isRow 2 (some .boolean) 2 g w [.ref (g.2.2 300), .int x1] post := by
  refine q_entZ tabM_nd (by decide) rfl (Nat.le_of_ble_eq_true rfl) ?_
  intro p e s m args below meth c A Q ls hC hR hS hl
  have hx := hC.1
  have hb := hC.2.1
  have hl : lv_has ls 2 [(0, .ref (g.2.2 300)), (1, .int x1)] := hl
  unfold pX11_isRow at hp
  refine lv_iload_n hx hb dX11_isRow_0 rfl (lv_at hl 1 rfl) ?_
  refine lv_if_lt (tgt := 18) hx hb dX11_isRow_1 (by decide) (fun c_1 => ?_) (fun c_1 => ?_)
  · have hp := hp.1 c_1
    refine lv_iconst hx hb dX11_isRow_18 kI_0 ?_
    exact hR _ _ _ _ _ _ dX11_isRow_19 (by decide) hp hS
  · have hp := hp.2 c_1
    refine lv_iload_n hx hb dX11_isRow_4 rfl (lv_at hl 1 rfl) ?_
    refine lv_iconst hx hb dX11_isRow_5 kI_1 ?_
    refine lv_aload_n hx hb dX11_isRow_6 rfl (lv_at hl 0 rfl) ?_
    refine q_cvI (As := []) (rest := [.int (1 : Int32), .int x1]) hC hS hl.1 (rX11_width hp) cwX11_342 yvX11_width (rcv_300 hC hS) rfl rfl (Nat.le_of_ble_eq_true rfl) (rmk (by decide) (by decide)) dX11_isRow_7 (fun r_2 w_3 H locs hp hS => ?_)
    refine lv_ishl hx hb dX11_isRow_10 ?_
    refine lv_icmp_ge (tgt := 18) hx hb dX11_isRow_11 (by decide) (fun c_4 => ?_) (fun c_4 => ?_)
    · have hp := hp.1 c_4
      refine lv_iconst hx hb dX11_isRow_18 kI_0 ?_
      exact hR _ _ _ _ _ _ dX11_isRow_19 (by decide) hp hS
    · have hp := hp.2 c_4
      refine lv_iconst hx hb dX11_isRow_14 kI_1 ?_
      refine lv_goto (tgt := 19) hx hb dX11_isRow_15 (by decide) ?_
      exact hR _ _ _ _ _ _ dX11_isRow_19 (by decide) hp hS
def pX11_prints_90 (k30 : Int32 → Int32 → Int32 → Int32 → Int32 → Int32 → Wd → Prop) (post : Int32 → Wd → Prop) (x1 : Int32) (x2 : Int32) (x3 : Int32) (x4 : Int32) (x5 : Int32) (x6 : Int32) (w : Wd) : Prop := ∀ x6_1, x6_1 = x6 + (1 : Int32) → k30 x1 x2 x3 x4 x5 x6_1 w
def pX11_prints_30 (post : Int32 → Wd → Prop) : Nat → Int32 → Int32 → Int32 → Int32 → Int32 → Int32 → Wd → Prop
  | 0, _, _, _, _, _, _, _ => False
  | n + 1, x1, x2, x3, x4, x5, x6, w => ((w.2.1 341 (217 : Int32).toNatClampNeg) ≤ x6 → ((¬ x2 = 0 → ((¬ x2 = (1 : Int32) → (post x5 w)) ∧ (x2 = (1 : Int32) → (post x4 w)))) ∧ (x2 = 0 → (post x3 w)))) ∧ (¬ (w.2.1 341 (217 : Int32).toNatClampNeg) ≤ x6 → (vp_in ((96 : Int32) + ((3 : Int32) * x6)) 221 ∧ ((w.2.1 341 ((96 : Int32) + ((3 : Int32) * x6)).toNatClampNeg) = x1 → (∀ x3_5, x3_5 = x3 + (1 : Int32) → vp_in (((96 : Int32) + ((3 : Int32) * x6)) + (2 : Int32)) 221 ∧ ∀ x5_6, x5_6 = (w.2.1 341 (((96 : Int32) + ((3 : Int32) * x6)) + (2 : Int32)).toNatClampNeg) → (0 ≤ x4 → (pX11_prints_90 (pX11_prints_30 post n) post x1 x2 x3_5 x4 x5_6 x6 w)) ∧ (¬ 0 ≤ x4 → (pX11_prints_90 (pX11_prints_30 post n) post x1 x2 x3_5 x5_6 x5_6 x6 w)))) ∧ (¬ (w.2.1 341 ((96 : Int32) + ((3 : Int32) * x6)).toNatClampNeg) = x1 → (pX11_prints_90 (pX11_prints_30 post n) post x1 x2 x3 x4 x5 x6 w))))
def pX11_prints (post : Int32 → Wd → Prop) (x1 : Int32) (x2 : Int32) (w : Wd) : Prop := pX11_isRow (fun r_1 w_2 => (r_1 = 0 → (post (-1 : Int32) w_2)) ∧ (¬ r_1 = 0 → (pX11_isIn (fun r_4 w_5 => (¬ r_4 = 0 → (∃ n9, pX11_prints_30 post n9 x1 x2 (0 : Int32) (-1 : Int32) (-1 : Int32) (0 : Int32) w_5)) ∧ (r_4 = 0 → (post (-1 : Int32) w_5))) x2 (0 : Int32) (2 : Int32) w_2))) x1 w
set_option maxHeartbeats 4000000 in
set_option maxRecDepth 100000 in
theorem bX11_prints_90 {p : Program} {l : Launch} {e : Env} {s : State} {m : MethodId} {args : Array Value} {below : List Frame} {meth : Method} {c : Code} {Q : State → Prop} {A : Nat → Prop} {g : Gw} {post : Int32 → Wd → Prop}  (hC : Cx p s m args c cX11_prints RX11 7 g) (hR : RtI tabM p l e (rk 3) s m args below meth c Q cX11_prints A g post)  {k30 : Int32 → Int32 → Int32 → Int32 → Int32 → Int32 → Wd → Prop} (hk30 : ∀ (x1 : Int32) (x2 : Int32) (x3 : Int32) (x4 : Int32) (x5 : Int32) (x6 : Int32) (w : Wd) (H : Heap) (locs : List Loc) (ls : Array Slot), k30 x1 x2 x3 x4 x5 x6 w → St tabM A s.heap g w H locs → lv_has ls 7 [(0, .ref (g.2.2 300)), (1, .int x1), (2, .int x2), (3, .int x3), (4, .int x4), (5, .int x5), (6, .int x6)] → W p l e (rk 3) s m args below meth c H locs 0 0 Q (F0 m 30 ls [])) : ∀ (x1 : Int32) (x2 : Int32) (x3 : Int32) (x4 : Int32) (x5 : Int32) (x6 : Int32) (w : Wd) (H : Heap) (locs : List Loc) (ls : Array Slot), pX11_prints_90 k30 post x1 x2 x3 x4 x5 x6 w → St tabM A s.heap g w H locs → lv_has ls 7 [(0, .ref (g.2.2 300)), (1, .int x1), (2, .int x2), (3, .int x3), (4, .int x4), (5, .int x5), (6, .int x6)] → W p l e (rk 3) s m args below meth c H locs 0 0 Q (F0 m 90 ls []) := by
  have hx := hC.1
  have hb := hC.2.1
  intro x1 x2 x3 x4 x5 x6 w H locs ls hp hS hl
  unfold pX11_prints_90 at hp
  obtain ⟨x6_1, ex6_1⟩ : ∃ y : Int32, y = x6 + (1 : Int32) := ⟨_, rfl⟩
  have hp := hp x6_1 ex6_1
  refine lv_iinc (v := x6_1) (lv' := [(6, .int x6_1), (0, .ref (g.2.2 300)), (1, .int x1), (2, .int x2), (3, .int x3), (4, .int x4), (5, .int x5)]) hx hb dX11_prints_90 hl (k := 6) rfl (by rw [ex6_1]; rfl) (by decide) rfl (fun ls hl => ?_)
  refine lv_goto (tgt := 30) hx hb dX11_prints_93 (by decide) ?_
  exact hk30 x1 x2 x3 x4 x5 x6_1 w _ _ _ hp hS (lv_sub hl [1, 2, 3, 4, 5, 6, 0] rfl)
set_option maxHeartbeats 4000000 in
set_option maxRecDepth 100000 in
theorem bX11_prints_30 {p : Program} {l : Launch} {e : Env} {s : State} {m : MethodId} {args : Array Value} {below : List Frame} {meth : Method} {c : Code} {Q : State → Prop} {A : Nat → Prop} {g : Gw} {post : Int32 → Wd → Prop}  (hC : Cx p s m args c cX11_prints RX11 7 g) (hR : RtI tabM p l e (rk 3) s m args below meth c Q cX11_prints A g post)  : ∀ (n : Nat) (x1 : Int32) (x2 : Int32) (x3 : Int32) (x4 : Int32) (x5 : Int32) (x6 : Int32) (w : Wd) (H : Heap) (locs : List Loc) (ls : Array Slot), pX11_prints_30 post n x1 x2 x3 x4 x5 x6 w → St tabM A s.heap g w H locs → lv_has ls 7 [(0, .ref (g.2.2 300)), (1, .int x1), (2, .int x2), (3, .int x3), (4, .int x4), (5, .int x5), (6, .int x6)] → W p l e (rk 3) s m args below meth c H locs 0 0 Q (F0 m 30 ls []) := by
  have hx := hC.1
  have hb := hC.2.1
  intro n
  induction n with
  | zero =>
    intro x1 x2 x3 x4 x5 x6 w H locs ls hp hS hl
    exact False.elim hp
  | succ n ih =>
    intro x1 x2 x3 x4 x5 x6 w H locs ls hp hS hl
    unfold pX11_prints_30 at hp
    refine lv_iload hx hb dX11_prints_30 (lv_at hl 6 rfl) ?_
    refine lv_aload_n hx hb dX11_prints_32 rfl (lv_at hl 0 rfl) ?_
    refine G_300_40 hC hS m274 dX11_prints_33 ?_
    refine lv_sipush hx hb dX11_prints_36 kS_217 ?_
    refine La_341 hC hS (by unfold vp_in; decide) dX11_prints_39 ?_
    refine lv_icmp_ge (tgt := 96) hx hb dX11_prints_40 (by decide) (fun c_1 => ?_) (fun c_1 => ?_)
    · have hp := hp.1 c_1
      refine lv_iload_n hx hb dX11_prints_96 rfl (lv_at hl 2 rfl) ?_
      refine lv_if_ne (tgt := 104) hx hb dX11_prints_97 (by decide) (fun c_2 => ?_) (fun c_2 => ?_)
      · have hp := hp.1 c_2
        refine lv_iload_n hx hb dX11_prints_104 rfl (lv_at hl 2 rfl) ?_
        refine lv_iconst hx hb dX11_prints_105 kI_1 ?_
        refine lv_icmp_ne (tgt := 114) hx hb dX11_prints_106 (by decide) (fun c_3 => ?_) (fun c_3 => ?_)
        · have hp := hp.1 c_3
          refine lv_iload hx hb dX11_prints_114 (lv_at hl 5 rfl) ?_
          exact hR _ _ _ _ _ _ dX11_prints_116 hp hS
        · have hp := hp.2 c_3
          refine lv_iload hx hb dX11_prints_109 (lv_at hl 4 rfl) ?_
          refine lv_goto (tgt := 116) hx hb dX11_prints_111 (by decide) ?_
          exact hR _ _ _ _ _ _ dX11_prints_116 hp hS
      · have hp := hp.2 c_2
        refine lv_iload_n hx hb dX11_prints_100 rfl (lv_at hl 3 rfl) ?_
        refine lv_goto (tgt := 116) hx hb dX11_prints_101 (by decide) ?_
        exact hR _ _ _ _ _ _ dX11_prints_116 hp hS
    · have hp := hp.2 c_1
      refine lv_aload_n hx hb dX11_prints_43 rfl (lv_at hl 0 rfl) ?_
      refine G_300_40 hC hS m274 dX11_prints_44 ?_
      refine lv_bipush hx hb dX11_prints_47 kB_96 ?_
      refine lv_iconst hx hb dX11_prints_49 kI_3 ?_
      refine lv_iload hx hb dX11_prints_50 (lv_at hl 6 rfl) ?_
      refine lv_imul hx hb dX11_prints_52 ?_
      refine lv_iadd hx hb dX11_prints_53 ?_
      refine La_341 hC hS hp.1 dX11_prints_54 ?_
      have hp := hp.2
      refine lv_iload_n hx hb dX11_prints_55 rfl (lv_at hl 1 rfl) ?_
      refine lv_icmp_eq (tgt := 62) hx hb dX11_prints_56 (by decide) (fun c_4 => ?_) (fun c_4 => ?_)
      · have hp := hp.1 c_4
        obtain ⟨x3_5, ex3_5⟩ : ∃ y : Int32, y = x3 + (1 : Int32) := ⟨_, rfl⟩
        have hp := hp x3_5 ex3_5
        refine lv_iinc (v := x3_5) (lv' := [(3, .int x3_5), (0, .ref (g.2.2 300)), (1, .int x1), (2, .int x2), (4, .int x4), (5, .int x5), (6, .int x6)]) hx hb dX11_prints_62 hl (k := 3) rfl (by rw [ex3_5]; rfl) (by decide) rfl (fun ls hl => ?_)
        refine lv_aload_n hx hb dX11_prints_65 rfl (lv_at hl 1 rfl) ?_
        refine G_300_40 hC hS m274 dX11_prints_66 ?_
        refine lv_bipush hx hb dX11_prints_69 kB_96 ?_
        refine lv_iconst hx hb dX11_prints_71 kI_3 ?_
        refine lv_iload hx hb dX11_prints_72 (lv_at hl 6 rfl) ?_
        refine lv_imul hx hb dX11_prints_74 ?_
        refine lv_iadd hx hb dX11_prints_75 ?_
        refine lv_iconst hx hb dX11_prints_76 kI_2 ?_
        refine lv_iadd hx hb dX11_prints_77 ?_
        refine La_341 hC hS hp.1 dX11_prints_78 ?_
        have hp := hp.2
        refine lv_topi (fun x5_6 ex5_6 => ?_)
        have hp := hp x5_6 ex5_6
        refine lv_istore (lv' := [(5, .int x5_6), (3, .int x3_5), (0, .ref (g.2.2 300)), (1, .int x1), (2, .int x2), (4, .int x4), (6, .int x6)]) hx hb dX11_prints_79 hl (by decide) rfl (fun ls hl => ?_)
        refine lv_iload hx hb dX11_prints_81 (lv_at hl 5 rfl) ?_
        refine lv_if_ge (tgt := 90) hx hb dX11_prints_83 (by decide) (fun c_7 => ?_) (fun c_7 => ?_)
        · have hp := hp.1 c_7
          exact bX11_prints_90 hC hR ih x1 x2 x3_5 x4 x5_6 x6 w _ _ _ hp hS (lv_sub hl [2, 3, 4, 1, 5, 0, 6] rfl)
        · have hp := hp.2 c_7
          refine lv_iload hx hb dX11_prints_86 (lv_at hl 0 rfl) ?_
          refine lv_istore (lv' := [(4, .int x5_6), (5, .int x5_6), (3, .int x3_5), (0, .ref (g.2.2 300)), (1, .int x1), (2, .int x2), (6, .int x6)]) hx hb dX11_prints_88 hl (by decide) rfl (fun ls hl => ?_)
          exact bX11_prints_90 hC hR ih x1 x2 x3_5 x5_6 x5_6 x6 w _ _ _ hp hS (lv_sub hl [3, 4, 5, 2, 0, 1, 6] rfl)
      · have hp := hp.2 c_4
        refine lv_goto (tgt := 90) hx hb dX11_prints_59 (by decide) ?_
        exact bX11_prints_90 hC hR ih x1 x2 x3 x4 x5 x6 w _ _ _ hp hS (lv_sub hl [0, 1, 2, 3, 4, 5, 6] rfl)
set_option maxHeartbeats 4000000 in
set_option maxRecDepth 100000 in
theorem rX11_prints {l : Launch} {g : Gw} {w : Wd} {post : Int32 → Wd → Prop}   {x1 : Int32} {x2 : Int32} (hp : pX11_prints post x1 x2 w) : MtI tabM l yX11_prints cX11_prints 7 (some .int) 3 g w [.ref (g.2.2 300), .int x1, .int x2] post := by
  refine q_entI tabM_nd (by decide) rfl (Nat.le_of_ble_eq_true rfl) ?_
  intro p e s m args below meth c A Q ls hC hR hS hl
  have hx := hC.1
  have hb := hC.2.1
  have hl : lv_has ls 7 [(0, .ref (g.2.2 300)), (1, .int x1), (2, .int x2)] := hl
  unfold pX11_prints at hp
  refine lv_aload_n hx hb dX11_prints_0 rfl (lv_at hl 0 rfl) ?_
  refine lv_iload_n hx hb dX11_prints_1 rfl (lv_at hl 1 rfl) ?_
  refine q_cvI (As := [.int x1]) (rest := []) hC hS hl.1 (rX11_isRow hp) cwX11_358 yvX11_isRow (rcv_300 hC hS) rfl rfl (Nat.le_of_ble_eq_true rfl) (rmk (by decide) (by decide)) dX11_prints_2 (fun r_1 w_2 H locs hp hS => ?_)
  refine lv_if_eq (tgt := 17) hx hb dX11_prints_5 (by decide) (fun c_3 => ?_) (fun c_3 => ?_)
  · have hp := hp.1 c_3
    refine lv_iconst hx hb dX11_prints_17 kI_m1 ?_
    exact hR _ _ _ _ _ _ dX11_prints_18 hp hS
  · have hp := hp.2 c_3
    refine lv_iload_n hx hb dX11_prints_8 rfl (lv_at hl 2 rfl) ?_
    refine lv_iconst hx hb dX11_prints_9 kI_0 ?_
    refine lv_iconst hx hb dX11_prints_10 kI_2 ?_
    refine q_csI (As := [.int x2, .int (0 : Int32), .int (2 : Int32)]) (rest := []) hC hS hl.1 (rX11_isIn hp) cwX11_345 ysX11_isIn rfl rfl (Nat.le_of_ble_eq_true rfl) (rmk (by decide) (by decide)) dX11_prints_11 (fun r_4 w_5 H locs hp hS => ?_)
    refine lv_if_ne (tgt := 19) hx hb dX11_prints_14 (by decide) (fun c_6 => ?_) (fun c_6 => ?_)
    · have hp := hp.1 c_6
      refine lv_iconst hx hb dX11_prints_19 kI_0 ?_
      refine lv_istore_n (lv' := [(3, .int (0 : Int32)), (0, .ref (g.2.2 300)), (1, .int x1), (2, .int x2)]) hx hb dX11_prints_20 rfl hl (by decide) rfl (fun ls hl => ?_)
      refine lv_iconst hx hb dX11_prints_21 kI_m1 ?_
      refine lv_istore (lv' := [(4, .int (-1 : Int32)), (3, .int (0 : Int32)), (0, .ref (g.2.2 300)), (1, .int x1), (2, .int x2)]) hx hb dX11_prints_22 hl (by decide) rfl (fun ls hl => ?_)
      refine lv_iconst hx hb dX11_prints_24 kI_m1 ?_
      refine lv_istore (lv' := [(5, .int (-1 : Int32)), (4, .int (-1 : Int32)), (3, .int (0 : Int32)), (0, .ref (g.2.2 300)), (1, .int x1), (2, .int x2)]) hx hb dX11_prints_25 hl (by decide) rfl (fun ls hl => ?_)
      refine lv_iconst hx hb dX11_prints_27 kI_0 ?_
      refine lv_istore (lv' := [(6, .int (0 : Int32)), (5, .int (-1 : Int32)), (4, .int (-1 : Int32)), (3, .int (0 : Int32)), (0, .ref (g.2.2 300)), (1, .int x1), (2, .int x2)]) hx hb dX11_prints_28 hl (by decide) rfl (fun ls hl => ?_)
      obtain ⟨n9, hp⟩ := hp
      exact bX11_prints_30 hC hR n9 x1 x2 (0 : Int32) (-1 : Int32) (-1 : Int32) (0 : Int32) w_5 _ _ _ hp hS (lv_sub hl [4, 5, 6, 3, 2, 1, 0] rfl)
    · have hp := hp.2 c_6
      refine lv_iconst hx hb dX11_prints_17 kI_m1 ?_
      exact hR _ _ _ _ _ _ dX11_prints_18 hp hS
def pX11_turnedRow_34 (k4 : Int32 → Int32 → Int32 → Wd → Prop) (post : Int32 → Wd → Prop) (x1 : Int32) (x2 : Int32) (x3 : Int32) (w : Wd) : Prop := ∀ x3_1, x3_1 = x3 + (1 : Int32) → k4 x1 x2 x3_1 w
def pX11_turnedRow_4 (post : Int32 → Wd → Prop) : Nat → Int32 → Int32 → Int32 → Wd → Prop
  | 0, _, _, _, _ => False
  | n + 1, x1, x2, x3, w => pX11_width (fun r_1 w_2 => (r_1 ≤ x3 → (post x2 w_2)) ∧ (¬ r_1 ≤ x3 → ((¬ ((x1 >>> (x3 &&& 31)) &&& (1 : Int32)) = (1 : Int32) → (pX11_turnedRow_34 (pX11_turnedRow_4 post n) post x1 x2 x3 w_2)) ∧ (((x1 >>> (x3 &&& 31)) &&& (1 : Int32)) = (1 : Int32) → (pX11_width (fun r_5 w_6 => ∀ x2_7, x2_7 = (x2 ||| ((1 : Int32) <<< (((r_5 - (1 : Int32)) - x3) &&& 31))) → pX11_turnedRow_34 (pX11_turnedRow_4 post n) post x1 x2_7 x3 w_6) w_2))))) w
def pX11_turnedRow (post : Int32 → Wd → Prop) (x1 : Int32) (w : Wd) : Prop := ∃ n9, pX11_turnedRow_4 post n9 x1 (0 : Int32) (0 : Int32) w
set_option maxHeartbeats 4000000 in
set_option maxRecDepth 100000 in
theorem bX11_turnedRow_34 {p : Program} {l : Launch} {e : Env} {s : State} {m : MethodId} {args : Array Value} {below : List Frame} {meth : Method} {c : Code} {Q : State → Prop} {A : Nat → Prop} {g : Gw} {post : Int32 → Wd → Prop}  (hC : Cx p s m args c cX11_turnedRow RX11 4 g) (hR : RtI tabM p l e (rk 2) s m args below meth c Q cX11_turnedRow A g post)  {k4 : Int32 → Int32 → Int32 → Wd → Prop} (hk4 : ∀ (x1 : Int32) (x2 : Int32) (x3 : Int32) (w : Wd) (H : Heap) (locs : List Loc) (ls : Array Slot), k4 x1 x2 x3 w → St tabM A s.heap g w H locs → lv_has ls 4 [(0, .ref (g.2.2 300)), (1, .int x1), (2, .int x2), (3, .int x3)] → W p l e (rk 2) s m args below meth c H locs 0 0 Q (F0 m 4 ls [])) : ∀ (x1 : Int32) (x2 : Int32) (x3 : Int32) (w : Wd) (H : Heap) (locs : List Loc) (ls : Array Slot), pX11_turnedRow_34 k4 post x1 x2 x3 w → St tabM A s.heap g w H locs → lv_has ls 4 [(0, .ref (g.2.2 300)), (1, .int x1), (2, .int x2), (3, .int x3)] → W p l e (rk 2) s m args below meth c H locs 0 0 Q (F0 m 34 ls []) := by
  have hx := hC.1
  have hb := hC.2.1
  intro x1 x2 x3 w H locs ls hp hS hl
  unfold pX11_turnedRow_34 at hp
  obtain ⟨x3_1, ex3_1⟩ : ∃ y : Int32, y = x3 + (1 : Int32) := ⟨_, rfl⟩
  have hp := hp x3_1 ex3_1
  refine lv_iinc (v := x3_1) (lv' := [(3, .int x3_1), (0, .ref (g.2.2 300)), (1, .int x1), (2, .int x2)]) hx hb dX11_turnedRow_34 hl (k := 3) rfl (by rw [ex3_1]; rfl) (by decide) rfl (fun ls hl => ?_)
  refine lv_goto (tgt := 4) hx hb dX11_turnedRow_37 (by decide) ?_
  exact hk4 x1 x2 x3_1 w _ _ _ hp hS (lv_sub hl [1, 2, 3, 0] rfl)
set_option maxHeartbeats 4000000 in
set_option maxRecDepth 100000 in
theorem bX11_turnedRow_4 {p : Program} {l : Launch} {e : Env} {s : State} {m : MethodId} {args : Array Value} {below : List Frame} {meth : Method} {c : Code} {Q : State → Prop} {A : Nat → Prop} {g : Gw} {post : Int32 → Wd → Prop}  (hC : Cx p s m args c cX11_turnedRow RX11 4 g) (hR : RtI tabM p l e (rk 2) s m args below meth c Q cX11_turnedRow A g post)  : ∀ (n : Nat) (x1 : Int32) (x2 : Int32) (x3 : Int32) (w : Wd) (H : Heap) (locs : List Loc) (ls : Array Slot), pX11_turnedRow_4 post n x1 x2 x3 w → St tabM A s.heap g w H locs → lv_has ls 4 [(0, .ref (g.2.2 300)), (1, .int x1), (2, .int x2), (3, .int x3)] → W p l e (rk 2) s m args below meth c H locs 0 0 Q (F0 m 4 ls []) := by
  have hx := hC.1
  have hb := hC.2.1
  intro n
  induction n with
  | zero =>
    intro x1 x2 x3 w H locs ls hp hS hl
    exact False.elim hp
  | succ n ih =>
    intro x1 x2 x3 w H locs ls hp hS hl
    unfold pX11_turnedRow_4 at hp
    refine lv_iload_n hx hb dX11_turnedRow_4 rfl (lv_at hl 3 rfl) ?_
    refine lv_aload_n hx hb dX11_turnedRow_5 rfl (lv_at hl 0 rfl) ?_
    refine q_cvI (As := []) (rest := [.int x3]) hC hS hl.1 (rX11_width hp) cwX11_342 yvX11_width (rcv_300 hC hS) rfl rfl (Nat.le_of_ble_eq_true rfl) (rmk (by decide) (by decide)) dX11_turnedRow_6 (fun r_1 w_2 H locs hp hS => ?_)
    refine lv_icmp_ge (tgt := 40) hx hb dX11_turnedRow_9 (by decide) (fun c_3 => ?_) (fun c_3 => ?_)
    · have hp := hp.1 c_3
      refine lv_iload_n hx hb dX11_turnedRow_40 rfl (lv_at hl 2 rfl) ?_
      exact hR _ _ _ _ _ _ dX11_turnedRow_41 hp hS
    · have hp := hp.2 c_3
      refine lv_iload_n hx hb dX11_turnedRow_12 rfl (lv_at hl 1 rfl) ?_
      refine lv_iload_n hx hb dX11_turnedRow_13 rfl (lv_at hl 3 rfl) ?_
      refine lv_ishr hx hb dX11_turnedRow_14 ?_
      refine lv_iconst hx hb dX11_turnedRow_15 kI_1 ?_
      refine lv_iand hx hb dX11_turnedRow_16 ?_
      refine lv_iconst hx hb dX11_turnedRow_17 kI_1 ?_
      refine lv_icmp_ne (tgt := 34) hx hb dX11_turnedRow_18 (by decide) (fun c_4 => ?_) (fun c_4 => ?_)
      · have hp := hp.1 c_4
        exact bX11_turnedRow_34 hC hR ih x1 x2 x3 w_2 _ _ _ hp hS (lv_sub hl [0, 1, 2, 3] rfl)
      · have hp := hp.2 c_4
        refine lv_iload_n hx hb dX11_turnedRow_21 rfl (lv_at hl 2 rfl) ?_
        refine lv_iconst hx hb dX11_turnedRow_22 kI_1 ?_
        refine lv_aload_n hx hb dX11_turnedRow_23 rfl (lv_at hl 0 rfl) ?_
        refine q_cvI (As := []) (rest := [.int (1 : Int32), .int x2]) hC hS hl.1 (rX11_width hp) cwX11_342 yvX11_width (rcv_300 hC hS) rfl rfl (Nat.le_of_ble_eq_true rfl) (rmk (by decide) (by decide)) dX11_turnedRow_24 (fun r_5 w_6 H locs hp hS => ?_)
        refine lv_iconst hx hb dX11_turnedRow_27 kI_1 ?_
        refine lv_isub hx hb dX11_turnedRow_28 ?_
        refine lv_iload_n hx hb dX11_turnedRow_29 rfl (lv_at hl 3 rfl) ?_
        refine lv_isub hx hb dX11_turnedRow_30 ?_
        refine lv_ishl hx hb dX11_turnedRow_31 ?_
        refine lv_ior hx hb dX11_turnedRow_32 ?_
        refine lv_topi (fun x2_7 ex2_7 => ?_)
        have hp := hp x2_7 ex2_7
        refine lv_istore_n (lv' := [(2, .int x2_7), (0, .ref (g.2.2 300)), (1, .int x1), (3, .int x3)]) hx hb dX11_turnedRow_33 rfl hl (by decide) rfl (fun ls hl => ?_)
        exact bX11_turnedRow_34 hC hR ih x1 x2_7 x3 w_6 _ _ _ hp hS (lv_sub hl [1, 2, 0, 3] rfl)
set_option maxHeartbeats 4000000 in
set_option maxRecDepth 100000 in
theorem rX11_turnedRow {l : Launch} {g : Gw} {w : Wd} {post : Int32 → Wd → Prop}   {x1 : Int32} (hp : pX11_turnedRow post x1 w) : MtI tabM l yX11_turnedRow cX11_turnedRow 4 (some .int) 2 g w [.ref (g.2.2 300), .int x1] post := by
  refine q_entI tabM_nd (by decide) rfl (Nat.le_of_ble_eq_true rfl) ?_
  intro p e s m args below meth c A Q ls hC hR hS hl
  have hx := hC.1
  have hb := hC.2.1
  have hl : lv_has ls 4 [(0, .ref (g.2.2 300)), (1, .int x1)] := hl
  unfold pX11_turnedRow at hp
  refine lv_iconst hx hb dX11_turnedRow_0 kI_0 ?_
  refine lv_istore_n (lv' := [(2, .int (0 : Int32)), (0, .ref (g.2.2 300)), (1, .int x1)]) hx hb dX11_turnedRow_1 rfl hl (by decide) rfl (fun ls hl => ?_)
  refine lv_iconst hx hb dX11_turnedRow_2 kI_0 ?_
  refine lv_istore_n (lv' := [(3, .int (0 : Int32)), (2, .int (0 : Int32)), (0, .ref (g.2.2 300)), (1, .int x1)]) hx hb dX11_turnedRow_3 rfl hl (by decide) rfl (fun ls hl => ?_)
  obtain ⟨n9, hp⟩ := hp
  exact bX11_turnedRow_4 hC hR n9 x1 (0 : Int32) (0 : Int32) w _ _ _ hp hS (lv_sub hl [2, 3, 1, 0] rfl)
def pX11_turned (post : Int32 → Wd → Prop) (x1 : Int32) (w : Wd) : Prop := pX11_isRow (fun r_1 w_2 => (r_1 = 0 → (post (-1 : Int32) w_2)) ∧ (¬ r_1 = 0 → (pX11_turnedRow (fun r_4 w_5 => post r_4 w_5) x1 w_2))) x1 w
set_option maxHeartbeats 4000000 in
set_option maxRecDepth 100000 in
theorem rX11_turned {l : Launch} {g : Gw} {w : Wd} {post : Int32 → Wd → Prop}   {x1 : Int32} (hp : pX11_turned post x1 w) : MtI tabM l yX11_turned cX11_turned 2 (some .int) 3 g w [.ref (g.2.2 300), .int x1] post := by
  refine q_entI tabM_nd (by decide) rfl (Nat.le_of_ble_eq_true rfl) ?_
  intro p e s m args below meth c A Q ls hC hR hS hl
  have hx := hC.1
  have hb := hC.2.1
  have hl : lv_has ls 2 [(0, .ref (g.2.2 300)), (1, .int x1)] := hl
  unfold pX11_turned at hp
  refine lv_aload_n hx hb dX11_turned_0 rfl (lv_at hl 0 rfl) ?_
  refine lv_iload_n hx hb dX11_turned_1 rfl (lv_at hl 1 rfl) ?_
  refine q_cvI (As := [.int x1]) (rest := []) hC hS hl.1 (rX11_isRow hp) cwX11_358 yvX11_isRow (rcv_300 hC hS) rfl rfl (Nat.le_of_ble_eq_true rfl) (rmk (by decide) (by decide)) dX11_turned_2 (fun r_1 w_2 H locs hp hS => ?_)
  refine lv_if_eq (tgt := 16) hx hb dX11_turned_5 (by decide) (fun c_3 => ?_) (fun c_3 => ?_)
  · have hp := hp.1 c_3
    refine lv_iconst hx hb dX11_turned_16 kI_m1 ?_
    exact hR _ _ _ _ _ _ dX11_turned_17 hp hS
  · have hp := hp.2 c_3
    refine lv_aload_n hx hb dX11_turned_8 rfl (lv_at hl 0 rfl) ?_
    refine lv_iload_n hx hb dX11_turned_9 rfl (lv_at hl 1 rfl) ?_
    refine q_cvI (As := [.int x1]) (rest := []) hC hS hl.1 (rX11_turnedRow hp) cwX11_349 yvX11_turnedRow (rcv_300 hC hS) rfl rfl (Nat.le_of_ble_eq_true rfl) (rmk (by decide) (by decide)) dX11_turned_10 (fun r_4 w_5 H locs hp hS => ?_)
    refine lv_goto (tgt := 17) hx hb dX11_turned_13 (by decide) ?_
    exact hR _ _ _ _ _ _ dX11_turned_17 hp hS
def pX11_bitsOf_4 (post : Int32 → Wd → Prop) : Nat → Int32 → Int32 → Wd → Prop
  | 0, _, _, _ => False
  | n + 1, x1, x2, w => (x2 = 0 → (post x1 w)) ∧ (¬ x2 = 0 → (∀ x1_2, x1_2 = x1 + (1 : Int32) → ∀ x2_3, x2_3 = (x2 &&& (x2 - (1 : Int32))) → pX11_bitsOf_4 post n x1_2 x2_3 w))
def pX11_bitsOf (post : Int32 → Wd → Prop) (x0 : Int32) (w : Wd) : Prop := ∃ n9, pX11_bitsOf_4 post n9 (0 : Int32) x0 w
set_option maxHeartbeats 4000000 in
set_option maxRecDepth 100000 in
theorem bX11_bitsOf_4 {p : Program} {l : Launch} {e : Env} {s : State} {m : MethodId} {args : Array Value} {below : List Frame} {meth : Method} {c : Code} {Q : State → Prop} {A : Nat → Prop} {g : Gw} {post : Int32 → Wd → Prop}  (hC : Cx p s m args c cX11_bitsOf RX11 3 g) (hR : RtI tabM p l e (rk 1) s m args below meth c Q cX11_bitsOf A g post)  : ∀ (n : Nat) (x1 : Int32) (x2 : Int32) (w : Wd) (H : Heap) (locs : List Loc) (ls : Array Slot), pX11_bitsOf_4 post n x1 x2 w → St tabM A s.heap g w H locs → lv_has ls 3 [(1, .int x1), (2, .int x2)] → W p l e (rk 1) s m args below meth c H locs 0 0 Q (F0 m 4 ls []) := by
  have hx := hC.1
  have hb := hC.2.1
  intro n
  induction n with
  | zero =>
    intro x1 x2 w H locs ls hp hS hl
    exact False.elim hp
  | succ n ih =>
    intro x1 x2 w H locs ls hp hS hl
    unfold pX11_bitsOf_4 at hp
    refine lv_iload_n hx hb dX11_bitsOf_4 rfl (lv_at hl 1 rfl) ?_
    refine lv_if_eq (tgt := 20) hx hb dX11_bitsOf_5 (by decide) (fun c_1 => ?_) (fun c_1 => ?_)
    · have hp := hp.1 c_1
      refine lv_iload_n hx hb dX11_bitsOf_20 rfl (lv_at hl 0 rfl) ?_
      exact hR _ _ _ _ _ _ dX11_bitsOf_21 hp hS
    · have hp := hp.2 c_1
      obtain ⟨x1_2, ex1_2⟩ : ∃ y : Int32, y = x1 + (1 : Int32) := ⟨_, rfl⟩
      have hp := hp x1_2 ex1_2
      refine lv_iinc (v := x1_2) (lv' := [(1, .int x1_2), (2, .int x2)]) hx hb dX11_bitsOf_8 hl (k := 0) rfl (by rw [ex1_2]; rfl) (by decide) rfl (fun ls hl => ?_)
      refine lv_iload_n hx hb dX11_bitsOf_11 rfl (lv_at hl 1 rfl) ?_
      refine lv_iload_n hx hb dX11_bitsOf_12 rfl (lv_at hl 1 rfl) ?_
      refine lv_iconst hx hb dX11_bitsOf_13 kI_1 ?_
      refine lv_isub hx hb dX11_bitsOf_14 ?_
      refine lv_iand hx hb dX11_bitsOf_15 ?_
      refine lv_topi (fun x2_3 ex2_3 => ?_)
      have hp := hp x2_3 ex2_3
      refine lv_istore_n (lv' := [(2, .int x2_3), (1, .int x1_2)]) hx hb dX11_bitsOf_16 rfl hl (by decide) rfl (fun ls hl => ?_)
      refine lv_goto (tgt := 4) hx hb dX11_bitsOf_17 (by decide) ?_
      exact ih x1_2 x2_3 w _ _ _ hp hS (lv_sub hl [1, 0] rfl)
set_option maxHeartbeats 4000000 in
set_option maxRecDepth 100000 in
theorem rX11_bitsOf {l : Launch} {g : Gw} {w : Wd} {post : Int32 → Wd → Prop}   {x0 : Int32} (hp : pX11_bitsOf post x0 w) : MtI tabM l yX11_bitsOf cX11_bitsOf 3 (some .int) 1 g w [.int x0] post := by
  refine q_entI tabM_nd (by decide) rfl (Nat.le_of_ble_eq_true rfl) ?_
  intro p e s m args below meth c A Q ls hC hR hS hl
  have hx := hC.1
  have hb := hC.2.1
  have hl : lv_has ls 3 [(0, .int x0)] := hl
  unfold pX11_bitsOf at hp
  refine lv_iconst hx hb dX11_bitsOf_0 kI_0 ?_
  refine lv_istore_n (lv' := [(1, .int (0 : Int32)), (0, .int x0)]) hx hb dX11_bitsOf_1 rfl hl (by decide) rfl (fun ls hl => ?_)
  refine lv_iload_n hx hb dX11_bitsOf_2 rfl (lv_at hl 1 rfl) ?_
  refine lv_istore_n (lv' := [(2, .int x0), (1, .int (0 : Int32)), (0, .int x0)]) hx hb dX11_bitsOf_3 rfl hl (by decide) rfl (fun ls hl => ?_)
  obtain ⟨n9, hp⟩ := hp
  exact bX11_bitsOf_4 hC hR n9 (0 : Int32) x0 w _ _ _ hp hS (lv_sub hl [1, 0] rfl)
def pX11_asked (post : Int32 → Wd → Prop) (x1 : Int32) (x2 : Int32) (w : Wd) : Prop := (x1.toInt < 100 ∨ 121 < x1.toInt → (post x2 w)) ∧ (x1.toInt = 100 → (post (w.1 300 39) w)) ∧ (x1.toInt = 101 → (post x2 w)) ∧ (x1.toInt = 102 → (post x2 w)) ∧ (x1.toInt = 103 → (post x2 w)) ∧ (x1.toInt = 104 → (post (((w.1 300 35) >>> ((w.1 300 36) &&& 31)) &&& (1 : Int32)) w)) ∧ (x1.toInt = 105 → (post x2 w)) ∧ (x1.toInt = 106 → (post (w.2.1 341 (219 : Int32).toNatClampNeg) w)) ∧ (x1.toInt = 107 → (post x2 w)) ∧ (x1.toInt = 108 → (((w.1 300 36) ≤ 0 → (post (0 : Int32) w)) ∧ (¬ (w.1 300 36) ≤ 0 → (post (((w.1 300 35) >>> (((w.1 300 36) - (1 : Int32)) &&& 31)) &&& (1 : Int32)) w)))) ∧ (x1.toInt = 109 → (post (w.1 300 36) w)) ∧ (x1.toInt = 110 → (post x2 w)) ∧ (x1.toInt = 111 → (post x2 w)) ∧ (x1.toInt = 112 → (post x2 w)) ∧ (x1.toInt = 113 → (post x2 w)) ∧ (x1.toInt = 114 → (post (((w.1 300 35) >>> (((w.1 300 36) + (1 : Int32)) &&& 31)) &&& (1 : Int32)) w)) ∧ (x1.toInt = 115 → (post x2 w)) ∧ (x1.toInt = 116 → (post (w.1 300 38) w)) ∧ (x1.toInt = 117 → (post x2 w)) ∧ (x1.toInt = 118 → (post x2 w)) ∧ (x1.toInt = 119 → (post x2 w)) ∧ (x1.toInt = 120 → (post x2 w)) ∧ (x1.toInt = 121 → (post (w.1 300 37) w))
set_option maxHeartbeats 4000000 in
set_option maxRecDepth 100000 in
theorem rX11_asked {l : Launch} {g : Gw} {w : Wd} {post : Int32 → Wd → Prop}   {x1 : Int32} {x2 : Int32} (hp : pX11_asked post x1 x2 w) : MtI tabM l yX11_asked cX11_asked 3 (some .int) 1 g w [.ref (g.2.2 300), .int x1, .int x2] post := by
  refine q_entI tabM_nd (by decide) rfl (Nat.le_of_ble_eq_true rfl) ?_
  intro p e s m args below meth c A Q ls hC hR hS hl
  have hx := hC.1
  have hb := hC.2.1
  have hl : lv_has ls 3 [(0, .ref (g.2.2 300)), (1, .int x1), (2, .int x2)] := hl
  unfold pX11_asked at hp
  refine lv_iload_n hx hb dX11_asked_0 rfl (lv_at hl 1 rfl) ?_
  by_cases c_1 : x1.toInt < 100 ∨ 121 < x1.toInt
  · have hp := hp.1 c_1
    refine lv_tableOut (tgt := 184) hx hb dX11_asked_1 c_1 (by decide) ?_
    refine lv_iload_n hx hb dX11_asked_184 rfl (lv_at hl 2 rfl) ?_
    exact hR _ _ _ _ _ _ dX11_asked_185 hp hS
  · have hp := hp.2
    have c_11 : ¬ x1.toInt < 100 := fun z => c_1 (Or.inl z)
    have c_12 : ¬ 121 < x1.toInt := fun z => c_1 (Or.inr z)
    rcases (show x1.toInt = 100 ∨ x1.toInt = 101 ∨ x1.toInt = 102 ∨ x1.toInt = 103 ∨ x1.toInt = 104 ∨ x1.toInt = 105 ∨ x1.toInt = 106 ∨ x1.toInt = 107 ∨ x1.toInt = 108 ∨ x1.toInt = 109 ∨ x1.toInt = 110 ∨ x1.toInt = 111 ∨ x1.toInt = 112 ∨ x1.toInt = 113 ∨ x1.toInt = 114 ∨ x1.toInt = 115 ∨ x1.toInt = 116 ∨ x1.toInt = 117 ∨ x1.toInt = 118 ∨ x1.toInt = 119 ∨ x1.toInt = 120 ∨ x1.toInt = 121 by omega) with c_13 | c_13 | c_13 | c_13 | c_13 | c_13 | c_13 | c_13 | c_13 | c_13 | c_13 | c_13 | c_13 | c_13 | c_13 | c_13 | c_13 | c_13 | c_13 | c_13 | c_13 | c_13
    · have hp := hp.1 c_13
      refine lv_tableIn (tgt := 179) hx hb dX11_asked_1 c_11 c_12 (by rw [c_13]; rfl) (by decide) ?_
      refine lv_aload_n hx hb dX11_asked_179 rfl (lv_at hl 0 rfl) ?_
      refine G_300_39 hC hS m761 dX11_asked_180 ?_
      exact hR _ _ _ _ _ _ dX11_asked_183 hp hS
    · have hp := hp.2.1 c_13
      refine lv_tableIn (tgt := 184) hx hb dX11_asked_1 c_11 c_12 (by rw [c_13]; rfl) (by decide) ?_
      refine lv_iload_n hx hb dX11_asked_184 rfl (lv_at hl 2 rfl) ?_
      exact hR _ _ _ _ _ _ dX11_asked_185 hp hS
    · have hp := hp.2.2.1 c_13
      refine lv_tableIn (tgt := 184) hx hb dX11_asked_1 c_11 c_12 (by rw [c_13]; rfl) (by decide) ?_
      refine lv_iload_n hx hb dX11_asked_184 rfl (lv_at hl 2 rfl) ?_
      exact hR _ _ _ _ _ _ dX11_asked_185 hp hS
    · have hp := hp.2.2.2.1 c_13
      refine lv_tableIn (tgt := 184) hx hb dX11_asked_1 c_11 c_12 (by rw [c_13]; rfl) (by decide) ?_
      refine lv_iload_n hx hb dX11_asked_184 rfl (lv_at hl 2 rfl) ?_
      exact hR _ _ _ _ _ _ dX11_asked_185 hp hS
    · have hp := hp.2.2.2.2.1 c_13
      refine lv_tableIn (tgt := 109) hx hb dX11_asked_1 c_11 c_12 (by rw [c_13]; rfl) (by decide) ?_
      refine lv_aload_n hx hb dX11_asked_109 rfl (lv_at hl 0 rfl) ?_
      refine G_300_35 hC hS m758 dX11_asked_110 ?_
      refine lv_aload_n hx hb dX11_asked_113 rfl (lv_at hl 0 rfl) ?_
      refine G_300_36 hC hS m762 dX11_asked_114 ?_
      refine lv_ishr hx hb dX11_asked_117 ?_
      refine lv_iconst hx hb dX11_asked_118 kI_1 ?_
      refine lv_iand hx hb dX11_asked_119 ?_
      exact hR _ _ _ _ _ _ dX11_asked_120 hp hS
    · have hp := hp.2.2.2.2.2.1 c_13
      refine lv_tableIn (tgt := 184) hx hb dX11_asked_1 c_11 c_12 (by rw [c_13]; rfl) (by decide) ?_
      refine lv_iload_n hx hb dX11_asked_184 rfl (lv_at hl 2 rfl) ?_
      exact hR _ _ _ _ _ _ dX11_asked_185 hp hS
    · have hp := hp.2.2.2.2.2.2.1 c_13
      refine lv_tableIn (tgt := 165) hx hb dX11_asked_1 c_11 c_12 (by rw [c_13]; rfl) (by decide) ?_
      refine lv_aload_n hx hb dX11_asked_165 rfl (lv_at hl 0 rfl) ?_
      refine G_300_40 hC hS m274 dX11_asked_166 ?_
      refine lv_sipush hx hb dX11_asked_169 kS_219 ?_
      refine La_341 hC hS (by unfold vp_in; decide) dX11_asked_172 ?_
      exact hR _ _ _ _ _ _ dX11_asked_173 hp hS
    · have hp := hp.2.2.2.2.2.2.2.1 c_13
      refine lv_tableIn (tgt := 184) hx hb dX11_asked_1 c_11 c_12 (by rw [c_13]; rfl) (by decide) ?_
      refine lv_iload_n hx hb dX11_asked_184 rfl (lv_at hl 2 rfl) ?_
      exact hR _ _ _ _ _ _ dX11_asked_185 hp hS
    · have hp := hp.2.2.2.2.2.2.2.2.1 c_13
      refine lv_tableIn (tgt := 121) hx hb dX11_asked_1 c_11 c_12 (by rw [c_13]; rfl) (by decide) ?_
      refine lv_aload_n hx hb dX11_asked_121 rfl (lv_at hl 0 rfl) ?_
      refine G_300_36 hC hS m762 dX11_asked_122 ?_
      refine lv_if_le (tgt := 144) hx hb dX11_asked_125 (by decide) (fun c_2 => ?_) (fun c_2 => ?_)
      · have hp := hp.1 c_2
        refine lv_iconst hx hb dX11_asked_144 kI_0 ?_
        exact hR _ _ _ _ _ _ dX11_asked_145 hp hS
      · have hp := hp.2 c_2
        refine lv_aload_n hx hb dX11_asked_128 rfl (lv_at hl 0 rfl) ?_
        refine G_300_35 hC hS m758 dX11_asked_129 ?_
        refine lv_aload_n hx hb dX11_asked_132 rfl (lv_at hl 0 rfl) ?_
        refine G_300_36 hC hS m762 dX11_asked_133 ?_
        refine lv_iconst hx hb dX11_asked_136 kI_1 ?_
        refine lv_isub hx hb dX11_asked_137 ?_
        refine lv_ishr hx hb dX11_asked_138 ?_
        refine lv_iconst hx hb dX11_asked_139 kI_1 ?_
        refine lv_iand hx hb dX11_asked_140 ?_
        refine lv_goto (tgt := 145) hx hb dX11_asked_141 (by decide) ?_
        exact hR _ _ _ _ _ _ dX11_asked_145 hp hS
    · have hp := hp.2.2.2.2.2.2.2.2.2.1 c_13
      refine lv_tableIn (tgt := 104) hx hb dX11_asked_1 c_11 c_12 (by rw [c_13]; rfl) (by decide) ?_
      refine lv_aload_n hx hb dX11_asked_104 rfl (lv_at hl 0 rfl) ?_
      refine G_300_36 hC hS m762 dX11_asked_105 ?_
      exact hR _ _ _ _ _ _ dX11_asked_108 hp hS
    · have hp := hp.2.2.2.2.2.2.2.2.2.2.1 c_13
      refine lv_tableIn (tgt := 184) hx hb dX11_asked_1 c_11 c_12 (by rw [c_13]; rfl) (by decide) ?_
      refine lv_iload_n hx hb dX11_asked_184 rfl (lv_at hl 2 rfl) ?_
      exact hR _ _ _ _ _ _ dX11_asked_185 hp hS
    · have hp := hp.2.2.2.2.2.2.2.2.2.2.2.1 c_13
      refine lv_tableIn (tgt := 184) hx hb dX11_asked_1 c_11 c_12 (by rw [c_13]; rfl) (by decide) ?_
      refine lv_iload_n hx hb dX11_asked_184 rfl (lv_at hl 2 rfl) ?_
      exact hR _ _ _ _ _ _ dX11_asked_185 hp hS
    · have hp := hp.2.2.2.2.2.2.2.2.2.2.2.2.1 c_13
      refine lv_tableIn (tgt := 184) hx hb dX11_asked_1 c_11 c_12 (by rw [c_13]; rfl) (by decide) ?_
      refine lv_iload_n hx hb dX11_asked_184 rfl (lv_at hl 2 rfl) ?_
      exact hR _ _ _ _ _ _ dX11_asked_185 hp hS
    · have hp := hp.2.2.2.2.2.2.2.2.2.2.2.2.2.1 c_13
      refine lv_tableIn (tgt := 184) hx hb dX11_asked_1 c_11 c_12 (by rw [c_13]; rfl) (by decide) ?_
      refine lv_iload_n hx hb dX11_asked_184 rfl (lv_at hl 2 rfl) ?_
      exact hR _ _ _ _ _ _ dX11_asked_185 hp hS
    · have hp := hp.2.2.2.2.2.2.2.2.2.2.2.2.2.2.1 c_13
      refine lv_tableIn (tgt := 146) hx hb dX11_asked_1 c_11 c_12 (by rw [c_13]; rfl) (by decide) ?_
      refine lv_aload_n hx hb dX11_asked_146 rfl (lv_at hl 0 rfl) ?_
      refine G_300_35 hC hS m758 dX11_asked_147 ?_
      refine lv_aload_n hx hb dX11_asked_150 rfl (lv_at hl 0 rfl) ?_
      refine G_300_36 hC hS m762 dX11_asked_151 ?_
      refine lv_iconst hx hb dX11_asked_154 kI_1 ?_
      refine lv_iadd hx hb dX11_asked_155 ?_
      refine lv_ishr hx hb dX11_asked_156 ?_
      refine lv_iconst hx hb dX11_asked_157 kI_1 ?_
      refine lv_iand hx hb dX11_asked_158 ?_
      exact hR _ _ _ _ _ _ dX11_asked_159 hp hS
    · have hp := hp.2.2.2.2.2.2.2.2.2.2.2.2.2.2.2.1 c_13
      refine lv_tableIn (tgt := 184) hx hb dX11_asked_1 c_11 c_12 (by rw [c_13]; rfl) (by decide) ?_
      refine lv_iload_n hx hb dX11_asked_184 rfl (lv_at hl 2 rfl) ?_
      exact hR _ _ _ _ _ _ dX11_asked_185 hp hS
    · have hp := hp.2.2.2.2.2.2.2.2.2.2.2.2.2.2.2.2.1 c_13
      refine lv_tableIn (tgt := 174) hx hb dX11_asked_1 c_11 c_12 (by rw [c_13]; rfl) (by decide) ?_
      refine lv_aload_n hx hb dX11_asked_174 rfl (lv_at hl 0 rfl) ?_
      refine G_300_38 hC hS m760 dX11_asked_175 ?_
      exact hR _ _ _ _ _ _ dX11_asked_178 hp hS
    · have hp := hp.2.2.2.2.2.2.2.2.2.2.2.2.2.2.2.2.2.1 c_13
      refine lv_tableIn (tgt := 184) hx hb dX11_asked_1 c_11 c_12 (by rw [c_13]; rfl) (by decide) ?_
      refine lv_iload_n hx hb dX11_asked_184 rfl (lv_at hl 2 rfl) ?_
      exact hR _ _ _ _ _ _ dX11_asked_185 hp hS
    · have hp := hp.2.2.2.2.2.2.2.2.2.2.2.2.2.2.2.2.2.2.1 c_13
      refine lv_tableIn (tgt := 184) hx hb dX11_asked_1 c_11 c_12 (by rw [c_13]; rfl) (by decide) ?_
      refine lv_iload_n hx hb dX11_asked_184 rfl (lv_at hl 2 rfl) ?_
      exact hR _ _ _ _ _ _ dX11_asked_185 hp hS
    · have hp := hp.2.2.2.2.2.2.2.2.2.2.2.2.2.2.2.2.2.2.2.1 c_13
      refine lv_tableIn (tgt := 184) hx hb dX11_asked_1 c_11 c_12 (by rw [c_13]; rfl) (by decide) ?_
      refine lv_iload_n hx hb dX11_asked_184 rfl (lv_at hl 2 rfl) ?_
      exact hR _ _ _ _ _ _ dX11_asked_185 hp hS
    · have hp := hp.2.2.2.2.2.2.2.2.2.2.2.2.2.2.2.2.2.2.2.2.1 c_13
      refine lv_tableIn (tgt := 184) hx hb dX11_asked_1 c_11 c_12 (by rw [c_13]; rfl) (by decide) ?_
      refine lv_iload_n hx hb dX11_asked_184 rfl (lv_at hl 2 rfl) ?_
      exact hR _ _ _ _ _ _ dX11_asked_185 hp hS
    · have hp := hp.2.2.2.2.2.2.2.2.2.2.2.2.2.2.2.2.2.2.2.2.2 c_13
      refine lv_tableIn (tgt := 160) hx hb dX11_asked_1 c_11 c_12 (by rw [c_13]; rfl) (by decide) ?_
      refine lv_aload_n hx hb dX11_asked_160 rfl (lv_at hl 0 rfl) ?_
      refine G_300_37 hC hS m759 dX11_asked_161 ?_
      exact hR _ _ _ _ _ _ dX11_asked_164 hp hS
def pX11_two (post : Int32 → Wd → Prop) (x0 : Int32) (x1 : Int32) (x2 : Int32) (w : Wd) : Prop := (x0.toInt < 37 ∨ 62 < x0.toInt → ((¬ x1 = 0 → (post (1 : Int32) w)) ∧ (x1 = 0 → ((x2 = 0 → (post (0 : Int32) w)) ∧ (¬ x2 = 0 → (post (1 : Int32) w)))))) ∧ (x0.toInt = 37 → ((¬ x2 = 0 → (¬ x2 = 0 ∧ post (x1 - x1 / x2 * x2) w)) ∧ (x2 = 0 → (post (0 : Int32) w)))) ∧ (x0.toInt = 38 → ((x1 = 0 → (post (0 : Int32) w)) ∧ (¬ x1 = 0 → ((x2 = 0 → (post (0 : Int32) w)) ∧ (¬ x2 = 0 → (post (1 : Int32) w)))))) ∧ (x0.toInt = 39 → ((¬ x1 = 0 → (post (1 : Int32) w)) ∧ (x1 = 0 → ((x2 = 0 → (post (0 : Int32) w)) ∧ (¬ x2 = 0 → (post (1 : Int32) w)))))) ∧ (x0.toInt = 40 → ((¬ x1 = 0 → (post (1 : Int32) w)) ∧ (x1 = 0 → ((x2 = 0 → (post (0 : Int32) w)) ∧ (¬ x2 = 0 → (post (1 : Int32) w)))))) ∧ (x0.toInt = 41 → ((¬ x1 = 0 → (post (1 : Int32) w)) ∧ (x1 = 0 → ((x2 = 0 → (post (0 : Int32) w)) ∧ (¬ x2 = 0 → (post (1 : Int32) w)))))) ∧ (x0.toInt = 42 → (post (x1 * x2) w)) ∧ (x0.toInt = 43 → (post (x1 + x2) w)) ∧ (x0.toInt = 44 → ((¬ x1 = 0 → (post (1 : Int32) w)) ∧ (x1 = 0 → ((x2 = 0 → (post (0 : Int32) w)) ∧ (¬ x2 = 0 → (post (1 : Int32) w)))))) ∧ (x0.toInt = 45 → (post (x1 - x2) w)) ∧ (x0.toInt = 46 → ((¬ x1 = 0 → (post (1 : Int32) w)) ∧ (x1 = 0 → ((x2 = 0 → (post (0 : Int32) w)) ∧ (¬ x2 = 0 → (post (1 : Int32) w)))))) ∧ (x0.toInt = 47 → ((¬ x2 = 0 → (¬ x2 = 0 ∧ post (x1 / x2) w)) ∧ (x2 = 0 → (post (0 : Int32) w)))) ∧ (x0.toInt = 48 → ((¬ x1 = 0 → (post (1 : Int32) w)) ∧ (x1 = 0 → ((x2 = 0 → (post (0 : Int32) w)) ∧ (¬ x2 = 0 → (post (1 : Int32) w)))))) ∧ (x0.toInt = 49 → ((¬ x1 = 0 → (post (1 : Int32) w)) ∧ (x1 = 0 → ((x2 = 0 → (post (0 : Int32) w)) ∧ (¬ x2 = 0 → (post (1 : Int32) w)))))) ∧ (x0.toInt = 50 → ((¬ x1 = 0 → (post (1 : Int32) w)) ∧ (x1 = 0 → ((x2 = 0 → (post (0 : Int32) w)) ∧ (¬ x2 = 0 → (post (1 : Int32) w)))))) ∧ (x0.toInt = 51 → ((¬ x1 = 0 → (post (1 : Int32) w)) ∧ (x1 = 0 → ((x2 = 0 → (post (0 : Int32) w)) ∧ (¬ x2 = 0 → (post (1 : Int32) w)))))) ∧ (x0.toInt = 52 → ((¬ x1 = 0 → (post (1 : Int32) w)) ∧ (x1 = 0 → ((x2 = 0 → (post (0 : Int32) w)) ∧ (¬ x2 = 0 → (post (1 : Int32) w)))))) ∧ (x0.toInt = 53 → ((¬ x1 = 0 → (post (1 : Int32) w)) ∧ (x1 = 0 → ((x2 = 0 → (post (0 : Int32) w)) ∧ (¬ x2 = 0 → (post (1 : Int32) w)))))) ∧ (x0.toInt = 54 → ((¬ x1 = 0 → (post (1 : Int32) w)) ∧ (x1 = 0 → ((x2 = 0 → (post (0 : Int32) w)) ∧ (¬ x2 = 0 → (post (1 : Int32) w)))))) ∧ (x0.toInt = 55 → ((¬ x1 = 0 → (post (1 : Int32) w)) ∧ (x1 = 0 → ((x2 = 0 → (post (0 : Int32) w)) ∧ (¬ x2 = 0 → (post (1 : Int32) w)))))) ∧ (x0.toInt = 56 → ((¬ x1 = 0 → (post (1 : Int32) w)) ∧ (x1 = 0 → ((x2 = 0 → (post (0 : Int32) w)) ∧ (¬ x2 = 0 → (post (1 : Int32) w)))))) ∧ (x0.toInt = 57 → ((¬ x1 = 0 → (post (1 : Int32) w)) ∧ (x1 = 0 → ((x2 = 0 → (post (0 : Int32) w)) ∧ (¬ x2 = 0 → (post (1 : Int32) w)))))) ∧ (x0.toInt = 58 → ((¬ x1 = 0 → (post (1 : Int32) w)) ∧ (x1 = 0 → ((x2 = 0 → (post (0 : Int32) w)) ∧ (¬ x2 = 0 → (post (1 : Int32) w)))))) ∧ (x0.toInt = 59 → ((¬ x1 = 0 → (post (1 : Int32) w)) ∧ (x1 = 0 → ((x2 = 0 → (post (0 : Int32) w)) ∧ (¬ x2 = 0 → (post (1 : Int32) w)))))) ∧ (x0.toInt = 60 → ((x2 ≤ x1 → (post (0 : Int32) w)) ∧ (¬ x2 ≤ x1 → (post (1 : Int32) w)))) ∧ (x0.toInt = 61 → ((¬ x1 = x2 → (post (0 : Int32) w)) ∧ (x1 = x2 → (post (1 : Int32) w)))) ∧ (x0.toInt = 62 → ((x1 ≤ x2 → (post (0 : Int32) w)) ∧ (¬ x1 ≤ x2 → (post (1 : Int32) w))))
set_option maxHeartbeats 4000000 in
set_option maxRecDepth 100000 in
theorem rX11_two {l : Launch} {g : Gw} {w : Wd} {post : Int32 → Wd → Prop}   {x0 : Int32} {x1 : Int32} {x2 : Int32} (hp : pX11_two post x0 x1 x2 w) : MtI tabM l yX11_two cX11_two 3 (some .int) 1 g w [.int x0, .int x1, .int x2] post := by
  refine q_entI tabM_nd (by decide) rfl (Nat.le_of_ble_eq_true rfl) ?_
  intro p e s m args below meth c A Q ls hC hR hS hl
  have hx := hC.1
  have hb := hC.2.1
  have hl : lv_has ls 3 [(0, .int x0), (1, .int x1), (2, .int x2)] := hl
  unfold pX11_two at hp
  refine lv_iload_n hx hb dX11_two_0 rfl (lv_at hl 0 rfl) ?_
  by_cases c_1 : x0.toInt < 37 ∨ 62 < x0.toInt
  · have hp := hp.1 c_1
    refine lv_tableOut (tgt := 203) hx hb dX11_two_1 c_1 (by decide) ?_
    refine lv_iload_n hx hb dX11_two_203 rfl (lv_at hl 1 rfl) ?_
    refine lv_if_ne (tgt := 211) hx hb dX11_two_204 (by decide) (fun c_2 => ?_) (fun c_2 => ?_)
    · have hp := hp.1 c_2
      refine lv_iconst hx hb dX11_two_211 kI_1 ?_
      refine lv_goto (tgt := 216) hx hb dX11_two_212 (by decide) ?_
      exact hR _ _ _ _ _ _ dX11_two_216 hp hS
    · have hp := hp.2 c_2
      refine lv_iload_n hx hb dX11_two_207 rfl (lv_at hl 2 rfl) ?_
      refine lv_if_eq (tgt := 215) hx hb dX11_two_208 (by decide) (fun c_3 => ?_) (fun c_3 => ?_)
      · have hp := hp.1 c_3
        refine lv_iconst hx hb dX11_two_215 kI_0 ?_
        exact hR _ _ _ _ _ _ dX11_two_216 hp hS
      · have hp := hp.2 c_3
        refine lv_iconst hx hb dX11_two_211 kI_1 ?_
        refine lv_goto (tgt := 216) hx hb dX11_two_212 (by decide) ?_
        exact hR _ _ _ _ _ _ dX11_two_216 hp hS
  · have hp := hp.2
    have c_11 : ¬ x0.toInt < 37 := fun z => c_1 (Or.inl z)
    have c_12 : ¬ 62 < x0.toInt := fun z => c_1 (Or.inr z)
    rcases (show x0.toInt = 37 ∨ x0.toInt = 38 ∨ x0.toInt = 39 ∨ x0.toInt = 40 ∨ x0.toInt = 41 ∨ x0.toInt = 42 ∨ x0.toInt = 43 ∨ x0.toInt = 44 ∨ x0.toInt = 45 ∨ x0.toInt = 46 ∨ x0.toInt = 47 ∨ x0.toInt = 48 ∨ x0.toInt = 49 ∨ x0.toInt = 50 ∨ x0.toInt = 51 ∨ x0.toInt = 52 ∨ x0.toInt = 53 ∨ x0.toInt = 54 ∨ x0.toInt = 55 ∨ x0.toInt = 56 ∨ x0.toInt = 57 ∨ x0.toInt = 58 ∨ x0.toInt = 59 ∨ x0.toInt = 60 ∨ x0.toInt = 61 ∨ x0.toInt = 62 by omega) with c_13 | c_13 | c_13 | c_13 | c_13 | c_13 | c_13 | c_13 | c_13 | c_13 | c_13 | c_13 | c_13 | c_13 | c_13 | c_13 | c_13 | c_13 | c_13 | c_13 | c_13 | c_13 | c_13 | c_13 | c_13 | c_13
    · have hp := hp.1 c_13
      refine lv_tableIn (tgt := 144) hx hb dX11_two_1 c_11 c_12 (by rw [c_13]; rfl) (by decide) ?_
      refine lv_iload_n hx hb dX11_two_144 rfl (lv_at hl 2 rfl) ?_
      refine lv_if_ne (tgt := 152) hx hb dX11_two_145 (by decide) (fun c_4 => ?_) (fun c_4 => ?_)
      · have hp := hp.1 c_4
        refine lv_iload_n hx hb dX11_two_152 rfl (lv_at hl 1 rfl) ?_
        refine lv_iload_n hx hb dX11_two_153 rfl (lv_at hl 2 rfl) ?_
        refine lv_irem hx hb dX11_two_154 hp.1 ?_
        have hp := hp.2
        exact hR _ _ _ _ _ _ dX11_two_155 hp hS
      · have hp := hp.2 c_4
        refine lv_iconst hx hb dX11_two_148 kI_0 ?_
        refine lv_goto (tgt := 155) hx hb dX11_two_149 (by decide) ?_
        exact hR _ _ _ _ _ _ dX11_two_155 hp hS
    · have hp := hp.2.1 c_13
      refine lv_tableIn (tgt := 189) hx hb dX11_two_1 c_11 c_12 (by rw [c_13]; rfl) (by decide) ?_
      refine lv_iload_n hx hb dX11_two_189 rfl (lv_at hl 1 rfl) ?_
      refine lv_if_eq (tgt := 201) hx hb dX11_two_190 (by decide) (fun c_5 => ?_) (fun c_5 => ?_)
      · have hp := hp.1 c_5
        refine lv_iconst hx hb dX11_two_201 kI_0 ?_
        exact hR _ _ _ _ _ _ dX11_two_202 hp hS
      · have hp := hp.2 c_5
        refine lv_iload_n hx hb dX11_two_193 rfl (lv_at hl 2 rfl) ?_
        refine lv_if_eq (tgt := 201) hx hb dX11_two_194 (by decide) (fun c_6 => ?_) (fun c_6 => ?_)
        · have hp := hp.1 c_6
          refine lv_iconst hx hb dX11_two_201 kI_0 ?_
          exact hR _ _ _ _ _ _ dX11_two_202 hp hS
        · have hp := hp.2 c_6
          refine lv_iconst hx hb dX11_two_197 kI_1 ?_
          refine lv_goto (tgt := 202) hx hb dX11_two_198 (by decide) ?_
          exact hR _ _ _ _ _ _ dX11_two_202 hp hS
    · have hp := hp.2.2.1 c_13
      refine lv_tableIn (tgt := 203) hx hb dX11_two_1 c_11 c_12 (by rw [c_13]; rfl) (by decide) ?_
      refine lv_iload_n hx hb dX11_two_203 rfl (lv_at hl 1 rfl) ?_
      refine lv_if_ne (tgt := 211) hx hb dX11_two_204 (by decide) (fun c_7 => ?_) (fun c_7 => ?_)
      · have hp := hp.1 c_7
        refine lv_iconst hx hb dX11_two_211 kI_1 ?_
        refine lv_goto (tgt := 216) hx hb dX11_two_212 (by decide) ?_
        exact hR _ _ _ _ _ _ dX11_two_216 hp hS
      · have hp := hp.2 c_7
        refine lv_iload_n hx hb dX11_two_207 rfl (lv_at hl 2 rfl) ?_
        refine lv_if_eq (tgt := 215) hx hb dX11_two_208 (by decide) (fun c_8 => ?_) (fun c_8 => ?_)
        · have hp := hp.1 c_8
          refine lv_iconst hx hb dX11_two_215 kI_0 ?_
          exact hR _ _ _ _ _ _ dX11_two_216 hp hS
        · have hp := hp.2 c_8
          refine lv_iconst hx hb dX11_two_211 kI_1 ?_
          refine lv_goto (tgt := 216) hx hb dX11_two_212 (by decide) ?_
          exact hR _ _ _ _ _ _ dX11_two_216 hp hS
    · have hp := hp.2.2.2.1 c_13
      refine lv_tableIn (tgt := 203) hx hb dX11_two_1 c_11 c_12 (by rw [c_13]; rfl) (by decide) ?_
      refine lv_iload_n hx hb dX11_two_203 rfl (lv_at hl 1 rfl) ?_
      refine lv_if_ne (tgt := 211) hx hb dX11_two_204 (by decide) (fun c_9 => ?_) (fun c_9 => ?_)
      · have hp := hp.1 c_9
        refine lv_iconst hx hb dX11_two_211 kI_1 ?_
        refine lv_goto (tgt := 216) hx hb dX11_two_212 (by decide) ?_
        exact hR _ _ _ _ _ _ dX11_two_216 hp hS
      · have hp := hp.2 c_9
        refine lv_iload_n hx hb dX11_two_207 rfl (lv_at hl 2 rfl) ?_
        refine lv_if_eq (tgt := 215) hx hb dX11_two_208 (by decide) (fun c_10 => ?_) (fun c_10 => ?_)
        · have hp := hp.1 c_10
          refine lv_iconst hx hb dX11_two_215 kI_0 ?_
          exact hR _ _ _ _ _ _ dX11_two_216 hp hS
        · have hp := hp.2 c_10
          refine lv_iconst hx hb dX11_two_211 kI_1 ?_
          refine lv_goto (tgt := 216) hx hb dX11_two_212 (by decide) ?_
          exact hR _ _ _ _ _ _ dX11_two_216 hp hS
    · have hp := hp.2.2.2.2.1 c_13
      refine lv_tableIn (tgt := 203) hx hb dX11_two_1 c_11 c_12 (by rw [c_13]; rfl) (by decide) ?_
      refine lv_iload_n hx hb dX11_two_203 rfl (lv_at hl 1 rfl) ?_
      refine lv_if_ne (tgt := 211) hx hb dX11_two_204 (by decide) (fun c_11 => ?_) (fun c_11 => ?_)
      · have hp := hp.1 c_11
        refine lv_iconst hx hb dX11_two_211 kI_1 ?_
        refine lv_goto (tgt := 216) hx hb dX11_two_212 (by decide) ?_
        exact hR _ _ _ _ _ _ dX11_two_216 hp hS
      · have hp := hp.2 c_11
        refine lv_iload_n hx hb dX11_two_207 rfl (lv_at hl 2 rfl) ?_
        refine lv_if_eq (tgt := 215) hx hb dX11_two_208 (by decide) (fun c_12 => ?_) (fun c_12 => ?_)
        · have hp := hp.1 c_12
          refine lv_iconst hx hb dX11_two_215 kI_0 ?_
          exact hR _ _ _ _ _ _ dX11_two_216 hp hS
        · have hp := hp.2 c_12
          refine lv_iconst hx hb dX11_two_211 kI_1 ?_
          refine lv_goto (tgt := 216) hx hb dX11_two_212 (by decide) ?_
          exact hR _ _ _ _ _ _ dX11_two_216 hp hS
    · have hp := hp.2.2.2.2.2.1 c_13
      refine lv_tableIn (tgt := 128) hx hb dX11_two_1 c_11 c_12 (by rw [c_13]; rfl) (by decide) ?_
      refine lv_iload_n hx hb dX11_two_128 rfl (lv_at hl 1 rfl) ?_
      refine lv_iload_n hx hb dX11_two_129 rfl (lv_at hl 2 rfl) ?_
      refine lv_imul hx hb dX11_two_130 ?_
      exact hR _ _ _ _ _ _ dX11_two_131 hp hS
    · have hp := hp.2.2.2.2.2.2.1 c_13
      refine lv_tableIn (tgt := 120) hx hb dX11_two_1 c_11 c_12 (by rw [c_13]; rfl) (by decide) ?_
      refine lv_iload_n hx hb dX11_two_120 rfl (lv_at hl 1 rfl) ?_
      refine lv_iload_n hx hb dX11_two_121 rfl (lv_at hl 2 rfl) ?_
      refine lv_iadd hx hb dX11_two_122 ?_
      exact hR _ _ _ _ _ _ dX11_two_123 hp hS
    · have hp := hp.2.2.2.2.2.2.2.1 c_13
      refine lv_tableIn (tgt := 203) hx hb dX11_two_1 c_11 c_12 (by rw [c_13]; rfl) (by decide) ?_
      refine lv_iload_n hx hb dX11_two_203 rfl (lv_at hl 1 rfl) ?_
      refine lv_if_ne (tgt := 211) hx hb dX11_two_204 (by decide) (fun c_13 => ?_) (fun c_13 => ?_)
      · have hp := hp.1 c_13
        refine lv_iconst hx hb dX11_two_211 kI_1 ?_
        refine lv_goto (tgt := 216) hx hb dX11_two_212 (by decide) ?_
        exact hR _ _ _ _ _ _ dX11_two_216 hp hS
      · have hp := hp.2 c_13
        refine lv_iload_n hx hb dX11_two_207 rfl (lv_at hl 2 rfl) ?_
        refine lv_if_eq (tgt := 215) hx hb dX11_two_208 (by decide) (fun c_14 => ?_) (fun c_14 => ?_)
        · have hp := hp.1 c_14
          refine lv_iconst hx hb dX11_two_215 kI_0 ?_
          exact hR _ _ _ _ _ _ dX11_two_216 hp hS
        · have hp := hp.2 c_14
          refine lv_iconst hx hb dX11_two_211 kI_1 ?_
          refine lv_goto (tgt := 216) hx hb dX11_two_212 (by decide) ?_
          exact hR _ _ _ _ _ _ dX11_two_216 hp hS
    · have hp := hp.2.2.2.2.2.2.2.2.1 c_13
      refine lv_tableIn (tgt := 124) hx hb dX11_two_1 c_11 c_12 (by rw [c_13]; rfl) (by decide) ?_
      refine lv_iload_n hx hb dX11_two_124 rfl (lv_at hl 1 rfl) ?_
      refine lv_iload_n hx hb dX11_two_125 rfl (lv_at hl 2 rfl) ?_
      refine lv_isub hx hb dX11_two_126 ?_
      exact hR _ _ _ _ _ _ dX11_two_127 hp hS
    · have hp := hp.2.2.2.2.2.2.2.2.2.1 c_13
      refine lv_tableIn (tgt := 203) hx hb dX11_two_1 c_11 c_12 (by rw [c_13]; rfl) (by decide) ?_
      refine lv_iload_n hx hb dX11_two_203 rfl (lv_at hl 1 rfl) ?_
      refine lv_if_ne (tgt := 211) hx hb dX11_two_204 (by decide) (fun c_15 => ?_) (fun c_15 => ?_)
      · have hp := hp.1 c_15
        refine lv_iconst hx hb dX11_two_211 kI_1 ?_
        refine lv_goto (tgt := 216) hx hb dX11_two_212 (by decide) ?_
        exact hR _ _ _ _ _ _ dX11_two_216 hp hS
      · have hp := hp.2 c_15
        refine lv_iload_n hx hb dX11_two_207 rfl (lv_at hl 2 rfl) ?_
        refine lv_if_eq (tgt := 215) hx hb dX11_two_208 (by decide) (fun c_16 => ?_) (fun c_16 => ?_)
        · have hp := hp.1 c_16
          refine lv_iconst hx hb dX11_two_215 kI_0 ?_
          exact hR _ _ _ _ _ _ dX11_two_216 hp hS
        · have hp := hp.2 c_16
          refine lv_iconst hx hb dX11_two_211 kI_1 ?_
          refine lv_goto (tgt := 216) hx hb dX11_two_212 (by decide) ?_
          exact hR _ _ _ _ _ _ dX11_two_216 hp hS
    · have hp := hp.2.2.2.2.2.2.2.2.2.2.1 c_13
      refine lv_tableIn (tgt := 132) hx hb dX11_two_1 c_11 c_12 (by rw [c_13]; rfl) (by decide) ?_
      refine lv_iload_n hx hb dX11_two_132 rfl (lv_at hl 2 rfl) ?_
      refine lv_if_ne (tgt := 140) hx hb dX11_two_133 (by decide) (fun c_17 => ?_) (fun c_17 => ?_)
      · have hp := hp.1 c_17
        refine lv_iload_n hx hb dX11_two_140 rfl (lv_at hl 1 rfl) ?_
        refine lv_iload_n hx hb dX11_two_141 rfl (lv_at hl 2 rfl) ?_
        refine lv_idiv hx hb dX11_two_142 hp.1 ?_
        have hp := hp.2
        exact hR _ _ _ _ _ _ dX11_two_143 hp hS
      · have hp := hp.2 c_17
        refine lv_iconst hx hb dX11_two_136 kI_0 ?_
        refine lv_goto (tgt := 143) hx hb dX11_two_137 (by decide) ?_
        exact hR _ _ _ _ _ _ dX11_two_143 hp hS
    · have hp := hp.2.2.2.2.2.2.2.2.2.2.2.1 c_13
      refine lv_tableIn (tgt := 203) hx hb dX11_two_1 c_11 c_12 (by rw [c_13]; rfl) (by decide) ?_
      refine lv_iload_n hx hb dX11_two_203 rfl (lv_at hl 1 rfl) ?_
      refine lv_if_ne (tgt := 211) hx hb dX11_two_204 (by decide) (fun c_18 => ?_) (fun c_18 => ?_)
      · have hp := hp.1 c_18
        refine lv_iconst hx hb dX11_two_211 kI_1 ?_
        refine lv_goto (tgt := 216) hx hb dX11_two_212 (by decide) ?_
        exact hR _ _ _ _ _ _ dX11_two_216 hp hS
      · have hp := hp.2 c_18
        refine lv_iload_n hx hb dX11_two_207 rfl (lv_at hl 2 rfl) ?_
        refine lv_if_eq (tgt := 215) hx hb dX11_two_208 (by decide) (fun c_19 => ?_) (fun c_19 => ?_)
        · have hp := hp.1 c_19
          refine lv_iconst hx hb dX11_two_215 kI_0 ?_
          exact hR _ _ _ _ _ _ dX11_two_216 hp hS
        · have hp := hp.2 c_19
          refine lv_iconst hx hb dX11_two_211 kI_1 ?_
          refine lv_goto (tgt := 216) hx hb dX11_two_212 (by decide) ?_
          exact hR _ _ _ _ _ _ dX11_two_216 hp hS
    · have hp := hp.2.2.2.2.2.2.2.2.2.2.2.2.1 c_13
      refine lv_tableIn (tgt := 203) hx hb dX11_two_1 c_11 c_12 (by rw [c_13]; rfl) (by decide) ?_
      refine lv_iload_n hx hb dX11_two_203 rfl (lv_at hl 1 rfl) ?_
      refine lv_if_ne (tgt := 211) hx hb dX11_two_204 (by decide) (fun c_20 => ?_) (fun c_20 => ?_)
      · have hp := hp.1 c_20
        refine lv_iconst hx hb dX11_two_211 kI_1 ?_
        refine lv_goto (tgt := 216) hx hb dX11_two_212 (by decide) ?_
        exact hR _ _ _ _ _ _ dX11_two_216 hp hS
      · have hp := hp.2 c_20
        refine lv_iload_n hx hb dX11_two_207 rfl (lv_at hl 2 rfl) ?_
        refine lv_if_eq (tgt := 215) hx hb dX11_two_208 (by decide) (fun c_21 => ?_) (fun c_21 => ?_)
        · have hp := hp.1 c_21
          refine lv_iconst hx hb dX11_two_215 kI_0 ?_
          exact hR _ _ _ _ _ _ dX11_two_216 hp hS
        · have hp := hp.2 c_21
          refine lv_iconst hx hb dX11_two_211 kI_1 ?_
          refine lv_goto (tgt := 216) hx hb dX11_two_212 (by decide) ?_
          exact hR _ _ _ _ _ _ dX11_two_216 hp hS
    · have hp := hp.2.2.2.2.2.2.2.2.2.2.2.2.2.1 c_13
      refine lv_tableIn (tgt := 203) hx hb dX11_two_1 c_11 c_12 (by rw [c_13]; rfl) (by decide) ?_
      refine lv_iload_n hx hb dX11_two_203 rfl (lv_at hl 1 rfl) ?_
      refine lv_if_ne (tgt := 211) hx hb dX11_two_204 (by decide) (fun c_22 => ?_) (fun c_22 => ?_)
      · have hp := hp.1 c_22
        refine lv_iconst hx hb dX11_two_211 kI_1 ?_
        refine lv_goto (tgt := 216) hx hb dX11_two_212 (by decide) ?_
        exact hR _ _ _ _ _ _ dX11_two_216 hp hS
      · have hp := hp.2 c_22
        refine lv_iload_n hx hb dX11_two_207 rfl (lv_at hl 2 rfl) ?_
        refine lv_if_eq (tgt := 215) hx hb dX11_two_208 (by decide) (fun c_23 => ?_) (fun c_23 => ?_)
        · have hp := hp.1 c_23
          refine lv_iconst hx hb dX11_two_215 kI_0 ?_
          exact hR _ _ _ _ _ _ dX11_two_216 hp hS
        · have hp := hp.2 c_23
          refine lv_iconst hx hb dX11_two_211 kI_1 ?_
          refine lv_goto (tgt := 216) hx hb dX11_two_212 (by decide) ?_
          exact hR _ _ _ _ _ _ dX11_two_216 hp hS
    · have hp := hp.2.2.2.2.2.2.2.2.2.2.2.2.2.2.1 c_13
      refine lv_tableIn (tgt := 203) hx hb dX11_two_1 c_11 c_12 (by rw [c_13]; rfl) (by decide) ?_
      refine lv_iload_n hx hb dX11_two_203 rfl (lv_at hl 1 rfl) ?_
      refine lv_if_ne (tgt := 211) hx hb dX11_two_204 (by decide) (fun c_24 => ?_) (fun c_24 => ?_)
      · have hp := hp.1 c_24
        refine lv_iconst hx hb dX11_two_211 kI_1 ?_
        refine lv_goto (tgt := 216) hx hb dX11_two_212 (by decide) ?_
        exact hR _ _ _ _ _ _ dX11_two_216 hp hS
      · have hp := hp.2 c_24
        refine lv_iload_n hx hb dX11_two_207 rfl (lv_at hl 2 rfl) ?_
        refine lv_if_eq (tgt := 215) hx hb dX11_two_208 (by decide) (fun c_25 => ?_) (fun c_25 => ?_)
        · have hp := hp.1 c_25
          refine lv_iconst hx hb dX11_two_215 kI_0 ?_
          exact hR _ _ _ _ _ _ dX11_two_216 hp hS
        · have hp := hp.2 c_25
          refine lv_iconst hx hb dX11_two_211 kI_1 ?_
          refine lv_goto (tgt := 216) hx hb dX11_two_212 (by decide) ?_
          exact hR _ _ _ _ _ _ dX11_two_216 hp hS
    · have hp := hp.2.2.2.2.2.2.2.2.2.2.2.2.2.2.2.1 c_13
      refine lv_tableIn (tgt := 203) hx hb dX11_two_1 c_11 c_12 (by rw [c_13]; rfl) (by decide) ?_
      refine lv_iload_n hx hb dX11_two_203 rfl (lv_at hl 1 rfl) ?_
      refine lv_if_ne (tgt := 211) hx hb dX11_two_204 (by decide) (fun c_26 => ?_) (fun c_26 => ?_)
      · have hp := hp.1 c_26
        refine lv_iconst hx hb dX11_two_211 kI_1 ?_
        refine lv_goto (tgt := 216) hx hb dX11_two_212 (by decide) ?_
        exact hR _ _ _ _ _ _ dX11_two_216 hp hS
      · have hp := hp.2 c_26
        refine lv_iload_n hx hb dX11_two_207 rfl (lv_at hl 2 rfl) ?_
        refine lv_if_eq (tgt := 215) hx hb dX11_two_208 (by decide) (fun c_27 => ?_) (fun c_27 => ?_)
        · have hp := hp.1 c_27
          refine lv_iconst hx hb dX11_two_215 kI_0 ?_
          exact hR _ _ _ _ _ _ dX11_two_216 hp hS
        · have hp := hp.2 c_27
          refine lv_iconst hx hb dX11_two_211 kI_1 ?_
          refine lv_goto (tgt := 216) hx hb dX11_two_212 (by decide) ?_
          exact hR _ _ _ _ _ _ dX11_two_216 hp hS
    · have hp := hp.2.2.2.2.2.2.2.2.2.2.2.2.2.2.2.2.1 c_13
      refine lv_tableIn (tgt := 203) hx hb dX11_two_1 c_11 c_12 (by rw [c_13]; rfl) (by decide) ?_
      refine lv_iload_n hx hb dX11_two_203 rfl (lv_at hl 1 rfl) ?_
      refine lv_if_ne (tgt := 211) hx hb dX11_two_204 (by decide) (fun c_28 => ?_) (fun c_28 => ?_)
      · have hp := hp.1 c_28
        refine lv_iconst hx hb dX11_two_211 kI_1 ?_
        refine lv_goto (tgt := 216) hx hb dX11_two_212 (by decide) ?_
        exact hR _ _ _ _ _ _ dX11_two_216 hp hS
      · have hp := hp.2 c_28
        refine lv_iload_n hx hb dX11_two_207 rfl (lv_at hl 2 rfl) ?_
        refine lv_if_eq (tgt := 215) hx hb dX11_two_208 (by decide) (fun c_29 => ?_) (fun c_29 => ?_)
        · have hp := hp.1 c_29
          refine lv_iconst hx hb dX11_two_215 kI_0 ?_
          exact hR _ _ _ _ _ _ dX11_two_216 hp hS
        · have hp := hp.2 c_29
          refine lv_iconst hx hb dX11_two_211 kI_1 ?_
          refine lv_goto (tgt := 216) hx hb dX11_two_212 (by decide) ?_
          exact hR _ _ _ _ _ _ dX11_two_216 hp hS
    · have hp := hp.2.2.2.2.2.2.2.2.2.2.2.2.2.2.2.2.2.1 c_13
      refine lv_tableIn (tgt := 203) hx hb dX11_two_1 c_11 c_12 (by rw [c_13]; rfl) (by decide) ?_
      refine lv_iload_n hx hb dX11_two_203 rfl (lv_at hl 1 rfl) ?_
      refine lv_if_ne (tgt := 211) hx hb dX11_two_204 (by decide) (fun c_30 => ?_) (fun c_30 => ?_)
      · have hp := hp.1 c_30
        refine lv_iconst hx hb dX11_two_211 kI_1 ?_
        refine lv_goto (tgt := 216) hx hb dX11_two_212 (by decide) ?_
        exact hR _ _ _ _ _ _ dX11_two_216 hp hS
      · have hp := hp.2 c_30
        refine lv_iload_n hx hb dX11_two_207 rfl (lv_at hl 2 rfl) ?_
        refine lv_if_eq (tgt := 215) hx hb dX11_two_208 (by decide) (fun c_31 => ?_) (fun c_31 => ?_)
        · have hp := hp.1 c_31
          refine lv_iconst hx hb dX11_two_215 kI_0 ?_
          exact hR _ _ _ _ _ _ dX11_two_216 hp hS
        · have hp := hp.2 c_31
          refine lv_iconst hx hb dX11_two_211 kI_1 ?_
          refine lv_goto (tgt := 216) hx hb dX11_two_212 (by decide) ?_
          exact hR _ _ _ _ _ _ dX11_two_216 hp hS
    · have hp := hp.2.2.2.2.2.2.2.2.2.2.2.2.2.2.2.2.2.2.1 c_13
      refine lv_tableIn (tgt := 203) hx hb dX11_two_1 c_11 c_12 (by rw [c_13]; rfl) (by decide) ?_
      refine lv_iload_n hx hb dX11_two_203 rfl (lv_at hl 1 rfl) ?_
      refine lv_if_ne (tgt := 211) hx hb dX11_two_204 (by decide) (fun c_32 => ?_) (fun c_32 => ?_)
      · have hp := hp.1 c_32
        refine lv_iconst hx hb dX11_two_211 kI_1 ?_
        refine lv_goto (tgt := 216) hx hb dX11_two_212 (by decide) ?_
        exact hR _ _ _ _ _ _ dX11_two_216 hp hS
      · have hp := hp.2 c_32
        refine lv_iload_n hx hb dX11_two_207 rfl (lv_at hl 2 rfl) ?_
        refine lv_if_eq (tgt := 215) hx hb dX11_two_208 (by decide) (fun c_33 => ?_) (fun c_33 => ?_)
        · have hp := hp.1 c_33
          refine lv_iconst hx hb dX11_two_215 kI_0 ?_
          exact hR _ _ _ _ _ _ dX11_two_216 hp hS
        · have hp := hp.2 c_33
          refine lv_iconst hx hb dX11_two_211 kI_1 ?_
          refine lv_goto (tgt := 216) hx hb dX11_two_212 (by decide) ?_
          exact hR _ _ _ _ _ _ dX11_two_216 hp hS
    · have hp := hp.2.2.2.2.2.2.2.2.2.2.2.2.2.2.2.2.2.2.2.1 c_13
      refine lv_tableIn (tgt := 203) hx hb dX11_two_1 c_11 c_12 (by rw [c_13]; rfl) (by decide) ?_
      refine lv_iload_n hx hb dX11_two_203 rfl (lv_at hl 1 rfl) ?_
      refine lv_if_ne (tgt := 211) hx hb dX11_two_204 (by decide) (fun c_34 => ?_) (fun c_34 => ?_)
      · have hp := hp.1 c_34
        refine lv_iconst hx hb dX11_two_211 kI_1 ?_
        refine lv_goto (tgt := 216) hx hb dX11_two_212 (by decide) ?_
        exact hR _ _ _ _ _ _ dX11_two_216 hp hS
      · have hp := hp.2 c_34
        refine lv_iload_n hx hb dX11_two_207 rfl (lv_at hl 2 rfl) ?_
        refine lv_if_eq (tgt := 215) hx hb dX11_two_208 (by decide) (fun c_35 => ?_) (fun c_35 => ?_)
        · have hp := hp.1 c_35
          refine lv_iconst hx hb dX11_two_215 kI_0 ?_
          exact hR _ _ _ _ _ _ dX11_two_216 hp hS
        · have hp := hp.2 c_35
          refine lv_iconst hx hb dX11_two_211 kI_1 ?_
          refine lv_goto (tgt := 216) hx hb dX11_two_212 (by decide) ?_
          exact hR _ _ _ _ _ _ dX11_two_216 hp hS
    · have hp := hp.2.2.2.2.2.2.2.2.2.2.2.2.2.2.2.2.2.2.2.2.1 c_13
      refine lv_tableIn (tgt := 203) hx hb dX11_two_1 c_11 c_12 (by rw [c_13]; rfl) (by decide) ?_
      refine lv_iload_n hx hb dX11_two_203 rfl (lv_at hl 1 rfl) ?_
      refine lv_if_ne (tgt := 211) hx hb dX11_two_204 (by decide) (fun c_36 => ?_) (fun c_36 => ?_)
      · have hp := hp.1 c_36
        refine lv_iconst hx hb dX11_two_211 kI_1 ?_
        refine lv_goto (tgt := 216) hx hb dX11_two_212 (by decide) ?_
        exact hR _ _ _ _ _ _ dX11_two_216 hp hS
      · have hp := hp.2 c_36
        refine lv_iload_n hx hb dX11_two_207 rfl (lv_at hl 2 rfl) ?_
        refine lv_if_eq (tgt := 215) hx hb dX11_two_208 (by decide) (fun c_37 => ?_) (fun c_37 => ?_)
        · have hp := hp.1 c_37
          refine lv_iconst hx hb dX11_two_215 kI_0 ?_
          exact hR _ _ _ _ _ _ dX11_two_216 hp hS
        · have hp := hp.2 c_37
          refine lv_iconst hx hb dX11_two_211 kI_1 ?_
          refine lv_goto (tgt := 216) hx hb dX11_two_212 (by decide) ?_
          exact hR _ _ _ _ _ _ dX11_two_216 hp hS
    · have hp := hp.2.2.2.2.2.2.2.2.2.2.2.2.2.2.2.2.2.2.2.2.2.1 c_13
      refine lv_tableIn (tgt := 203) hx hb dX11_two_1 c_11 c_12 (by rw [c_13]; rfl) (by decide) ?_
      refine lv_iload_n hx hb dX11_two_203 rfl (lv_at hl 1 rfl) ?_
      refine lv_if_ne (tgt := 211) hx hb dX11_two_204 (by decide) (fun c_38 => ?_) (fun c_38 => ?_)
      · have hp := hp.1 c_38
        refine lv_iconst hx hb dX11_two_211 kI_1 ?_
        refine lv_goto (tgt := 216) hx hb dX11_two_212 (by decide) ?_
        exact hR _ _ _ _ _ _ dX11_two_216 hp hS
      · have hp := hp.2 c_38
        refine lv_iload_n hx hb dX11_two_207 rfl (lv_at hl 2 rfl) ?_
        refine lv_if_eq (tgt := 215) hx hb dX11_two_208 (by decide) (fun c_39 => ?_) (fun c_39 => ?_)
        · have hp := hp.1 c_39
          refine lv_iconst hx hb dX11_two_215 kI_0 ?_
          exact hR _ _ _ _ _ _ dX11_two_216 hp hS
        · have hp := hp.2 c_39
          refine lv_iconst hx hb dX11_two_211 kI_1 ?_
          refine lv_goto (tgt := 216) hx hb dX11_two_212 (by decide) ?_
          exact hR _ _ _ _ _ _ dX11_two_216 hp hS
    · have hp := hp.2.2.2.2.2.2.2.2.2.2.2.2.2.2.2.2.2.2.2.2.2.2.1 c_13
      refine lv_tableIn (tgt := 203) hx hb dX11_two_1 c_11 c_12 (by rw [c_13]; rfl) (by decide) ?_
      refine lv_iload_n hx hb dX11_two_203 rfl (lv_at hl 1 rfl) ?_
      refine lv_if_ne (tgt := 211) hx hb dX11_two_204 (by decide) (fun c_40 => ?_) (fun c_40 => ?_)
      · have hp := hp.1 c_40
        refine lv_iconst hx hb dX11_two_211 kI_1 ?_
        refine lv_goto (tgt := 216) hx hb dX11_two_212 (by decide) ?_
        exact hR _ _ _ _ _ _ dX11_two_216 hp hS
      · have hp := hp.2 c_40
        refine lv_iload_n hx hb dX11_two_207 rfl (lv_at hl 2 rfl) ?_
        refine lv_if_eq (tgt := 215) hx hb dX11_two_208 (by decide) (fun c_41 => ?_) (fun c_41 => ?_)
        · have hp := hp.1 c_41
          refine lv_iconst hx hb dX11_two_215 kI_0 ?_
          exact hR _ _ _ _ _ _ dX11_two_216 hp hS
        · have hp := hp.2 c_41
          refine lv_iconst hx hb dX11_two_211 kI_1 ?_
          refine lv_goto (tgt := 216) hx hb dX11_two_212 (by decide) ?_
          exact hR _ _ _ _ _ _ dX11_two_216 hp hS
    · have hp := hp.2.2.2.2.2.2.2.2.2.2.2.2.2.2.2.2.2.2.2.2.2.2.2.1 c_13
      refine lv_tableIn (tgt := 156) hx hb dX11_two_1 c_11 c_12 (by rw [c_13]; rfl) (by decide) ?_
      refine lv_iload_n hx hb dX11_two_156 rfl (lv_at hl 1 rfl) ?_
      refine lv_iload_n hx hb dX11_two_157 rfl (lv_at hl 2 rfl) ?_
      refine lv_icmp_ge (tgt := 165) hx hb dX11_two_158 (by decide) (fun c_42 => ?_) (fun c_42 => ?_)
      · have hp := hp.1 c_42
        refine lv_iconst hx hb dX11_two_165 kI_0 ?_
        exact hR _ _ _ _ _ _ dX11_two_166 hp hS
      · have hp := hp.2 c_42
        refine lv_iconst hx hb dX11_two_161 kI_1 ?_
        refine lv_goto (tgt := 166) hx hb dX11_two_162 (by decide) ?_
        exact hR _ _ _ _ _ _ dX11_two_166 hp hS
    · have hp := hp.2.2.2.2.2.2.2.2.2.2.2.2.2.2.2.2.2.2.2.2.2.2.2.2.1 c_13
      refine lv_tableIn (tgt := 178) hx hb dX11_two_1 c_11 c_12 (by rw [c_13]; rfl) (by decide) ?_
      refine lv_iload_n hx hb dX11_two_178 rfl (lv_at hl 1 rfl) ?_
      refine lv_iload_n hx hb dX11_two_179 rfl (lv_at hl 2 rfl) ?_
      refine lv_icmp_ne (tgt := 187) hx hb dX11_two_180 (by decide) (fun c_43 => ?_) (fun c_43 => ?_)
      · have hp := hp.1 c_43
        refine lv_iconst hx hb dX11_two_187 kI_0 ?_
        exact hR _ _ _ _ _ _ dX11_two_188 hp hS
      · have hp := hp.2 c_43
        refine lv_iconst hx hb dX11_two_183 kI_1 ?_
        refine lv_goto (tgt := 188) hx hb dX11_two_184 (by decide) ?_
        exact hR _ _ _ _ _ _ dX11_two_188 hp hS
    · have hp := hp.2.2.2.2.2.2.2.2.2.2.2.2.2.2.2.2.2.2.2.2.2.2.2.2.2 c_13
      refine lv_tableIn (tgt := 167) hx hb dX11_two_1 c_11 c_12 (by rw [c_13]; rfl) (by decide) ?_
      refine lv_iload_n hx hb dX11_two_167 rfl (lv_at hl 1 rfl) ?_
      refine lv_iload_n hx hb dX11_two_168 rfl (lv_at hl 2 rfl) ?_
      refine lv_icmp_le (tgt := 176) hx hb dX11_two_169 (by decide) (fun c_44 => ?_) (fun c_44 => ?_)
      · have hp := hp.1 c_44
        refine lv_iconst hx hb dX11_two_176 kI_0 ?_
        exact hR _ _ _ _ _ _ dX11_two_177 hp hS
      · have hp := hp.2 c_44
        refine lv_iconst hx hb dX11_two_172 kI_1 ?_
        refine lv_goto (tgt := 177) hx hb dX11_two_173 (by decide) ?_
        exact hR _ _ _ _ _ _ dX11_two_177 hp hS
def pX11_comes_139 (k17 : Int32 → Int32 → Int32 → Wd → Prop) (post : Int32 → Wd → Prop) (x1 : Int32) (x2 : Int32) (x3 : Int32) (w : Wd) : Prop := ∀ x3_1, x3_1 = x3 + (1 : Int32) → k17 x1 x2 x3_1 w
def pX11_comes_73 (k17 : Int32 → Int32 → Int32 → Wd → Prop) (post : Int32 → Wd → Prop) (x1 : Int32) (x2 : Int32) (x3 : Int32) (t1 : Int32) (t2 : Int32) (w : Wd) : Prop := vp_in t1 60 ∧ ∀ w_1, w_1 = sA w 329 t1.toNatClampNeg t2 → pX11_comes_139 k17 post x1 x2 x3 w_1
def pX11_comes_17 (post : Int32 → Wd → Prop) : Nat → Int32 → Int32 → Int32 → Wd → Prop
  | 0, _, _, _, _ => False
  | n + 1, x1, x2, x3, w => vp_in (((8 : Int32) * (w.1 300 29)) + x1) 16 ∧ ((w.2.1 320 (((8 : Int32) * (w.1 300 29)) + x1).toNatClampNeg) ≤ x3 → (post (w.2.1 329 (0 : Int32).toNatClampNeg) w)) ∧ (¬ (w.2.1 320 (((8 : Int32) * (w.1 300 29)) + x1).toNatClampNeg) ≤ x3 → (vp_in x3 1120 ∧ ∀ x4_2, x4_2 = (w.2.1 325 x3.toNatClampNeg) → (¬ x4_2 = (126 : Int32) → (pX11_isLetter (fun r_4 w_5 => (r_4 = 0 → (∀ x2_7, x2_7 = x2 + (-1 : Int32) → vp_in (x2_7 - (1 : Int32)) 60 ∧ vp_in x2_7 60 ∧ pX11_two (fun r_8 w_9 => vp_in (x2_7 - (1 : Int32)) 60 ∧ ∀ w_10, w_10 = sA w_9 329 (x2_7 - (1 : Int32)).toNatClampNeg r_8 → pX11_comes_139 (pX11_comes_17 post n) post x1 x2_7 x3 w_10) x4_2 (w_5.2.1 329 (x2_7 - (1 : Int32)).toNatClampNeg) (w_5.2.1 329 x2_7.toNatClampNeg) w_5)) ∧ (¬ r_4 = 0 → (vp_in x3 1120 ∧ pX11_asked (fun r_11 w_12 => vp_in x2 60 ∧ ∀ w_13, w_13 = sA w_12 329 x2.toNatClampNeg r_11 → ∀ x2_14, x2_14 = x2 + (1 : Int32) → pX11_comes_139 (pX11_comes_17 post n) post x1 x2_14 x3 w_13) x4_2 (w_5.2.1 326 x3.toNatClampNeg) w_5))) x4_2 w)) ∧ (x4_2 = (126 : Int32) → (vp_in (x2 - (1 : Int32)) 60 ∧ (¬ (w.2.1 329 (x2 - (1 : Int32)).toNatClampNeg) = 0 → (pX11_comes_73 (pX11_comes_17 post n) post x1 x2 x3 (x2 - (1 : Int32)) (0 : Int32) w)) ∧ ((w.2.1 329 (x2 - (1 : Int32)).toNatClampNeg) = 0 → (pX11_comes_73 (pX11_comes_17 post n) post x1 x2 x3 (x2 - (1 : Int32)) (1 : Int32) w))))))
def pX11_comes (post : Int32 → Wd → Prop) (x1 : Int32) (w : Wd) : Prop := vp_in (((8 : Int32) * (w.1 300 29)) + x1) 16 ∧ ∀ x3_1, x3_1 = (w.2.1 319 (((8 : Int32) * (w.1 300 29)) + x1).toNatClampNeg) → ∃ n9, pX11_comes_17 post n9 x1 (0 : Int32) x3_1 w
set_option maxHeartbeats 4000000 in
set_option maxRecDepth 100000 in
theorem bX11_comes_139 {p : Program} {l : Launch} {e : Env} {s : State} {m : MethodId} {args : Array Value} {below : List Frame} {meth : Method} {c : Code} {Q : State → Prop} {A : Nat → Prop} {g : Gw} {post : Int32 → Wd → Prop}  (hC : Cx p s m args c cX11_comes RX11 5 g) (hR : RtI tabM p l e (rk 2) s m args below meth c Q cX11_comes A g post)  {k17 : Int32 → Int32 → Int32 → Wd → Prop} (hk17 : ∀ (x1 : Int32) (x2 : Int32) (x3 : Int32) (w : Wd) (H : Heap) (locs : List Loc) (ls : Array Slot), k17 x1 x2 x3 w → St tabM A s.heap g w H locs → lv_has ls 5 [(0, .ref (g.2.2 300)), (1, .int x1), (2, .int x2), (3, .int x3)] → W p l e (rk 2) s m args below meth c H locs 0 0 Q (F0 m 17 ls [])) : ∀ (x1 : Int32) (x2 : Int32) (x3 : Int32) (w : Wd) (H : Heap) (locs : List Loc) (ls : Array Slot), pX11_comes_139 k17 post x1 x2 x3 w → St tabM A s.heap g w H locs → lv_has ls 5 [(0, .ref (g.2.2 300)), (1, .int x1), (2, .int x2), (3, .int x3)] → W p l e (rk 2) s m args below meth c H locs 0 0 Q (F0 m 139 ls []) := by
  have hx := hC.1
  have hb := hC.2.1
  intro x1 x2 x3 w H locs ls hp hS hl
  unfold pX11_comes_139 at hp
  obtain ⟨x3_1, ex3_1⟩ : ∃ y : Int32, y = x3 + (1 : Int32) := ⟨_, rfl⟩
  have hp := hp x3_1 ex3_1
  refine lv_iinc (v := x3_1) (lv' := [(3, .int x3_1), (0, .ref (g.2.2 300)), (1, .int x1), (2, .int x2)]) hx hb dX11_comes_139 hl (k := 3) rfl (by rw [ex3_1]; rfl) (by decide) rfl (fun ls hl => ?_)
  refine lv_goto (tgt := 17) hx hb dX11_comes_142 (by decide) ?_
  exact hk17 x1 x2 x3_1 w _ _ _ hp hS (lv_sub hl [1, 2, 3, 0] rfl)
set_option maxHeartbeats 4000000 in
set_option maxRecDepth 100000 in
theorem bX11_comes_73 {p : Program} {l : Launch} {e : Env} {s : State} {m : MethodId} {args : Array Value} {below : List Frame} {meth : Method} {c : Code} {Q : State → Prop} {A : Nat → Prop} {g : Gw} {post : Int32 → Wd → Prop}  (hC : Cx p s m args c cX11_comes RX11 5 g) (hR : RtI tabM p l e (rk 2) s m args below meth c Q cX11_comes A g post)  {k17 : Int32 → Int32 → Int32 → Wd → Prop} (hk17 : ∀ (x1 : Int32) (x2 : Int32) (x3 : Int32) (w : Wd) (H : Heap) (locs : List Loc) (ls : Array Slot), k17 x1 x2 x3 w → St tabM A s.heap g w H locs → lv_has ls 5 [(0, .ref (g.2.2 300)), (1, .int x1), (2, .int x2), (3, .int x3)] → W p l e (rk 2) s m args below meth c H locs 0 0 Q (F0 m 17 ls [])) : ∀ (x1 : Int32) (x2 : Int32) (x3 : Int32) (t1 : Int32) (t2 : Int32) (w : Wd) (H : Heap) (locs : List Loc) (ls : Array Slot), pX11_comes_73 k17 post x1 x2 x3 t1 t2 w → St tabM A s.heap g w H locs → lv_has ls 5 [(0, .ref (g.2.2 300)), (1, .int x1), (2, .int x2), (3, .int x3)] → W p l e (rk 2) s m args below meth c H locs 0 0 Q (F0 m 73 ls [.int t2, .int t1, .ref (g.2.2 329)]) := by
  have hx := hC.1
  have hb := hC.2.1
  intro x1 x2 x3 t1 t2 w H locs ls hp hS hl
  unfold pX11_comes_73 at hp
  refine Sa_329 hC hS hp.1 dX11_comes_73 (fun w_1 H locs ew_1 hS => ?_)
  have hp := hp.2
  have hp := hp w_1 ew_1
  refine lv_goto (tgt := 139) hx hb dX11_comes_74 (by decide) ?_
  exact bX11_comes_139 hC hR hk17 x1 x2 x3 w_1 _ _ _ hp hS (lv_sub hl [0, 1, 2, 3] rfl)
set_option maxHeartbeats 4000000 in
set_option maxRecDepth 100000 in
theorem bX11_comes_17 {p : Program} {l : Launch} {e : Env} {s : State} {m : MethodId} {args : Array Value} {below : List Frame} {meth : Method} {c : Code} {Q : State → Prop} {A : Nat → Prop} {g : Gw} {post : Int32 → Wd → Prop}  (hC : Cx p s m args c cX11_comes RX11 5 g) (hR : RtI tabM p l e (rk 2) s m args below meth c Q cX11_comes A g post)  : ∀ (n : Nat) (x1 : Int32) (x2 : Int32) (x3 : Int32) (w : Wd) (H : Heap) (locs : List Loc) (ls : Array Slot), pX11_comes_17 post n x1 x2 x3 w → St tabM A s.heap g w H locs → lv_has ls 5 [(0, .ref (g.2.2 300)), (1, .int x1), (2, .int x2), (3, .int x3)] → W p l e (rk 2) s m args below meth c H locs 0 0 Q (F0 m 17 ls []) := by
  have hx := hC.1
  have hb := hC.2.1
  intro n
  induction n with
  | zero =>
    intro x1 x2 x3 w H locs ls hp hS hl
    exact False.elim hp
  | succ n ih =>
    intro x1 x2 x3 w H locs ls hp hS hl
    unfold pX11_comes_17 at hp
    refine lv_iload_n hx hb dX11_comes_17 rfl (lv_at hl 3 rfl) ?_
    refine lv_aload_n hx hb dX11_comes_18 rfl (lv_at hl 0 rfl) ?_
    refine G_300_19 hC hS m264 dX11_comes_19 ?_
    refine lv_bipush hx hb dX11_comes_22 kB_8 ?_
    refine lv_aload_n hx hb dX11_comes_24 rfl (lv_at hl 0 rfl) ?_
    refine G_300_29 hC hS m308 dX11_comes_25 ?_
    refine lv_imul hx hb dX11_comes_28 ?_
    refine lv_iload_n hx hb dX11_comes_29 rfl (lv_at hl 1 rfl) ?_
    refine lv_iadd hx hb dX11_comes_30 ?_
    refine La_320 hC hS hp.1 dX11_comes_31 ?_
    have hp := hp.2
    refine lv_icmp_ge (tgt := 145) hx hb dX11_comes_32 (by decide) (fun c_1 => ?_) (fun c_1 => ?_)
    · have hp := hp.1 c_1
      refine lv_aload_n hx hb dX11_comes_145 rfl (lv_at hl 0 rfl) ?_
      refine G_300_28 hC hS m273 dX11_comes_146 ?_
      refine lv_iconst hx hb dX11_comes_149 kI_0 ?_
      refine La_329 hC hS (by unfold vp_in; decide) dX11_comes_150 ?_
      exact hR _ _ _ _ _ _ dX11_comes_151 hp hS
    · have hp := hp.2 c_1
      refine lv_aload_n hx hb dX11_comes_35 rfl (lv_at hl 0 rfl) ?_
      refine G_300_24 hC hS m269 dX11_comes_36 ?_
      refine lv_iload_n hx hb dX11_comes_39 rfl (lv_at hl 3 rfl) ?_
      refine La_325 hC hS hp.1 dX11_comes_40 ?_
      have hp := hp.2
      refine lv_topi (fun x4_2 ex4_2 => ?_)
      have hp := hp x4_2 ex4_2
      refine lv_istore (lv' := [(4, .int x4_2), (0, .ref (g.2.2 300)), (1, .int x1), (2, .int x2), (3, .int x3)]) hx hb dX11_comes_41 hl (by decide) rfl (fun ls hl => ?_)
      refine lv_iload hx hb dX11_comes_43 (lv_at hl 0 rfl) ?_
      refine lv_bipush hx hb dX11_comes_45 kB_126 ?_
      refine lv_icmp_ne (tgt := 77) hx hb dX11_comes_47 (by decide) (fun c_3 => ?_) (fun c_3 => ?_)
      · have hp := hp.1 c_3
        refine lv_iload hx hb dX11_comes_77 (lv_at hl 0 rfl) ?_
        refine q_csI (As := [.int x4_2]) (rest := []) hC hS hl.1 (rX11_isLetter hp) cwX11_206 ysX11_isLetter rfl rfl (Nat.le_of_ble_eq_true rfl) (rmk (by decide) (by decide)) dX11_comes_79 (fun r_4 w_5 H locs hp hS => ?_)
        refine lv_if_eq (tgt := 109) hx hb dX11_comes_82 (by decide) (fun c_6 => ?_) (fun c_6 => ?_)
        · have hp := hp.1 c_6
          obtain ⟨x2_7, ex2_7⟩ : ∃ y : Int32, y = x2 + (-1 : Int32) := ⟨_, rfl⟩
          have hp := hp x2_7 ex2_7
          refine lv_iinc (v := x2_7) (lv' := [(2, .int x2_7), (4, .int x4_2), (0, .ref (g.2.2 300)), (1, .int x1), (3, .int x3)]) hx hb dX11_comes_109 hl (k := 3) rfl (by rw [ex2_7]; rfl) (by decide) rfl (fun ls hl => ?_)
          refine lv_aload_n hx hb dX11_comes_112 rfl (lv_at hl 2 rfl) ?_
          refine G_300_28 hC hS m273 dX11_comes_113 ?_
          refine lv_iload_n hx hb dX11_comes_116 rfl (lv_at hl 0 rfl) ?_
          refine lv_iconst hx hb dX11_comes_117 kI_1 ?_
          refine lv_isub hx hb dX11_comes_118 ?_
          refine lv_iload hx hb dX11_comes_119 (lv_at hl 1 rfl) ?_
          refine lv_aload_n hx hb dX11_comes_121 rfl (lv_at hl 2 rfl) ?_
          refine G_300_28 hC hS m273 dX11_comes_122 ?_
          refine lv_iload_n hx hb dX11_comes_125 rfl (lv_at hl 0 rfl) ?_
          refine lv_iconst hx hb dX11_comes_126 kI_1 ?_
          refine lv_isub hx hb dX11_comes_127 ?_
          refine La_329 hC hS hp.1 dX11_comes_128 ?_
          have hp := hp.2
          refine lv_aload_n hx hb dX11_comes_129 rfl (lv_at hl 2 rfl) ?_
          refine G_300_28 hC hS m273 dX11_comes_130 ?_
          refine lv_iload_n hx hb dX11_comes_133 rfl (lv_at hl 0 rfl) ?_
          refine La_329 hC hS hp.1 dX11_comes_134 ?_
          have hp := hp.2
          refine q_csI (As := [.int x4_2, .int (w_5.2.1 329 (x2_7 - (1 : Int32)).toNatClampNeg), .int (w_5.2.1 329 x2_7.toNatClampNeg)]) (rest := [.int (x2_7 - (1 : Int32)), .ref (g.2.2 329)]) hC hS hl.1 (rX11_two hp) cwX11_338 ysX11_two rfl rfl (Nat.le_of_ble_eq_true rfl) (rmk (by decide) (by decide)) dX11_comes_135 (fun r_8 w_9 H locs hp hS => ?_)
          refine Sa_329 hC hS hp.1 dX11_comes_138 (fun w_10 H locs ew_10 hS => ?_)
          have hp := hp.2
          have hp := hp w_10 ew_10
          exact bX11_comes_139 hC hR ih x1 x2_7 x3 w_10 _ _ _ hp hS (lv_sub hl [2, 3, 0, 4] rfl)
        · have hp := hp.2 c_6
          refine lv_aload_n hx hb dX11_comes_85 rfl (lv_at hl 1 rfl) ?_
          refine G_300_28 hC hS m273 dX11_comes_86 ?_
          refine lv_iload_n hx hb dX11_comes_89 rfl (lv_at hl 3 rfl) ?_
          refine lv_aload_n hx hb dX11_comes_90 rfl (lv_at hl 1 rfl) ?_
          refine lv_iload hx hb dX11_comes_91 (lv_at hl 0 rfl) ?_
          refine lv_aload_n hx hb dX11_comes_93 rfl (lv_at hl 1 rfl) ?_
          refine G_300_25 hC hS m270 dX11_comes_94 ?_
          refine lv_iload_n hx hb dX11_comes_97 rfl (lv_at hl 4 rfl) ?_
          refine La_326 hC hS hp.1 dX11_comes_98 ?_
          have hp := hp.2
          refine q_cvI (As := [.int x4_2, .int (w_5.2.1 326 x3.toNatClampNeg)]) (rest := [.int x2, .ref (g.2.2 329)]) hC hS hl.1 (rX11_asked hp) cwX11_335 yvX11_asked (rcv_300 hC hS) rfl rfl (Nat.le_of_ble_eq_true rfl) (rmk (by decide) (by decide)) dX11_comes_99 (fun r_11 w_12 H locs hp hS => ?_)
          refine Sa_329 hC hS hp.1 dX11_comes_102 (fun w_13 H locs ew_13 hS => ?_)
          have hp := hp.2
          have hp := hp w_13 ew_13
          obtain ⟨x2_14, ex2_14⟩ : ∃ y : Int32, y = x2 + (1 : Int32) := ⟨_, rfl⟩
          have hp := hp x2_14 ex2_14
          refine lv_iinc (v := x2_14) (lv' := [(2, .int x2_14), (4, .int x4_2), (0, .ref (g.2.2 300)), (1, .int x1), (3, .int x3)]) hx hb dX11_comes_103 hl (k := 3) rfl (by rw [ex2_14]; rfl) (by decide) rfl (fun ls hl => ?_)
          refine lv_goto (tgt := 139) hx hb dX11_comes_106 (by decide) ?_
          exact bX11_comes_139 hC hR ih x1 x2_14 x3 w_13 _ _ _ hp hS (lv_sub hl [2, 3, 0, 4] rfl)
      · have hp := hp.2 c_3
        refine lv_aload_n hx hb dX11_comes_50 rfl (lv_at hl 1 rfl) ?_
        refine G_300_28 hC hS m273 dX11_comes_51 ?_
        refine lv_iload_n hx hb dX11_comes_54 rfl (lv_at hl 3 rfl) ?_
        refine lv_iconst hx hb dX11_comes_55 kI_1 ?_
        refine lv_isub hx hb dX11_comes_56 ?_
        refine lv_aload_n hx hb dX11_comes_57 rfl (lv_at hl 1 rfl) ?_
        refine G_300_28 hC hS m273 dX11_comes_58 ?_
        refine lv_iload_n hx hb dX11_comes_61 rfl (lv_at hl 3 rfl) ?_
        refine lv_iconst hx hb dX11_comes_62 kI_1 ?_
        refine lv_isub hx hb dX11_comes_63 ?_
        refine La_329 hC hS hp.1 dX11_comes_64 ?_
        have hp := hp.2
        refine lv_if_ne (tgt := 72) hx hb dX11_comes_65 (by decide) (fun c_15 => ?_) (fun c_15 => ?_)
        · have hp := hp.1 c_15
          refine lv_iconst hx hb dX11_comes_72 kI_0 ?_
          exact bX11_comes_73 hC hR ih x1 x2 x3 (x2 - (1 : Int32)) (0 : Int32) w _ _ _ hp hS (lv_sub hl [1, 2, 3, 4] rfl)
        · have hp := hp.2 c_15
          refine lv_iconst hx hb dX11_comes_68 kI_1 ?_
          refine lv_goto (tgt := 73) hx hb dX11_comes_69 (by decide) ?_
          exact bX11_comes_73 hC hR ih x1 x2 x3 (x2 - (1 : Int32)) (1 : Int32) w _ _ _ hp hS (lv_sub hl [1, 2, 3, 4] rfl)
set_option maxHeartbeats 4000000 in
set_option maxRecDepth 100000 in
theorem rX11_comes {l : Launch} {g : Gw} {w : Wd} {post : Int32 → Wd → Prop}   {x1 : Int32} (hp : pX11_comes post x1 w) : MtI tabM l yX11_comes cX11_comes 5 (some .int) 2 g w [.ref (g.2.2 300), .int x1] post := by
  refine q_entI tabM_nd (by decide) rfl (Nat.le_of_ble_eq_true rfl) ?_
  intro p e s m args below meth c A Q ls hC hR hS hl
  have hx := hC.1
  have hb := hC.2.1
  have hl : lv_has ls 5 [(0, .ref (g.2.2 300)), (1, .int x1)] := hl
  unfold pX11_comes at hp
  refine lv_iconst hx hb dX11_comes_0 kI_0 ?_
  refine lv_istore_n (lv' := [(2, .int (0 : Int32)), (0, .ref (g.2.2 300)), (1, .int x1)]) hx hb dX11_comes_1 rfl hl (by decide) rfl (fun ls hl => ?_)
  refine lv_aload_n hx hb dX11_comes_2 rfl (lv_at hl 1 rfl) ?_
  refine G_300_18 hC hS m263 dX11_comes_3 ?_
  refine lv_bipush hx hb dX11_comes_6 kB_8 ?_
  refine lv_aload_n hx hb dX11_comes_8 rfl (lv_at hl 1 rfl) ?_
  refine G_300_29 hC hS m308 dX11_comes_9 ?_
  refine lv_imul hx hb dX11_comes_12 ?_
  refine lv_iload_n hx hb dX11_comes_13 rfl (lv_at hl 2 rfl) ?_
  refine lv_iadd hx hb dX11_comes_14 ?_
  refine La_319 hC hS hp.1 dX11_comes_15 ?_
  have hp := hp.2
  refine lv_topi (fun x3_1 ex3_1 => ?_)
  have hp := hp x3_1 ex3_1
  refine lv_istore_n (lv' := [(3, .int x3_1), (2, .int (0 : Int32)), (0, .ref (g.2.2 300)), (1, .int x1)]) hx hb dX11_comes_16 rfl hl (by decide) rfl (fun ls hl => ?_)
  obtain ⟨n9, hp⟩ := hp
  exact bX11_comes_17 hC hR n9 x1 (0 : Int32) x3_1 w _ _ _ hp hS (lv_sub hl [2, 3, 1, 0] rfl)
def pX11_castOf_128 (k37 : Int32 → Int32 → Int32 → Wd → Prop) (post : Int32 → Wd → Prop) (x2 : Int32) (x5 : Int32) (x6 : Int32) (w : Wd) : Prop := ∀ x6_1, x6_1 = x6 + (1 : Int32) → k37 x2 x5 x6_1 w
def pX11_castOf_112 (k37 : Int32 → Int32 → Int32 → Wd → Prop) (post : Int32 → Wd → Prop) (x2 : Int32) (x5 : Int32) (x6 : Int32) (t0 : Int32) (w : Wd) : Prop := (t0 = 0 → (pX11_castOf_128 k37 post x2 x5 x6 w)) ∧ (¬ t0 = 0 → (∀ x5_2, x5_2 = (x5 ||| ((1 : Int32) <<< (x6 &&& 31))) → pX11_castOf_128 k37 post x2 x5_2 x6 w))
def pX11_castOf_70 (k37 : Int32 → Int32 → Int32 → Wd → Prop) (post : Int32 → Wd → Prop) (x2 : Int32) (x5 : Int32) (x6 : Int32) (t0 : Int32) (w : Wd) : Prop := (t0 = 0 → (pX11_comes (fun r_2 w_3 => (r_2 = 0 → (pX11_castOf_112 k37 post x2 x5 x6 (0 : Int32) w_3)) ∧ (¬ r_2 = 0 → (pX11_castOf_112 k37 post x2 x5 x6 (1 : Int32) w_3))) (((2 : Int32) * x2) + (1 : Int32)) w)) ∧ (¬ t0 = 0 → (pX11_comes (fun r_5 w_6 => (¬ r_5 = 0 → (pX11_castOf_112 k37 post x2 x5 x6 (0 : Int32) w_6)) ∧ (r_5 = 0 → (pX11_castOf_112 k37 post x2 x5 x6 (1 : Int32) w_6))) ((2 : Int32) * x2) w))
def pX11_castOf_37 (post : Int32 → Wd → Prop) : Nat → Int32 → Int32 → Int32 → Wd → Prop
  | 0, _, _, _, _ => False
  | n + 1, x2, x5, x6, w => pX11_width (fun r_1 w_2 => (r_1 ≤ x6 → (post x5 w_2)) ∧ (¬ r_1 ≤ x6 → (∀ w_4, w_4 = sI w_2 300 36 x6 → (¬ (((w_4.1 300 35) >>> (x6 &&& 31)) &&& (1 : Int32)) = (1 : Int32) → (pX11_castOf_70 (pX11_castOf_37 post n) post x2 x5 x6 (0 : Int32) w_4)) ∧ ((((w_4.1 300 35) >>> (x6 &&& 31)) &&& (1 : Int32)) = (1 : Int32) → (pX11_castOf_70 (pX11_castOf_37 post n) post x2 x5 x6 (1 : Int32) w_4))))) w
def pX11_castOf (post : Int32 → Wd → Prop) (x1 : Int32) (x2 : Int32) (x3 : Int32) (x4 : Int32) (w : Wd) : Prop := pX11_turnedRow (fun r_1 w_2 => ∀ w_3, w_3 = sI w_2 300 35 r_1 → pX11_bitsOf (fun r_4 w_5 => ∀ w_6, w_6 = sI w_5 300 37 r_4 → ∀ w_7, w_7 = sI w_6 300 38 x3 → ∀ w_8, w_8 = sI w_7 300 39 x4 → ∃ n9, pX11_castOf_37 post n9 x2 (0 : Int32) (0 : Int32) w_8) (w_3.1 300 35) w_3) x1 w
set_option maxHeartbeats 4000000 in
set_option maxRecDepth 100000 in
theorem bX11_castOf_128 {p : Program} {l : Launch} {e : Env} {s : State} {m : MethodId} {args : Array Value} {below : List Frame} {meth : Method} {c : Code} {Q : State → Prop} {A : Nat → Prop} {g : Gw} {post : Int32 → Wd → Prop}  (hC : Cx p s m args c cX11_castOf RX11 9 g) (hR : RtI tabM p l e (rk 3) s m args below meth c Q cX11_castOf A g post)  {k37 : Int32 → Int32 → Int32 → Wd → Prop} (hk37 : ∀ (x2 : Int32) (x5 : Int32) (x6 : Int32) (w : Wd) (H : Heap) (locs : List Loc) (ls : Array Slot), k37 x2 x5 x6 w → St tabM A s.heap g w H locs → lv_has ls 9 [(0, .ref (g.2.2 300)), (2, .int x2), (5, .int x5), (6, .int x6)] → W p l e (rk 3) s m args below meth c H locs 0 0 Q (F0 m 37 ls [])) : ∀ (x2 : Int32) (x5 : Int32) (x6 : Int32) (w : Wd) (H : Heap) (locs : List Loc) (ls : Array Slot), pX11_castOf_128 k37 post x2 x5 x6 w → St tabM A s.heap g w H locs → lv_has ls 9 [(0, .ref (g.2.2 300)), (2, .int x2), (5, .int x5), (6, .int x6)] → W p l e (rk 3) s m args below meth c H locs 0 0 Q (F0 m 128 ls []) := by
  have hx := hC.1
  have hb := hC.2.1
  intro x2 x5 x6 w H locs ls hp hS hl
  unfold pX11_castOf_128 at hp
  obtain ⟨x6_1, ex6_1⟩ : ∃ y : Int32, y = x6 + (1 : Int32) := ⟨_, rfl⟩
  have hp := hp x6_1 ex6_1
  refine lv_iinc (v := x6_1) (lv' := [(6, .int x6_1), (0, .ref (g.2.2 300)), (2, .int x2), (5, .int x5)]) hx hb dX11_castOf_128 hl (k := 3) rfl (by rw [ex6_1]; rfl) (by decide) rfl (fun ls hl => ?_)
  refine lv_goto (tgt := 37) hx hb dX11_castOf_131 (by decide) ?_
  exact hk37 x2 x5 x6_1 w _ _ _ hp hS (lv_sub hl [1, 2, 3, 0] rfl)
set_option maxHeartbeats 4000000 in
set_option maxRecDepth 100000 in
theorem bX11_castOf_112 {p : Program} {l : Launch} {e : Env} {s : State} {m : MethodId} {args : Array Value} {below : List Frame} {meth : Method} {c : Code} {Q : State → Prop} {A : Nat → Prop} {g : Gw} {post : Int32 → Wd → Prop}  (hC : Cx p s m args c cX11_castOf RX11 9 g) (hR : RtI tabM p l e (rk 3) s m args below meth c Q cX11_castOf A g post)  {k37 : Int32 → Int32 → Int32 → Wd → Prop} (hk37 : ∀ (x2 : Int32) (x5 : Int32) (x6 : Int32) (w : Wd) (H : Heap) (locs : List Loc) (ls : Array Slot), k37 x2 x5 x6 w → St tabM A s.heap g w H locs → lv_has ls 9 [(0, .ref (g.2.2 300)), (2, .int x2), (5, .int x5), (6, .int x6)] → W p l e (rk 3) s m args below meth c H locs 0 0 Q (F0 m 37 ls [])) : ∀ (x2 : Int32) (x5 : Int32) (x6 : Int32) (t0 : Int32) (w : Wd) (H : Heap) (locs : List Loc) (ls : Array Slot), pX11_castOf_112 k37 post x2 x5 x6 t0 w → St tabM A s.heap g w H locs → lv_has ls 9 [(0, .ref (g.2.2 300)), (2, .int x2), (5, .int x5), (6, .int x6)] → W p l e (rk 3) s m args below meth c H locs 0 0 Q (F0 m 112 ls [.int t0]) := by
  have hx := hC.1
  have hb := hC.2.1
  intro x2 x5 x6 t0 w H locs ls hp hS hl
  unfold pX11_castOf_112 at hp
  refine lv_istore (lv' := [(8, .int t0), (0, .ref (g.2.2 300)), (2, .int x2), (5, .int x5), (6, .int x6)]) hx hb dX11_castOf_112 hl (by decide) rfl (fun ls hl => ?_)
  refine lv_iload hx hb dX11_castOf_114 (lv_at hl 0 rfl) ?_
  refine lv_if_eq (tgt := 128) hx hb dX11_castOf_116 (by decide) (fun c_1 => ?_) (fun c_1 => ?_)
  · have hp := hp.1 c_1
    exact bX11_castOf_128 hC hR hk37 x2 x5 x6 w _ _ _ hp hS (lv_sub hl [1, 2, 3, 4] rfl)
  · have hp := hp.2 c_1
    refine lv_iload hx hb dX11_castOf_119 (lv_at hl 3 rfl) ?_
    refine lv_iconst hx hb dX11_castOf_121 kI_1 ?_
    refine lv_iload hx hb dX11_castOf_122 (lv_at hl 4 rfl) ?_
    refine lv_ishl hx hb dX11_castOf_124 ?_
    refine lv_ior hx hb dX11_castOf_125 ?_
    refine lv_topi (fun x5_2 ex5_2 => ?_)
    have hp := hp x5_2 ex5_2
    refine lv_istore (lv' := [(5, .int x5_2), (8, .int t0), (0, .ref (g.2.2 300)), (2, .int x2), (6, .int x6)]) hx hb dX11_castOf_126 hl (by decide) rfl (fun ls hl => ?_)
    exact bX11_castOf_128 hC hR hk37 x2 x5_2 x6 w _ _ _ hp hS (lv_sub hl [2, 3, 0, 4] rfl)
set_option maxHeartbeats 4000000 in
set_option maxRecDepth 100000 in
theorem bX11_castOf_70 {p : Program} {l : Launch} {e : Env} {s : State} {m : MethodId} {args : Array Value} {below : List Frame} {meth : Method} {c : Code} {Q : State → Prop} {A : Nat → Prop} {g : Gw} {post : Int32 → Wd → Prop}  (hC : Cx p s m args c cX11_castOf RX11 9 g) (hR : RtI tabM p l e (rk 3) s m args below meth c Q cX11_castOf A g post)  {k37 : Int32 → Int32 → Int32 → Wd → Prop} (hk37 : ∀ (x2 : Int32) (x5 : Int32) (x6 : Int32) (w : Wd) (H : Heap) (locs : List Loc) (ls : Array Slot), k37 x2 x5 x6 w → St tabM A s.heap g w H locs → lv_has ls 9 [(0, .ref (g.2.2 300)), (2, .int x2), (5, .int x5), (6, .int x6)] → W p l e (rk 3) s m args below meth c H locs 0 0 Q (F0 m 37 ls [])) : ∀ (x2 : Int32) (x5 : Int32) (x6 : Int32) (t0 : Int32) (w : Wd) (H : Heap) (locs : List Loc) (ls : Array Slot), pX11_castOf_70 k37 post x2 x5 x6 t0 w → St tabM A s.heap g w H locs → lv_has ls 9 [(0, .ref (g.2.2 300)), (2, .int x2), (5, .int x5), (6, .int x6)] → W p l e (rk 3) s m args below meth c H locs 0 0 Q (F0 m 70 ls [.int t0]) := by
  have hx := hC.1
  have hb := hC.2.1
  intro x2 x5 x6 t0 w H locs ls hp hS hl
  unfold pX11_castOf_70 at hp
  refine lv_istore (lv' := [(7, .int t0), (0, .ref (g.2.2 300)), (2, .int x2), (5, .int x5), (6, .int x6)]) hx hb dX11_castOf_70 hl (by decide) rfl (fun ls hl => ?_)
  refine lv_iload hx hb dX11_castOf_72 (lv_at hl 0 rfl) ?_
  refine lv_if_eq (tgt := 95) hx hb dX11_castOf_74 (by decide) (fun c_1 => ?_) (fun c_1 => ?_)
  · have hp := hp.1 c_1
    refine lv_aload_n hx hb dX11_castOf_95 rfl (lv_at hl 1 rfl) ?_
    refine lv_iconst hx hb dX11_castOf_96 kI_2 ?_
    refine lv_iload_n hx hb dX11_castOf_97 rfl (lv_at hl 2 rfl) ?_
    refine lv_imul hx hb dX11_castOf_98 ?_
    refine lv_iconst hx hb dX11_castOf_99 kI_1 ?_
    refine lv_iadd hx hb dX11_castOf_100 ?_
    refine q_cvI (As := [.int (((2 : Int32) * x2) + (1 : Int32))]) (rest := []) hC hS hl.1 (rX11_comes hp) cwX11_355 yvX11_comes (rcv_300 hC hS) rfl rfl (Nat.le_of_ble_eq_true rfl) (rmk (by decide) (by decide)) dX11_castOf_101 (fun r_2 w_3 H locs hp hS => ?_)
    refine lv_if_eq (tgt := 111) hx hb dX11_castOf_104 (by decide) (fun c_4 => ?_) (fun c_4 => ?_)
    · have hp := hp.1 c_4
      refine lv_iconst hx hb dX11_castOf_111 kI_0 ?_
      exact bX11_castOf_112 hC hR hk37 x2 x5 x6 (0 : Int32) w_3 _ _ _ hp hS (lv_sub hl [1, 2, 3, 4] rfl)
    · have hp := hp.2 c_4
      refine lv_iconst hx hb dX11_castOf_107 kI_1 ?_
      refine lv_goto (tgt := 112) hx hb dX11_castOf_108 (by decide) ?_
      exact bX11_castOf_112 hC hR hk37 x2 x5 x6 (1 : Int32) w_3 _ _ _ hp hS (lv_sub hl [1, 2, 3, 4] rfl)
  · have hp := hp.2 c_1
    refine lv_aload_n hx hb dX11_castOf_77 rfl (lv_at hl 1 rfl) ?_
    refine lv_iconst hx hb dX11_castOf_78 kI_2 ?_
    refine lv_iload_n hx hb dX11_castOf_79 rfl (lv_at hl 2 rfl) ?_
    refine lv_imul hx hb dX11_castOf_80 ?_
    refine q_cvI (As := [.int ((2 : Int32) * x2)]) (rest := []) hC hS hl.1 (rX11_comes hp) cwX11_355 yvX11_comes (rcv_300 hC hS) rfl rfl (Nat.le_of_ble_eq_true rfl) (rmk (by decide) (by decide)) dX11_castOf_81 (fun r_5 w_6 H locs hp hS => ?_)
    refine lv_if_ne (tgt := 91) hx hb dX11_castOf_84 (by decide) (fun c_7 => ?_) (fun c_7 => ?_)
    · have hp := hp.1 c_7
      refine lv_iconst hx hb dX11_castOf_91 kI_0 ?_
      refine lv_goto (tgt := 112) hx hb dX11_castOf_92 (by decide) ?_
      exact bX11_castOf_112 hC hR hk37 x2 x5 x6 (0 : Int32) w_6 _ _ _ hp hS (lv_sub hl [1, 2, 3, 4] rfl)
    · have hp := hp.2 c_7
      refine lv_iconst hx hb dX11_castOf_87 kI_1 ?_
      refine lv_goto (tgt := 112) hx hb dX11_castOf_88 (by decide) ?_
      exact bX11_castOf_112 hC hR hk37 x2 x5 x6 (1 : Int32) w_6 _ _ _ hp hS (lv_sub hl [1, 2, 3, 4] rfl)
set_option maxHeartbeats 4000000 in
set_option maxRecDepth 100000 in
theorem bX11_castOf_37 {p : Program} {l : Launch} {e : Env} {s : State} {m : MethodId} {args : Array Value} {below : List Frame} {meth : Method} {c : Code} {Q : State → Prop} {A : Nat → Prop} {g : Gw} {post : Int32 → Wd → Prop}  (hC : Cx p s m args c cX11_castOf RX11 9 g) (hR : RtI tabM p l e (rk 3) s m args below meth c Q cX11_castOf A g post)  : ∀ (n : Nat) (x2 : Int32) (x5 : Int32) (x6 : Int32) (w : Wd) (H : Heap) (locs : List Loc) (ls : Array Slot), pX11_castOf_37 post n x2 x5 x6 w → St tabM A s.heap g w H locs → lv_has ls 9 [(0, .ref (g.2.2 300)), (2, .int x2), (5, .int x5), (6, .int x6)] → W p l e (rk 3) s m args below meth c H locs 0 0 Q (F0 m 37 ls []) := by
  have hx := hC.1
  have hb := hC.2.1
  intro n
  induction n with
  | zero =>
    intro x2 x5 x6 w H locs ls hp hS hl
    exact False.elim hp
  | succ n ih =>
    intro x2 x5 x6 w H locs ls hp hS hl
    unfold pX11_castOf_37 at hp
    refine lv_iload hx hb dX11_castOf_37 (lv_at hl 3 rfl) ?_
    refine lv_aload_n hx hb dX11_castOf_39 rfl (lv_at hl 0 rfl) ?_
    refine q_cvI (As := []) (rest := [.int x6]) hC hS hl.1 (rX11_width hp) cwX11_342 yvX11_width (rcv_300 hC hS) rfl rfl (Nat.le_of_ble_eq_true rfl) (rmk (by decide) (by decide)) dX11_castOf_40 (fun r_1 w_2 H locs hp hS => ?_)
    refine lv_icmp_ge (tgt := 134) hx hb dX11_castOf_43 (by decide) (fun c_3 => ?_) (fun c_3 => ?_)
    · have hp := hp.1 c_3
      refine lv_iload hx hb dX11_castOf_134 (lv_at hl 2 rfl) ?_
      exact hR _ _ _ _ _ _ dX11_castOf_136 hp hS
    · have hp := hp.2 c_3
      refine lv_aload_n hx hb dX11_castOf_46 rfl (lv_at hl 0 rfl) ?_
      refine lv_iload hx hb dX11_castOf_47 (lv_at hl 3 rfl) ?_
      refine P_300_36 hC hS m762 dX11_castOf_49 (fun w_4 H locs ew_4 hS => ?_)
      have hp := hp w_4 ew_4
      refine lv_aload_n hx hb dX11_castOf_52 rfl (lv_at hl 0 rfl) ?_
      refine G_300_35 hC hS m758 dX11_castOf_53 ?_
      refine lv_iload hx hb dX11_castOf_56 (lv_at hl 3 rfl) ?_
      refine lv_ishr hx hb dX11_castOf_58 ?_
      refine lv_iconst hx hb dX11_castOf_59 kI_1 ?_
      refine lv_iand hx hb dX11_castOf_60 ?_
      refine lv_iconst hx hb dX11_castOf_61 kI_1 ?_
      refine lv_icmp_ne (tgt := 69) hx hb dX11_castOf_62 (by decide) (fun c_5 => ?_) (fun c_5 => ?_)
      · have hp := hp.1 c_5
        refine lv_iconst hx hb dX11_castOf_69 kI_0 ?_
        exact bX11_castOf_70 hC hR ih x2 x5 x6 (0 : Int32) w_4 _ _ _ hp hS (lv_sub hl [0, 1, 2, 3] rfl)
      · have hp := hp.2 c_5
        refine lv_iconst hx hb dX11_castOf_65 kI_1 ?_
        refine lv_goto (tgt := 70) hx hb dX11_castOf_66 (by decide) ?_
        exact bX11_castOf_70 hC hR ih x2 x5 x6 (1 : Int32) w_4 _ _ _ hp hS (lv_sub hl [0, 1, 2, 3] rfl)
set_option maxHeartbeats 4000000 in
set_option maxRecDepth 100000 in
theorem rX11_castOf {l : Launch} {g : Gw} {w : Wd} {post : Int32 → Wd → Prop}   {x1 : Int32} {x2 : Int32} {x3 : Int32} {x4 : Int32} (hp : pX11_castOf post x1 x2 x3 x4 w) : MtI tabM l yX11_castOf cX11_castOf 9 (some .int) 3 g w [.ref (g.2.2 300), .int x1, .int x2, .int x3, .int x4] post := by
  refine q_entI tabM_nd (by decide) rfl (Nat.le_of_ble_eq_true rfl) ?_
  intro p e s m args below meth c A Q ls hC hR hS hl
  have hx := hC.1
  have hb := hC.2.1
  have hl : lv_has ls 9 [(0, .ref (g.2.2 300)), (1, .int x1), (2, .int x2), (3, .int x3), (4, .int x4)] := hl
  unfold pX11_castOf at hp
  refine lv_aload_n hx hb dX11_castOf_0 rfl (lv_at hl 0 rfl) ?_
  refine lv_aload_n hx hb dX11_castOf_1 rfl (lv_at hl 0 rfl) ?_
  refine lv_iload_n hx hb dX11_castOf_2 rfl (lv_at hl 1 rfl) ?_
  refine q_cvI (As := [.int x1]) (rest := [.ref (g.2.2 300)]) hC hS hl.1 (rX11_turnedRow hp) cwX11_349 yvX11_turnedRow (rcv_300 hC hS) rfl rfl (Nat.le_of_ble_eq_true rfl) (rmk (by decide) (by decide)) dX11_castOf_3 (fun r_1 w_2 H locs hp hS => ?_)
  refine P_300_35 hC hS m758 dX11_castOf_6 (fun w_3 H locs ew_3 hS => ?_)
  have hp := hp w_3 ew_3
  refine lv_aload_n hx hb dX11_castOf_9 rfl (lv_at hl 0 rfl) ?_
  refine lv_aload_n hx hb dX11_castOf_10 rfl (lv_at hl 0 rfl) ?_
  refine G_300_35 hC hS m758 dX11_castOf_11 ?_
  refine q_csI (As := [.int (w_3.1 300 35)]) (rest := [.ref (g.2.2 300)]) hC hS hl.1 (rX11_bitsOf hp) cwX11_352 ysX11_bitsOf rfl rfl (Nat.le_of_ble_eq_true rfl) (rmk (by decide) (by decide)) dX11_castOf_14 (fun r_4 w_5 H locs hp hS => ?_)
  refine P_300_37 hC hS m759 dX11_castOf_17 (fun w_6 H locs ew_6 hS => ?_)
  have hp := hp w_6 ew_6
  refine lv_aload_n hx hb dX11_castOf_20 rfl (lv_at hl 0 rfl) ?_
  refine lv_iload_n hx hb dX11_castOf_21 rfl (lv_at hl 3 rfl) ?_
  refine P_300_38 hC hS m760 dX11_castOf_22 (fun w_7 H locs ew_7 hS => ?_)
  have hp := hp w_7 ew_7
  refine lv_aload_n hx hb dX11_castOf_25 rfl (lv_at hl 0 rfl) ?_
  refine lv_iload hx hb dX11_castOf_26 (lv_at hl 4 rfl) ?_
  refine P_300_39 hC hS m761 dX11_castOf_28 (fun w_8 H locs ew_8 hS => ?_)
  have hp := hp w_8 ew_8
  refine lv_iconst hx hb dX11_castOf_31 kI_0 ?_
  refine lv_istore (lv' := [(5, .int (0 : Int32)), (0, .ref (g.2.2 300)), (1, .int x1), (2, .int x2), (3, .int x3), (4, .int x4)]) hx hb dX11_castOf_32 hl (by decide) rfl (fun ls hl => ?_)
  refine lv_iconst hx hb dX11_castOf_34 kI_0 ?_
  refine lv_istore (lv' := [(6, .int (0 : Int32)), (5, .int (0 : Int32)), (0, .ref (g.2.2 300)), (1, .int x1), (2, .int x2), (3, .int x3), (4, .int x4)]) hx hb dX11_castOf_35 hl (by decide) rfl (fun ls hl => ?_)
  obtain ⟨n9, hp⟩ := hp
  exact bX11_castOf_37 hC hR n9 x2 (0 : Int32) (0 : Int32) w_8 _ _ _ hp hS (lv_sub hl [2, 4, 1, 0] rfl)
def pX11_isHand (post : Int32 → Wd → Prop) (x1 : Int32) (w : Wd) : Prop := vp_in (w.1 300 29) 2 ∧ pX11_isIn (fun r_1 w_2 => r_1 = vp_nar .boolean r_1 ∧ post r_1 w_2) x1 (0 : Int32) ((w.2.1 314 (w.1 300 29).toNatClampNeg) - (1 : Int32)) w
set_option maxHeartbeats 4000000 in
set_option maxRecDepth 100000 in
theorem rX11_isHand {l : Launch} {g : Gw} {w : Wd} {post : Int32 → Wd → Prop}   {x1 : Int32} (hp : pX11_isHand post x1 w) : MtI tabM l yX11_isHand cX11_isHand 2 (some .boolean) 2 g w [.ref (g.2.2 300), .int x1] post := by
  refine q_entZ tabM_nd (by decide) rfl (Nat.le_of_ble_eq_true rfl) ?_
  intro p e s m args below meth c A Q ls hC hR hS hl
  have hx := hC.1
  have hb := hC.2.1
  have hl : lv_has ls 2 [(0, .ref (g.2.2 300)), (1, .int x1)] := hl
  unfold pX11_isHand at hp
  refine lv_iload_n hx hb dX11_isHand_0 rfl (lv_at hl 1 rfl) ?_
  refine lv_iconst hx hb dX11_isHand_1 kI_0 ?_
  refine lv_aload_n hx hb dX11_isHand_2 rfl (lv_at hl 0 rfl) ?_
  refine G_300_13 hC hS m258 dX11_isHand_3 ?_
  refine lv_aload_n hx hb dX11_isHand_6 rfl (lv_at hl 0 rfl) ?_
  refine G_300_29 hC hS m308 dX11_isHand_7 ?_
  refine La_314 hC hS hp.1 dX11_isHand_10 ?_
  have hp := hp.2
  refine lv_iconst hx hb dX11_isHand_11 kI_1 ?_
  refine lv_isub hx hb dX11_isHand_12 ?_
  refine q_csI (As := [.int x1, .int (0 : Int32), .int ((w.2.1 314 (w.1 300 29).toNatClampNeg) - (1 : Int32))]) (rest := []) hC hS hl.1 (rX11_isIn hp) cwX11_345 ysX11_isIn rfl rfl (Nat.le_of_ble_eq_true rfl) (rmk (by decide) (by decide)) dX11_isHand_13 (fun r_1 w_2 H locs hp hS => ?_)
  exact hR _ _ _ _ _ _ dX11_isHand_16 hp.1 hp.2 hS
def pX11_isHeat (post : Int32 → Wd → Prop) (x0 : Int32) (w : Wd) : Prop := pX11_isIn (fun r_1 w_2 => r_1 = vp_nar .boolean r_1 ∧ post r_1 w_2) x0 (0 : Int32) (9 : Int32) w
set_option maxHeartbeats 4000000 in
set_option maxRecDepth 100000 in
theorem rX11_isHeat {l : Launch} {g : Gw} {w : Wd} {post : Int32 → Wd → Prop}   {x0 : Int32} (hp : pX11_isHeat post x0 w) : MtI tabM l yX11_isHeat cX11_isHeat 1 (some .boolean) 2 g w [.int x0] post := by
  refine q_entZ tabM_nd (by decide) rfl (Nat.le_of_ble_eq_true rfl) ?_
  intro p e s m args below meth c A Q ls hC hR hS hl
  have hx := hC.1
  have hb := hC.2.1
  have hl : lv_has ls 1 [(0, .int x0)] := hl
  unfold pX11_isHeat at hp
  refine lv_iload_n hx hb dX11_isHeat_0 rfl (lv_at hl 0 rfl) ?_
  refine lv_iconst hx hb dX11_isHeat_1 kI_0 ?_
  refine lv_bipush hx hb dX11_isHeat_2 kB_9 ?_
  refine q_csI (As := [.int x0, .int (0 : Int32), .int (9 : Int32)]) (rest := []) hC hS hl.1 (rX11_isIn hp) cwX11_345 ysX11_isIn rfl rfl (Nat.le_of_ble_eq_true rfl) (rmk (by decide) (by decide)) dX11_isHeat_4 (fun r_1 w_2 H locs hp hS => ?_)
  exact hR _ _ _ _ _ _ dX11_isHeat_7 hp.1 hp.2 hS
