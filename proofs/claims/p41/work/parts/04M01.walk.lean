def pX11_isCompared_28 (k7 : Int32 → Wd → Prop) (post : Int32 → Wd → Prop) (x1 : Int32) (w : Wd) : Prop := ∀ x1_1, x1_1 = x1 + (-1 : Int32) → k7 x1_1 w
def pX11_isCompared_7 (post : Int32 → Wd → Prop) : Nat → Int32 → Wd → Prop
  | 0, _, _ => False
  | n + 1, x1, w => vp_in x1 90 ∧ ((w.2.1 327 x1.toNatClampNeg) = (5 : Int32) → (pX11_isCompared_28 (pX11_isCompared_7 post n) post x1 w)) ∧ (¬ (w.2.1 327 x1.toNatClampNeg) = (5 : Int32) → (vp_in x1 90 ∧ (¬ (w.2.1 327 x1.toNatClampNeg) = (6 : Int32) → (vp_in x1 90 ∧ (¬ (w.2.1 327 x1.toNatClampNeg) = (4 : Int32) → (post (0 : Int32) w)) ∧ ((w.2.1 327 x1.toNatClampNeg) = (4 : Int32) → (post (1 : Int32) w)))) ∧ ((w.2.1 327 x1.toNatClampNeg) = (6 : Int32) → (pX11_isCompared_28 (pX11_isCompared_7 post n) post x1 w))))
def pX11_isCompared (post : Int32 → Wd → Prop)  (w : Wd) : Prop := ∀ x1_1, x1_1 = ((w.1 300 33) - (1 : Int32)) → ∃ n9, pX11_isCompared_7 post n9 x1_1 w
set_option maxHeartbeats 4000000 in
set_option maxRecDepth 100000 in
theorem bX11_isCompared_28 {p : Program} {l : Launch} {e : Env} {s : State} {m : MethodId} {args : Array Value} {below : List Frame} {meth : Method} {c : Code} {Q : State → Prop} {A : Nat → Prop} {g : Gw} {post : Int32 → Wd → Prop}  (hC : Cx p s m args c cX11_isCompared RX11 2 g) (hR : RtZ tabM p l e (rk 1) s m args below meth c Q cX11_isCompared A g post)  {k7 : Int32 → Wd → Prop} (hk7 : ∀ (x1 : Int32) (w : Wd) (H : Heap) (locs : List Loc) (ls : Array Slot), k7 x1 w → St tabM A s.heap g w H locs → lv_has ls 2 [(0, .ref (g.2.2 300)), (1, .int x1)] → W p l e (rk 1) s m args below meth c H locs 0 0 Q (F0 m 7 ls [])) : ∀ (x1 : Int32) (w : Wd) (H : Heap) (locs : List Loc) (ls : Array Slot), pX11_isCompared_28 k7 post x1 w → St tabM A s.heap g w H locs → lv_has ls 2 [(0, .ref (g.2.2 300)), (1, .int x1)] → W p l e (rk 1) s m args below meth c H locs 0 0 Q (F0 m 28 ls []) := by
  have hx := hC.1
  have hb := hC.2.1
  intro x1 w H locs ls hp hS hl
  unfold pX11_isCompared_28 at hp
  obtain ⟨x1_1, ex1_1⟩ : ∃ y : Int32, y = x1 + (-1 : Int32) := ⟨_, rfl⟩
  have hp := hp x1_1 ex1_1
  refine lv_iinc (v := x1_1) (lv' := [(1, .int x1_1), (0, .ref (g.2.2 300))]) hx hb dX11_isCompared_28 hl (k := 1) rfl (by rw [ex1_1]; rfl) (by decide) rfl (fun ls hl => ?_)
  refine lv_goto (tgt := 7) hx hb dX11_isCompared_31 (by decide) ?_
  exact hk7 x1_1 w _ _ _ hp hS (lv_sub hl [1, 0] rfl)
set_option maxHeartbeats 4000000 in
set_option maxRecDepth 100000 in
theorem bX11_isCompared_7 {p : Program} {l : Launch} {e : Env} {s : State} {m : MethodId} {args : Array Value} {below : List Frame} {meth : Method} {c : Code} {Q : State → Prop} {A : Nat → Prop} {g : Gw} {post : Int32 → Wd → Prop}  (hC : Cx p s m args c cX11_isCompared RX11 2 g) (hR : RtZ tabM p l e (rk 1) s m args below meth c Q cX11_isCompared A g post)  : ∀ (n : Nat) (x1 : Int32) (w : Wd) (H : Heap) (locs : List Loc) (ls : Array Slot), pX11_isCompared_7 post n x1 w → St tabM A s.heap g w H locs → lv_has ls 2 [(0, .ref (g.2.2 300)), (1, .int x1)] → W p l e (rk 1) s m args below meth c H locs 0 0 Q (F0 m 7 ls []) := by
  have hx := hC.1
  have hb := hC.2.1
  intro n
  induction n with
  | zero =>
    intro x1 w H locs ls hp hS hl
    exact False.elim hp
  | succ n ih =>
    intro x1 w H locs ls hp hS hl
    unfold pX11_isCompared_7 at hp
    refine lv_aload_n hx hb dX11_isCompared_7 rfl (lv_at hl 0 rfl) ?_
    refine G_300_26 hC hS m271 dX11_isCompared_8 ?_
    refine lv_iload_n hx hb dX11_isCompared_11 rfl (lv_at hl 1 rfl) ?_
    refine La_327 hC hS hp.1 dX11_isCompared_12 ?_
    have hp := hp.2
    refine lv_iconst hx hb dX11_isCompared_13 kI_5 ?_
    refine lv_icmp_eq (tgt := 28) hx hb dX11_isCompared_14 (by decide) (fun c_1 => ?_) (fun c_1 => ?_)
    · have hp := hp.1 c_1
      exact bX11_isCompared_28 hC hR ih x1 w _ _ _ hp hS (lv_sub hl [0, 1] rfl)
    · have hp := hp.2 c_1
      refine lv_aload_n hx hb dX11_isCompared_17 rfl (lv_at hl 0 rfl) ?_
      refine G_300_26 hC hS m271 dX11_isCompared_18 ?_
      refine lv_iload_n hx hb dX11_isCompared_21 rfl (lv_at hl 1 rfl) ?_
      refine La_327 hC hS hp.1 dX11_isCompared_22 ?_
      have hp := hp.2
      refine lv_bipush hx hb dX11_isCompared_23 kB_6 ?_
      refine lv_icmp_ne (tgt := 34) hx hb dX11_isCompared_25 (by decide) (fun c_2 => ?_) (fun c_2 => ?_)
      · have hp := hp.1 c_2
        refine lv_aload_n hx hb dX11_isCompared_34 rfl (lv_at hl 0 rfl) ?_
        refine G_300_26 hC hS m271 dX11_isCompared_35 ?_
        refine lv_iload_n hx hb dX11_isCompared_38 rfl (lv_at hl 1 rfl) ?_
        refine La_327 hC hS hp.1 dX11_isCompared_39 ?_
        have hp := hp.2
        refine lv_iconst hx hb dX11_isCompared_40 kI_4 ?_
        refine lv_icmp_ne (tgt := 48) hx hb dX11_isCompared_41 (by decide) (fun c_3 => ?_) (fun c_3 => ?_)
        · have hp := hp.1 c_3
          refine lv_iconst hx hb dX11_isCompared_48 kI_0 ?_
          exact hR _ _ _ _ _ _ dX11_isCompared_49 (by decide) hp hS
        · have hp := hp.2 c_3
          refine lv_iconst hx hb dX11_isCompared_44 kI_1 ?_
          refine lv_goto (tgt := 49) hx hb dX11_isCompared_45 (by decide) ?_
          exact hR _ _ _ _ _ _ dX11_isCompared_49 (by decide) hp hS
      · have hp := hp.2 c_2
        exact bX11_isCompared_28 hC hR ih x1 w _ _ _ hp hS (lv_sub hl [0, 1] rfl)
set_option maxHeartbeats 4000000 in
set_option maxRecDepth 100000 in
theorem rX11_isCompared {l : Launch} {g : Gw} {w : Wd} {post : Int32 → Wd → Prop}    (hp : pX11_isCompared post  w) : MtI tabM l yX11_isCompared cX11_isCompared 2 (some .boolean) 1 g w [.ref (g.2.2 300)] post := by
  refine q_entZ tabM_nd (by decide) rfl (Nat.le_of_ble_eq_true rfl) ?_
  intro p e s m args below meth c A Q ls hC hR hS hl
  have hx := hC.1
  have hb := hC.2.1
  have hl : lv_has ls 2 [(0, .ref (g.2.2 300))] := hl
  unfold pX11_isCompared at hp
  refine lv_aload_n hx hb dX11_isCompared_0 rfl (lv_at hl 0 rfl) ?_
  refine G_300_33 hC hS m567 dX11_isCompared_1 ?_
  refine lv_iconst hx hb dX11_isCompared_4 kI_1 ?_
  refine lv_isub hx hb dX11_isCompared_5 ?_
  refine lv_topi (fun x1_1 ex1_1 => ?_)
  have hp := hp x1_1 ex1_1
  refine lv_istore_n (lv' := [(1, .int x1_1), (0, .ref (g.2.2 300))]) hx hb dX11_isCompared_6 rfl hl (by decide) rfl (fun ls hl => ?_)
  obtain ⟨n9, hp⟩ := hp
  exact bX11_isCompared_7 hC hR n9 x1_1 w _ _ _ hp hS (lv_sub hl [1, 0] rfl)
def pX11_pushE (post : Wd → Prop) (x1 : Int32) (x2 : Int32) (w : Wd) : Prop := vp_in (w.1 300 33) 90 ∧ ∀ w_1, w_1 = sA w 327 (w.1 300 33).toNatClampNeg x1 → vp_in (w_1.1 300 33) 90 ∧ ∀ w_2, w_2 = sA w_1 328 (w_1.1 300 33).toNatClampNeg x2 → ∀ w_3, w_3 = sI w_2 300 33 ((w_2.1 300 33) + (1 : Int32)) → post w_3
set_option maxHeartbeats 4000000 in
set_option maxRecDepth 100000 in
theorem rX11_pushE {l : Launch} {g : Gw} {w : Wd} {post : Wd → Prop}   {x1 : Int32} {x2 : Int32} (hp : pX11_pushE post x1 x2 w) : MtV tabM l yX11_pushE cX11_pushE 3 none 1 g w [.ref (g.2.2 300), .int x1, .int x2] post := by
  refine q_entV tabM_nd (by decide) rfl (Nat.le_of_ble_eq_true rfl) ?_
  intro p e s m args below meth c A Q ls hC hR hS hl
  have hx := hC.1
  have hb := hC.2.1
  have hl : lv_has ls 3 [(0, .ref (g.2.2 300)), (1, .int x1), (2, .int x2)] := hl
  unfold pX11_pushE at hp
  refine lv_aload_n hx hb dX11_pushE_0 rfl (lv_at hl 0 rfl) ?_
  refine G_300_26 hC hS m271 dX11_pushE_1 ?_
  refine lv_aload_n hx hb dX11_pushE_4 rfl (lv_at hl 0 rfl) ?_
  refine G_300_33 hC hS m567 dX11_pushE_5 ?_
  refine lv_iload_n hx hb dX11_pushE_8 rfl (lv_at hl 1 rfl) ?_
  refine Sa_327 hC hS hp.1 dX11_pushE_9 (fun w_1 H locs ew_1 hS => ?_)
  have hp := hp.2
  have hp := hp w_1 ew_1
  refine lv_aload_n hx hb dX11_pushE_10 rfl (lv_at hl 0 rfl) ?_
  refine G_300_27 hC hS m272 dX11_pushE_11 ?_
  refine lv_aload_n hx hb dX11_pushE_14 rfl (lv_at hl 0 rfl) ?_
  refine G_300_33 hC hS m567 dX11_pushE_15 ?_
  refine lv_iload_n hx hb dX11_pushE_18 rfl (lv_at hl 2 rfl) ?_
  refine Sa_328 hC hS hp.1 dX11_pushE_19 (fun w_2 H locs ew_2 hS => ?_)
  have hp := hp.2
  have hp := hp w_2 ew_2
  refine lv_aload_n hx hb dX11_pushE_20 rfl (lv_at hl 0 rfl) ?_
  refine lv_dup hx hb dX11_pushE_21 rfl ?_
  refine G_300_33 hC hS m567 dX11_pushE_22 ?_
  refine lv_iconst hx hb dX11_pushE_25 kI_1 ?_
  refine lv_iadd hx hb dX11_pushE_26 ?_
  refine P_300_33 hC hS m567 dX11_pushE_27 (fun w_3 H locs ew_3 hS => ?_)
  have hp := hp w_3 ew_3
  exact hR _ _ _ _ _ dX11_pushE_30 hp hS
def pX11_rankHere (post : Int32 → Wd → Prop)  (w : Wd) : Prop := pX11_isWord (fun r_1 w_2 => (r_1 = 0 → (pX11_isWord (fun r_4 w_5 => (r_4 = 0 → (pX11_isSignHere (fun r_7 w_8 => (¬ r_7 = 0 → (post (4 : Int32) w_8)) ∧ (r_7 = 0 → (pX11_isSignHere (fun r_10 w_11 => (¬ r_10 = 0 → (post (4 : Int32) w_11)) ∧ (r_10 = 0 → (pX11_isSignHere (fun r_13 w_14 => (r_13 = 0 → (pX11_isSignHere (fun r_16 w_17 => (¬ r_16 = 0 → (post (5 : Int32) w_17)) ∧ (r_16 = 0 → (pX11_isSignHere (fun r_19 w_20 => (r_19 = 0 → (pX11_isSignHere (fun r_22 w_23 => (¬ r_22 = 0 → (post (6 : Int32) w_23)) ∧ (r_22 = 0 → (pX11_isSignHere (fun r_25 w_26 => (¬ r_25 = 0 → (post (6 : Int32) w_26)) ∧ (r_25 = 0 → (pX11_isSignHere (fun r_28 w_29 => (r_28 = 0 → (post (0 : Int32) w_29)) ∧ (¬ r_28 = 0 → (post (6 : Int32) w_29))) (37 : Int32) w_26))) (47 : Int32) w_23))) (42 : Int32) w_20)) ∧ (¬ r_19 = 0 → (post (5 : Int32) w_20))) (45 : Int32) w_17))) (43 : Int32) w_14)) ∧ (¬ r_13 = 0 → (post (4 : Int32) w_14))) (61 : Int32) w_11))) (62 : Int32) w_8))) (60 : Int32) w_5)) ∧ (¬ r_4 = 0 → (post (1 : Int32) w_5))) (28530 : Int64) w_2)) ∧ (¬ r_1 = 0 → (post (2 : Int32) w_2))) (6385252 : Int64) w
set_option maxHeartbeats 4000000 in
set_option maxRecDepth 100000 in
theorem rX11_rankHere {l : Launch} {g : Gw} {w : Wd} {post : Int32 → Wd → Prop}    (hp : pX11_rankHere post  w) : MtI tabM l yX11_rankHere cX11_rankHere 1 (some .int) 3 g w [.ref (g.2.2 300)] post := by
  refine q_entI tabM_nd (by decide) rfl (Nat.le_of_ble_eq_true rfl) ?_
  intro p e s m args below meth c A Q ls hC hR hS hl
  have hx := hC.1
  have hb := hC.2.1
  have hl : lv_has ls 1 [(0, .ref (g.2.2 300))] := hl
  unfold pX11_rankHere at hp
  refine lv_aload_n hx hb dX11_rankHere_0 rfl (lv_at hl 0 rfl) ?_
  refine lv_ldc2 hx hb hC.2.2.2.1 (hC.2.2.2.2.1 _ m506) dX11_rankHere_1 ?_
  refine q_cvI (As := [.long (6385252 : Int64)]) (rest := []) hC hS hl.1 (rX11_isWord hp) cwX11_256 yvX11_isWord (rcv_300 hC hS) rfl rfl (Nat.le_of_ble_eq_true rfl) (rmk (by decide) (by decide)) dX11_rankHere_4 (fun r_1 w_2 H locs hp hS => ?_)
  refine lv_if_eq (tgt := 12) hx hb dX11_rankHere_7 (by decide) (fun c_3 => ?_) (fun c_3 => ?_)
  · have hp := hp.1 c_3
    refine lv_aload_n hx hb dX11_rankHere_12 rfl (lv_at hl 0 rfl) ?_
    refine lv_ldc2 hx hb hC.2.2.2.1 (hC.2.2.2.2.1 _ m505) dX11_rankHere_13 ?_
    refine q_cvI (As := [.long (28530 : Int64)]) (rest := []) hC hS hl.1 (rX11_isWord hp) cwX11_256 yvX11_isWord (rcv_300 hC hS) rfl rfl (Nat.le_of_ble_eq_true rfl) (rmk (by decide) (by decide)) dX11_rankHere_16 (fun r_4 w_5 H locs hp hS => ?_)
    refine lv_if_eq (tgt := 24) hx hb dX11_rankHere_19 (by decide) (fun c_6 => ?_) (fun c_6 => ?_)
    · have hp := hp.1 c_6
      refine lv_aload_n hx hb dX11_rankHere_24 rfl (lv_at hl 0 rfl) ?_
      refine lv_bipush hx hb dX11_rankHere_25 kB_60 ?_
      refine q_cvI (As := [.int (60 : Int32)]) (rest := []) hC hS hl.1 (rX11_isSignHere hp) cwX11_272 yvX11_isSignHere (rcv_300 hC hS) rfl rfl (Nat.le_of_ble_eq_true rfl) (rmk (by decide) (by decide)) dX11_rankHere_27 (fun r_7 w_8 H locs hp hS => ?_)
      refine lv_if_ne (tgt := 51) hx hb dX11_rankHere_30 (by decide) (fun c_9 => ?_) (fun c_9 => ?_)
      · have hp := hp.1 c_9
        refine lv_iconst hx hb dX11_rankHere_51 kI_4 ?_
        exact hR _ _ _ _ _ _ dX11_rankHere_52 hp hS
      · have hp := hp.2 c_9
        refine lv_aload_n hx hb dX11_rankHere_33 rfl (lv_at hl 0 rfl) ?_
        refine lv_bipush hx hb dX11_rankHere_34 kB_62 ?_
        refine q_cvI (As := [.int (62 : Int32)]) (rest := []) hC hS hl.1 (rX11_isSignHere hp) cwX11_272 yvX11_isSignHere (rcv_300 hC hS) rfl rfl (Nat.le_of_ble_eq_true rfl) (rmk (by decide) (by decide)) dX11_rankHere_36 (fun r_10 w_11 H locs hp hS => ?_)
        refine lv_if_ne (tgt := 51) hx hb dX11_rankHere_39 (by decide) (fun c_12 => ?_) (fun c_12 => ?_)
        · have hp := hp.1 c_12
          refine lv_iconst hx hb dX11_rankHere_51 kI_4 ?_
          exact hR _ _ _ _ _ _ dX11_rankHere_52 hp hS
        · have hp := hp.2 c_12
          refine lv_aload_n hx hb dX11_rankHere_42 rfl (lv_at hl 0 rfl) ?_
          refine lv_bipush hx hb dX11_rankHere_43 kB_61 ?_
          refine q_cvI (As := [.int (61 : Int32)]) (rest := []) hC hS hl.1 (rX11_isSignHere hp) cwX11_272 yvX11_isSignHere (rcv_300 hC hS) rfl rfl (Nat.le_of_ble_eq_true rfl) (rmk (by decide) (by decide)) dX11_rankHere_45 (fun r_13 w_14 H locs hp hS => ?_)
          refine lv_if_eq (tgt := 53) hx hb dX11_rankHere_48 (by decide) (fun c_15 => ?_) (fun c_15 => ?_)
          · have hp := hp.1 c_15
            refine lv_aload_n hx hb dX11_rankHere_53 rfl (lv_at hl 0 rfl) ?_
            refine lv_bipush hx hb dX11_rankHere_54 kB_43 ?_
            refine q_cvI (As := [.int (43 : Int32)]) (rest := []) hC hS hl.1 (rX11_isSignHere hp) cwX11_272 yvX11_isSignHere (rcv_300 hC hS) rfl rfl (Nat.le_of_ble_eq_true rfl) (rmk (by decide) (by decide)) dX11_rankHere_56 (fun r_16 w_17 H locs hp hS => ?_)
            refine lv_if_ne (tgt := 71) hx hb dX11_rankHere_59 (by decide) (fun c_18 => ?_) (fun c_18 => ?_)
            · have hp := hp.1 c_18
              refine lv_iconst hx hb dX11_rankHere_71 kI_5 ?_
              exact hR _ _ _ _ _ _ dX11_rankHere_72 hp hS
            · have hp := hp.2 c_18
              refine lv_aload_n hx hb dX11_rankHere_62 rfl (lv_at hl 0 rfl) ?_
              refine lv_bipush hx hb dX11_rankHere_63 kB_45 ?_
              refine q_cvI (As := [.int (45 : Int32)]) (rest := []) hC hS hl.1 (rX11_isSignHere hp) cwX11_272 yvX11_isSignHere (rcv_300 hC hS) rfl rfl (Nat.le_of_ble_eq_true rfl) (rmk (by decide) (by decide)) dX11_rankHere_65 (fun r_19 w_20 H locs hp hS => ?_)
              refine lv_if_eq (tgt := 73) hx hb dX11_rankHere_68 (by decide) (fun c_21 => ?_) (fun c_21 => ?_)
              · have hp := hp.1 c_21
                refine lv_aload_n hx hb dX11_rankHere_73 rfl (lv_at hl 0 rfl) ?_
                refine lv_bipush hx hb dX11_rankHere_74 kB_42 ?_
                refine q_cvI (As := [.int (42 : Int32)]) (rest := []) hC hS hl.1 (rX11_isSignHere hp) cwX11_272 yvX11_isSignHere (rcv_300 hC hS) rfl rfl (Nat.le_of_ble_eq_true rfl) (rmk (by decide) (by decide)) dX11_rankHere_76 (fun r_22 w_23 H locs hp hS => ?_)
                refine lv_if_ne (tgt := 100) hx hb dX11_rankHere_79 (by decide) (fun c_24 => ?_) (fun c_24 => ?_)
                · have hp := hp.1 c_24
                  refine lv_bipush hx hb dX11_rankHere_100 kB_6 ?_
                  refine lv_goto (tgt := 106) hx hb dX11_rankHere_102 (by decide) ?_
                  exact hR _ _ _ _ _ _ dX11_rankHere_106 hp hS
                · have hp := hp.2 c_24
                  refine lv_aload_n hx hb dX11_rankHere_82 rfl (lv_at hl 0 rfl) ?_
                  refine lv_bipush hx hb dX11_rankHere_83 kB_47 ?_
                  refine q_cvI (As := [.int (47 : Int32)]) (rest := []) hC hS hl.1 (rX11_isSignHere hp) cwX11_272 yvX11_isSignHere (rcv_300 hC hS) rfl rfl (Nat.le_of_ble_eq_true rfl) (rmk (by decide) (by decide)) dX11_rankHere_85 (fun r_25 w_26 H locs hp hS => ?_)
                  refine lv_if_ne (tgt := 100) hx hb dX11_rankHere_88 (by decide) (fun c_27 => ?_) (fun c_27 => ?_)
                  · have hp := hp.1 c_27
                    refine lv_bipush hx hb dX11_rankHere_100 kB_6 ?_
                    refine lv_goto (tgt := 106) hx hb dX11_rankHere_102 (by decide) ?_
                    exact hR _ _ _ _ _ _ dX11_rankHere_106 hp hS
                  · have hp := hp.2 c_27
                    refine lv_aload_n hx hb dX11_rankHere_91 rfl (lv_at hl 0 rfl) ?_
                    refine lv_bipush hx hb dX11_rankHere_92 kB_37 ?_
                    refine q_cvI (As := [.int (37 : Int32)]) (rest := []) hC hS hl.1 (rX11_isSignHere hp) cwX11_272 yvX11_isSignHere (rcv_300 hC hS) rfl rfl (Nat.le_of_ble_eq_true rfl) (rmk (by decide) (by decide)) dX11_rankHere_94 (fun r_28 w_29 H locs hp hS => ?_)
                    refine lv_if_eq (tgt := 105) hx hb dX11_rankHere_97 (by decide) (fun c_30 => ?_) (fun c_30 => ?_)
                    · have hp := hp.1 c_30
                      refine lv_iconst hx hb dX11_rankHere_105 kI_0 ?_
                      exact hR _ _ _ _ _ _ dX11_rankHere_106 hp hS
                    · have hp := hp.2 c_30
                      refine lv_bipush hx hb dX11_rankHere_100 kB_6 ?_
                      refine lv_goto (tgt := 106) hx hb dX11_rankHere_102 (by decide) ?_
                      exact hR _ _ _ _ _ _ dX11_rankHere_106 hp hS
              · have hp := hp.2 c_21
                refine lv_iconst hx hb dX11_rankHere_71 kI_5 ?_
                exact hR _ _ _ _ _ _ dX11_rankHere_72 hp hS
          · have hp := hp.2 c_15
            refine lv_iconst hx hb dX11_rankHere_51 kI_4 ?_
            exact hR _ _ _ _ _ _ dX11_rankHere_52 hp hS
    · have hp := hp.2 c_6
      refine lv_iconst hx hb dX11_rankHere_22 kI_1 ?_
      exact hR _ _ _ _ _ _ dX11_rankHere_23 hp hS
  · have hp := hp.2 c_3
    refine lv_iconst hx hb dX11_rankHere_10 kI_2 ?_
    exact hR _ _ _ _ _ _ dX11_rankHere_11 hp hS
def pX11_behindUnit_104 (post : Int32 → Wd → Prop) (x1 : Int32) (w : Wd) : Prop := (x1 ≤ 0 → (∀ w_2, w_2 = sI w 300 33 ((w.1 300 33) - (1 : Int32)) → vp_in (w_2.1 300 33) 90 ∧ (¬ (w_2.2.1 327 (w_2.1 300 33).toNatClampNeg) = (7 : Int32) → (post (0 : Int32) w_2)) ∧ ((w_2.2.1 327 (w_2.1 300 33).toNatClampNeg) = (7 : Int32) → (∀ w_4, w_4 = sI w_2 300 32 ((w_2.1 300 32) - (1 : Int32)) → pX11_isSignHere (fun r_5 w_6 => pX11_must (fun w_7 => post (0 : Int32) w_7) r_5 w_6) (41 : Int32) w_4)))) ∧ (¬ x1 ≤ 0 → ((¬ x1 = (2 : Int32) → ((¬ x1 = (1 : Int32) → (pX11_sign (fun r_10 w_11 => pX11_pushE (fun w_12 => pX11_goOn (fun w_13 => post (1 : Int32) w_13) w_12) x1 r_10 w_11) (w.1 300 6) w)) ∧ (x1 = (1 : Int32) → (pX11_pushE (fun w_14 => pX11_goOn (fun w_15 => post (1 : Int32) w_15) w_14) x1 (124 : Int32) w)))) ∧ (x1 = (2 : Int32) → (pX11_pushE (fun w_16 => pX11_goOn (fun w_17 => post (1 : Int32) w_17) w_16) x1 (38 : Int32) w))))
def pX11_behindUnit_87 (k23 : Int32 → Wd → Prop) (post : Int32 → Wd → Prop) (x1 : Int32) (w : Wd) : Prop := vp_in (w.1 300 33) 90 ∧ pX11_emit (fun w_1 => k23 x1 w_1) (w.2.1 328 (w.1 300 33).toNatClampNeg) (0 : Int32) w
def pX11_behindUnit_23 (post : Int32 → Wd → Prop) : Nat → Int32 → Wd → Prop
  | 0, _, _ => False
  | n + 1, x1, w => vp_in ((w.1 300 33) - (1 : Int32)) 90 ∧ ((6 : Int32) < (w.2.1 327 ((w.1 300 33) - (1 : Int32)).toNatClampNeg) → (pX11_behindUnit_104 post x1 w)) ∧ (¬ (6 : Int32) < (w.2.1 327 ((w.1 300 33) - (1 : Int32)).toNatClampNeg) → (vp_in ((w.1 300 33) - (1 : Int32)) 90 ∧ ((w.2.1 327 ((w.1 300 33) - (1 : Int32)).toNatClampNeg) < x1 → (pX11_behindUnit_104 post x1 w)) ∧ (¬ (w.2.1 327 ((w.1 300 33) - (1 : Int32)).toNatClampNeg) < x1 → (∀ w_3, w_3 = sI w 300 33 ((w.1 300 33) - (1 : Int32)) → vp_in (w_3.1 300 33) 90 ∧ (¬ (w_3.2.1 327 (w_3.1 300 33).toNatClampNeg) = (3 : Int32) → (pX11_behindUnit_87 (pX11_behindUnit_23 post n) post x1 w_3)) ∧ ((w_3.2.1 327 (w_3.1 300 33).toNatClampNeg) = (3 : Int32) → (∀ w_5, w_5 = sI w_3 300 32 ((w_3.1 300 32) - (1 : Int32)) → pX11_behindUnit_87 (pX11_behindUnit_23 post n) post x1 w_5))))))
def pX11_behindUnit (post : Int32 → Wd → Prop)  (w : Wd) : Prop := pX11_rankHere (fun r_1 w_2 => (¬ r_1 = (4 : Int32) → (∃ n9, pX11_behindUnit_23 post n9 r_1 w_2)) ∧ (r_1 = (4 : Int32) → (pX11_isCompared (fun r_4 w_5 => (r_4 = 0 → (∃ n9, pX11_behindUnit_23 post n9 r_1 w_5)) ∧ (¬ r_4 = 0 → (pX11_misplaced (fun w_7 => post (1 : Int32) w_7) w_5))) w_2))) w
set_option maxHeartbeats 4000000 in
set_option maxRecDepth 100000 in
theorem bX11_behindUnit_104 {p : Program} {l : Launch} {e : Env} {s : State} {m : MethodId} {args : Array Value} {below : List Frame} {meth : Method} {c : Code} {Q : State → Prop} {A : Nat → Prop} {g : Gw} {post : Int32 → Wd → Prop}  (hC : Cx p s m args c cX11_behindUnit RX11 2 g) (hR : RtZ tabM p l e (rk 4) s m args below meth c Q cX11_behindUnit A g post)  : ∀ (x1 : Int32) (w : Wd) (H : Heap) (locs : List Loc) (ls : Array Slot), pX11_behindUnit_104 post x1 w → St tabM A s.heap g w H locs → lv_has ls 2 [(0, .ref (g.2.2 300)), (1, .int x1)] → W p l e (rk 4) s m args below meth c H locs 0 0 Q (F0 m 104 ls []) := by
  have hx := hC.1
  have hb := hC.2.1
  intro x1 w H locs ls hp hS hl
  unfold pX11_behindUnit_104 at hp
  refine lv_iload_n hx hb dX11_behindUnit_104 rfl (lv_at hl 1 rfl) ?_
  refine lv_if_le (tgt := 147) hx hb dX11_behindUnit_105 (by decide) (fun c_1 => ?_) (fun c_1 => ?_)
  · have hp := hp.1 c_1
    refine lv_aload_n hx hb dX11_behindUnit_147 rfl (lv_at hl 0 rfl) ?_
    refine lv_dup hx hb dX11_behindUnit_148 rfl ?_
    refine G_300_33 hC hS m567 dX11_behindUnit_149 ?_
    refine lv_iconst hx hb dX11_behindUnit_152 kI_1 ?_
    refine lv_isub hx hb dX11_behindUnit_153 ?_
    refine P_300_33 hC hS m567 dX11_behindUnit_154 (fun w_2 H locs ew_2 hS => ?_)
    have hp := hp w_2 ew_2
    refine lv_aload_n hx hb dX11_behindUnit_157 rfl (lv_at hl 0 rfl) ?_
    refine G_300_26 hC hS m271 dX11_behindUnit_158 ?_
    refine lv_aload_n hx hb dX11_behindUnit_161 rfl (lv_at hl 0 rfl) ?_
    refine G_300_33 hC hS m567 dX11_behindUnit_162 ?_
    refine La_327 hC hS hp.1 dX11_behindUnit_165 ?_
    have hp := hp.2
    refine lv_bipush hx hb dX11_behindUnit_166 kB_7 ?_
    refine lv_icmp_ne (tgt := 191) hx hb dX11_behindUnit_168 (by decide) (fun c_3 => ?_) (fun c_3 => ?_)
    · have hp := hp.1 c_3
      refine lv_iconst hx hb dX11_behindUnit_191 kI_0 ?_
      exact hR _ _ _ _ _ _ dX11_behindUnit_192 (by decide) hp hS
    · have hp := hp.2 c_3
      refine lv_aload_n hx hb dX11_behindUnit_171 rfl (lv_at hl 0 rfl) ?_
      refine lv_dup hx hb dX11_behindUnit_172 rfl ?_
      refine G_300_32 hC hS m568 dX11_behindUnit_173 ?_
      refine lv_iconst hx hb dX11_behindUnit_176 kI_1 ?_
      refine lv_isub hx hb dX11_behindUnit_177 ?_
      refine P_300_32 hC hS m568 dX11_behindUnit_178 (fun w_4 H locs ew_4 hS => ?_)
      have hp := hp w_4 ew_4
      refine lv_aload_n hx hb dX11_behindUnit_181 rfl (lv_at hl 0 rfl) ?_
      refine lv_aload_n hx hb dX11_behindUnit_182 rfl (lv_at hl 0 rfl) ?_
      refine lv_bipush hx hb dX11_behindUnit_183 kB_41 ?_
      refine q_cvI (As := [.int (41 : Int32)]) (rest := [.ref (g.2.2 300)]) hC hS hl.1 (rX11_isSignHere hp) cwX11_272 yvX11_isSignHere (rcv_300 hC hS) rfl rfl (Nat.le_of_ble_eq_true rfl) (rmk (by decide) (by decide)) dX11_behindUnit_185 (fun r_5 w_6 H locs hp hS => ?_)
      refine q_cvV (As := [.int r_5]) (rest := []) hC hS hl.1 (rX11_must hp) cwX11_275 yvX11_must (rcv_300 hC hS) rfl rfl (Nat.le_of_ble_eq_true rfl) (rmk (by decide) (by decide)) dX11_behindUnit_188 (fun w_7 H locs hp hS => ?_)
      refine lv_iconst hx hb dX11_behindUnit_191 kI_0 ?_
      exact hR _ _ _ _ _ _ dX11_behindUnit_192 (by decide) hp hS
  · have hp := hp.2 c_1
    refine lv_aload_n hx hb dX11_behindUnit_108 rfl (lv_at hl 0 rfl) ?_
    refine lv_iload_n hx hb dX11_behindUnit_109 rfl (lv_at hl 1 rfl) ?_
    refine lv_iload_n hx hb dX11_behindUnit_110 rfl (lv_at hl 1 rfl) ?_
    refine lv_iconst hx hb dX11_behindUnit_111 kI_2 ?_
    refine lv_icmp_ne (tgt := 120) hx hb dX11_behindUnit_112 (by decide) (fun c_8 => ?_) (fun c_8 => ?_)
    · have hp := hp.1 c_8
      refine lv_iload_n hx hb dX11_behindUnit_120 rfl (lv_at hl 1 rfl) ?_
      refine lv_iconst hx hb dX11_behindUnit_121 kI_1 ?_
      refine lv_icmp_ne (tgt := 130) hx hb dX11_behindUnit_122 (by decide) (fun c_9 => ?_) (fun c_9 => ?_)
      · have hp := hp.1 c_9
        refine lv_aload_n hx hb dX11_behindUnit_130 rfl (lv_at hl 0 rfl) ?_
        refine lv_aload_n hx hb dX11_behindUnit_131 rfl (lv_at hl 0 rfl) ?_
        refine G_300_6 hC hS m478 dX11_behindUnit_132 ?_
        refine q_cvI (As := [.int (w.1 300 6)]) (rest := [.int x1, .ref (g.2.2 300)]) hC hS hl.1 (rX11_sign hp) cwX11_199 yvX11_sign (rcv_300 hC hS) rfl rfl (Nat.le_of_ble_eq_true rfl) (rmk (by decide) (by decide)) dX11_behindUnit_135 (fun r_10 w_11 H locs hp hS => ?_)
        refine q_cvV (As := [.int x1, .int r_10]) (rest := []) hC hS hl.1 (rX11_pushE hp) cwX11_299 yvX11_pushE (rcv_300 hC hS) rfl rfl (Nat.le_of_ble_eq_true rfl) (rmk (by decide) (by decide)) dX11_behindUnit_138 (fun w_12 H locs hp hS => ?_)
        refine lv_aload_n hx hb dX11_behindUnit_141 rfl (lv_at hl 0 rfl) ?_
        refine q_cvV (As := []) (rest := []) hC hS hl.1 (rX11_goOn hp) cwX11_235 yvX11_goOn (rcv_300 hC hS) rfl rfl (Nat.le_of_ble_eq_true rfl) (rmk (by decide) (by decide)) dX11_behindUnit_142 (fun w_13 H locs hp hS => ?_)
        refine lv_iconst hx hb dX11_behindUnit_145 kI_1 ?_
        exact hR _ _ _ _ _ _ dX11_behindUnit_146 (by decide) hp hS
      · have hp := hp.2 c_9
        refine lv_bipush hx hb dX11_behindUnit_125 kB_124 ?_
        refine lv_goto (tgt := 138) hx hb dX11_behindUnit_127 (by decide) ?_
        refine q_cvV (As := [.int x1, .int (124 : Int32)]) (rest := []) hC hS hl.1 (rX11_pushE hp) cwX11_299 yvX11_pushE (rcv_300 hC hS) rfl rfl (Nat.le_of_ble_eq_true rfl) (rmk (by decide) (by decide)) dX11_behindUnit_138 (fun w_14 H locs hp hS => ?_)
        refine lv_aload_n hx hb dX11_behindUnit_141 rfl (lv_at hl 0 rfl) ?_
        refine q_cvV (As := []) (rest := []) hC hS hl.1 (rX11_goOn hp) cwX11_235 yvX11_goOn (rcv_300 hC hS) rfl rfl (Nat.le_of_ble_eq_true rfl) (rmk (by decide) (by decide)) dX11_behindUnit_142 (fun w_15 H locs hp hS => ?_)
        refine lv_iconst hx hb dX11_behindUnit_145 kI_1 ?_
        exact hR _ _ _ _ _ _ dX11_behindUnit_146 (by decide) hp hS
    · have hp := hp.2 c_8
      refine lv_bipush hx hb dX11_behindUnit_115 kB_38 ?_
      refine lv_goto (tgt := 138) hx hb dX11_behindUnit_117 (by decide) ?_
      refine q_cvV (As := [.int x1, .int (38 : Int32)]) (rest := []) hC hS hl.1 (rX11_pushE hp) cwX11_299 yvX11_pushE (rcv_300 hC hS) rfl rfl (Nat.le_of_ble_eq_true rfl) (rmk (by decide) (by decide)) dX11_behindUnit_138 (fun w_16 H locs hp hS => ?_)
      refine lv_aload_n hx hb dX11_behindUnit_141 rfl (lv_at hl 0 rfl) ?_
      refine q_cvV (As := []) (rest := []) hC hS hl.1 (rX11_goOn hp) cwX11_235 yvX11_goOn (rcv_300 hC hS) rfl rfl (Nat.le_of_ble_eq_true rfl) (rmk (by decide) (by decide)) dX11_behindUnit_142 (fun w_17 H locs hp hS => ?_)
      refine lv_iconst hx hb dX11_behindUnit_145 kI_1 ?_
      exact hR _ _ _ _ _ _ dX11_behindUnit_146 (by decide) hp hS
set_option maxHeartbeats 4000000 in
set_option maxRecDepth 100000 in
theorem bX11_behindUnit_87 {p : Program} {l : Launch} {e : Env} {s : State} {m : MethodId} {args : Array Value} {below : List Frame} {meth : Method} {c : Code} {Q : State → Prop} {A : Nat → Prop} {g : Gw} {post : Int32 → Wd → Prop}  (hC : Cx p s m args c cX11_behindUnit RX11 2 g) (hR : RtZ tabM p l e (rk 4) s m args below meth c Q cX11_behindUnit A g post)  {k23 : Int32 → Wd → Prop} (hk23 : ∀ (x1 : Int32) (w : Wd) (H : Heap) (locs : List Loc) (ls : Array Slot), k23 x1 w → St tabM A s.heap g w H locs → lv_has ls 2 [(0, .ref (g.2.2 300)), (1, .int x1)] → W p l e (rk 4) s m args below meth c H locs 0 0 Q (F0 m 23 ls [])) : ∀ (x1 : Int32) (w : Wd) (H : Heap) (locs : List Loc) (ls : Array Slot), pX11_behindUnit_87 k23 post x1 w → St tabM A s.heap g w H locs → lv_has ls 2 [(0, .ref (g.2.2 300)), (1, .int x1)] → W p l e (rk 4) s m args below meth c H locs 0 0 Q (F0 m 87 ls []) := by
  have hx := hC.1
  have hb := hC.2.1
  intro x1 w H locs ls hp hS hl
  unfold pX11_behindUnit_87 at hp
  refine lv_aload_n hx hb dX11_behindUnit_87 rfl (lv_at hl 0 rfl) ?_
  refine lv_aload_n hx hb dX11_behindUnit_88 rfl (lv_at hl 0 rfl) ?_
  refine G_300_27 hC hS m272 dX11_behindUnit_89 ?_
  refine lv_aload_n hx hb dX11_behindUnit_92 rfl (lv_at hl 0 rfl) ?_
  refine G_300_33 hC hS m567 dX11_behindUnit_93 ?_
  refine La_328 hC hS hp.1 dX11_behindUnit_96 ?_
  have hp := hp.2
  refine lv_iconst hx hb dX11_behindUnit_97 kI_0 ?_
  refine q_cvV (As := [.int (w.2.1 328 (w.1 300 33).toNatClampNeg), .int (0 : Int32)]) (rest := []) hC hS hl.1 (rX11_emit hp) cwX11_311 yvX11_emit (rcv_300 hC hS) rfl rfl (Nat.le_of_ble_eq_true rfl) (rmk (by decide) (by decide)) dX11_behindUnit_98 (fun w_1 H locs hp hS => ?_)
  refine lv_goto (tgt := 23) hx hb dX11_behindUnit_101 (by decide) ?_
  exact hk23 x1 w_1 _ _ _ hp hS (lv_sub hl [0, 1] rfl)
set_option maxHeartbeats 4000000 in
set_option maxRecDepth 100000 in
theorem bX11_behindUnit_23 {p : Program} {l : Launch} {e : Env} {s : State} {m : MethodId} {args : Array Value} {below : List Frame} {meth : Method} {c : Code} {Q : State → Prop} {A : Nat → Prop} {g : Gw} {post : Int32 → Wd → Prop}  (hC : Cx p s m args c cX11_behindUnit RX11 2 g) (hR : RtZ tabM p l e (rk 4) s m args below meth c Q cX11_behindUnit A g post)  : ∀ (n : Nat) (x1 : Int32) (w : Wd) (H : Heap) (locs : List Loc) (ls : Array Slot), pX11_behindUnit_23 post n x1 w → St tabM A s.heap g w H locs → lv_has ls 2 [(0, .ref (g.2.2 300)), (1, .int x1)] → W p l e (rk 4) s m args below meth c H locs 0 0 Q (F0 m 23 ls []) := by
  have hx := hC.1
  have hb := hC.2.1
  intro n
  induction n with
  | zero =>
    intro x1 w H locs ls hp hS hl
    exact False.elim hp
  | succ n ih =>
    intro x1 w H locs ls hp hS hl
    unfold pX11_behindUnit_23 at hp
    refine lv_aload_n hx hb dX11_behindUnit_23 rfl (lv_at hl 0 rfl) ?_
    refine G_300_26 hC hS m271 dX11_behindUnit_24 ?_
    refine lv_aload_n hx hb dX11_behindUnit_27 rfl (lv_at hl 0 rfl) ?_
    refine G_300_33 hC hS m567 dX11_behindUnit_28 ?_
    refine lv_iconst hx hb dX11_behindUnit_31 kI_1 ?_
    refine lv_isub hx hb dX11_behindUnit_32 ?_
    refine La_327 hC hS hp.1 dX11_behindUnit_33 ?_
    have hp := hp.2
    refine lv_bipush hx hb dX11_behindUnit_34 kB_6 ?_
    refine lv_icmp_gt (tgt := 104) hx hb dX11_behindUnit_36 (by decide) (fun c_1 => ?_) (fun c_1 => ?_)
    · have hp := hp.1 c_1
      exact bX11_behindUnit_104 hC hR x1 w _ _ _ hp hS (lv_sub hl [0, 1] rfl)
    · have hp := hp.2 c_1
      refine lv_aload_n hx hb dX11_behindUnit_39 rfl (lv_at hl 0 rfl) ?_
      refine G_300_26 hC hS m271 dX11_behindUnit_40 ?_
      refine lv_aload_n hx hb dX11_behindUnit_43 rfl (lv_at hl 0 rfl) ?_
      refine G_300_33 hC hS m567 dX11_behindUnit_44 ?_
      refine lv_iconst hx hb dX11_behindUnit_47 kI_1 ?_
      refine lv_isub hx hb dX11_behindUnit_48 ?_
      refine La_327 hC hS hp.1 dX11_behindUnit_49 ?_
      have hp := hp.2
      refine lv_iload_n hx hb dX11_behindUnit_50 rfl (lv_at hl 1 rfl) ?_
      refine lv_icmp_lt (tgt := 104) hx hb dX11_behindUnit_51 (by decide) (fun c_2 => ?_) (fun c_2 => ?_)
      · have hp := hp.1 c_2
        exact bX11_behindUnit_104 hC hR x1 w _ _ _ hp hS (lv_sub hl [0, 1] rfl)
      · have hp := hp.2 c_2
        refine lv_aload_n hx hb dX11_behindUnit_54 rfl (lv_at hl 0 rfl) ?_
        refine lv_dup hx hb dX11_behindUnit_55 rfl ?_
        refine G_300_33 hC hS m567 dX11_behindUnit_56 ?_
        refine lv_iconst hx hb dX11_behindUnit_59 kI_1 ?_
        refine lv_isub hx hb dX11_behindUnit_60 ?_
        refine P_300_33 hC hS m567 dX11_behindUnit_61 (fun w_3 H locs ew_3 hS => ?_)
        have hp := hp w_3 ew_3
        refine lv_aload_n hx hb dX11_behindUnit_64 rfl (lv_at hl 0 rfl) ?_
        refine G_300_26 hC hS m271 dX11_behindUnit_65 ?_
        refine lv_aload_n hx hb dX11_behindUnit_68 rfl (lv_at hl 0 rfl) ?_
        refine G_300_33 hC hS m567 dX11_behindUnit_69 ?_
        refine La_327 hC hS hp.1 dX11_behindUnit_72 ?_
        have hp := hp.2
        refine lv_iconst hx hb dX11_behindUnit_73 kI_3 ?_
        refine lv_icmp_ne (tgt := 87) hx hb dX11_behindUnit_74 (by decide) (fun c_4 => ?_) (fun c_4 => ?_)
        · have hp := hp.1 c_4
          exact bX11_behindUnit_87 hC hR ih x1 w_3 _ _ _ hp hS (lv_sub hl [0, 1] rfl)
        · have hp := hp.2 c_4
          refine lv_aload_n hx hb dX11_behindUnit_77 rfl (lv_at hl 0 rfl) ?_
          refine lv_dup hx hb dX11_behindUnit_78 rfl ?_
          refine G_300_32 hC hS m568 dX11_behindUnit_79 ?_
          refine lv_iconst hx hb dX11_behindUnit_82 kI_1 ?_
          refine lv_isub hx hb dX11_behindUnit_83 ?_
          refine P_300_32 hC hS m568 dX11_behindUnit_84 (fun w_5 H locs ew_5 hS => ?_)
          have hp := hp w_5 ew_5
          exact bX11_behindUnit_87 hC hR ih x1 w_5 _ _ _ hp hS (lv_sub hl [0, 1] rfl)
set_option maxHeartbeats 4000000 in
set_option maxRecDepth 100000 in
theorem rX11_behindUnit {l : Launch} {g : Gw} {w : Wd} {post : Int32 → Wd → Prop}    (hp : pX11_behindUnit post  w) : MtI tabM l yX11_behindUnit cX11_behindUnit 2 (some .boolean) 4 g w [.ref (g.2.2 300)] post := by
  refine q_entZ tabM_nd (by decide) rfl (Nat.le_of_ble_eq_true rfl) ?_
  intro p e s m args below meth c A Q ls hC hR hS hl
  have hx := hC.1
  have hb := hC.2.1
  have hl : lv_has ls 2 [(0, .ref (g.2.2 300))] := hl
  unfold pX11_behindUnit at hp
  refine lv_aload_n hx hb dX11_behindUnit_0 rfl (lv_at hl 0 rfl) ?_
  refine q_cvI (As := []) (rest := []) hC hS hl.1 (rX11_rankHere hp) cwX11_314 yvX11_rankHere (rcv_300 hC hS) rfl rfl (Nat.le_of_ble_eq_true rfl) (rmk (by decide) (by decide)) dX11_behindUnit_1 (fun r_1 w_2 H locs hp hS => ?_)
  refine lv_istore_n (lv' := [(1, .int r_1), (0, .ref (g.2.2 300))]) hx hb dX11_behindUnit_4 rfl hl (by decide) rfl (fun ls hl => ?_)
  refine lv_iload_n hx hb dX11_behindUnit_5 rfl (lv_at hl 0 rfl) ?_
  refine lv_iconst hx hb dX11_behindUnit_6 kI_4 ?_
  refine lv_icmp_ne (tgt := 23) hx hb dX11_behindUnit_7 (by decide) (fun c_3 => ?_) (fun c_3 => ?_)
  · have hp := hp.1 c_3
    obtain ⟨n9, hp⟩ := hp
    exact bX11_behindUnit_23 hC hR n9 r_1 w_2 _ _ _ hp hS (lv_sub hl [1, 0] rfl)
  · have hp := hp.2 c_3
    refine lv_aload_n hx hb dX11_behindUnit_10 rfl (lv_at hl 1 rfl) ?_
    refine q_cvI (As := []) (rest := []) hC hS hl.1 (rX11_isCompared hp) cwX11_317 yvX11_isCompared (rcv_300 hC hS) rfl rfl (Nat.le_of_ble_eq_true rfl) (rmk (by decide) (by decide)) dX11_behindUnit_11 (fun r_4 w_5 H locs hp hS => ?_)
    refine lv_if_eq (tgt := 23) hx hb dX11_behindUnit_14 (by decide) (fun c_6 => ?_) (fun c_6 => ?_)
    · have hp := hp.1 c_6
      obtain ⟨n9, hp⟩ := hp
      exact bX11_behindUnit_23 hC hR n9 r_1 w_5 _ _ _ hp hS (lv_sub hl [1, 0] rfl)
    · have hp := hp.2 c_6
      refine lv_aload_n hx hb dX11_behindUnit_17 rfl (lv_at hl 1 rfl) ?_
      refine q_cvV (As := []) (rest := []) hC hS hl.1 (rX11_misplaced hp) cwX11_238 yvX11_misplaced (rcv_300 hC hS) rfl rfl (Nat.le_of_ble_eq_true rfl) (rmk (by decide) (by decide)) dX11_behindUnit_18 (fun w_7 H locs hp hS => ?_)
      refine lv_iconst hx hb dX11_behindUnit_21 kI_1 ?_
      exact hR _ _ _ _ _ _ dX11_behindUnit_22 (by decide) hp hS
def pX11_wordHere (post : Int32 → Wd → Prop)  (w : Wd) : Prop := pX11_isWord (fun r_1 w_2 => (r_1 = 0 → (pX11_isWord (fun r_4 w_5 => (r_4 = 0 → (pX11_isWord (fun r_7 w_8 => (r_7 = 0 → (pX11_isWord (fun r_10 w_11 => (r_10 = 0 → (pX11_isWord (fun r_13 w_14 => (r_13 = 0 → (pX11_isWord (fun r_16 w_17 => (r_16 = 0 → (pX11_isWord (fun r_19 w_20 => (r_19 = 0 → (pX11_isWord (fun r_22 w_23 => (r_22 = 0 → (post (0 : Int32) w_23)) ∧ (¬ r_22 = 0 → (post (100 : Int32) w_23))) (1685217655 : Int64) w_20)) ∧ (¬ r_19 = 0 → (post (116 : Int32) w_20))) (1751474548 : Int64) w_17)) ∧ (¬ r_16 = 0 → (post (106 : Int32) w_17))) (2036687218 : Int64) w_14)) ∧ (¬ r_13 = 0 → (post (121 : Int32) w_14))) (1835101817 : Int64) w_11)) ∧ (¬ r_10 = 0 → (post (114 : Int32) w_11))) (491394656372 : Int64) w_8)) ∧ (¬ r_7 = 0 → (post (108 : Int32) w_8))) (1818584692 : Int64) w_5)) ∧ (¬ r_4 = 0 → (post (104 : Int32) w_5))) (6840691 : Int64) w_2)) ∧ (¬ r_1 = 0 → (post (109 : Int32) w_2))) (1835102827 : Int64) w
set_option maxHeartbeats 4000000 in
set_option maxRecDepth 100000 in
theorem rX11_wordHere {l : Launch} {g : Gw} {w : Wd} {post : Int32 → Wd → Prop}    (hp : pX11_wordHere post  w) : MtI tabM l yX11_wordHere cX11_wordHere 1 (some .int) 2 g w [.ref (g.2.2 300)] post := by
  refine q_entI tabM_nd (by decide) rfl (Nat.le_of_ble_eq_true rfl) ?_
  intro p e s m args below meth c A Q ls hC hR hS hl
  have hx := hC.1
  have hb := hC.2.1
  have hl : lv_has ls 1 [(0, .ref (g.2.2 300))] := hl
  unfold pX11_wordHere at hp
  refine lv_aload_n hx hb dX11_wordHere_0 rfl (lv_at hl 0 rfl) ?_
  refine lv_ldc2 hx hb hC.2.2.2.1 (hC.2.2.2.2.1 _ m498) dX11_wordHere_1 ?_
  refine q_cvI (As := [.long (1835102827 : Int64)]) (rest := []) hC hS hl.1 (rX11_isWord hp) cwX11_256 yvX11_isWord (rcv_300 hC hS) rfl rfl (Nat.le_of_ble_eq_true rfl) (rmk (by decide) (by decide)) dX11_wordHere_4 (fun r_1 w_2 H locs hp hS => ?_)
  refine lv_if_eq (tgt := 13) hx hb dX11_wordHere_7 (by decide) (fun c_3 => ?_) (fun c_3 => ?_)
  · have hp := hp.1 c_3
    refine lv_aload_n hx hb dX11_wordHere_13 rfl (lv_at hl 0 rfl) ?_
    refine lv_ldc2 hx hb hC.2.2.2.1 (hC.2.2.2.2.1 _ m499) dX11_wordHere_14 ?_
    refine q_cvI (As := [.long (6840691 : Int64)]) (rest := []) hC hS hl.1 (rX11_isWord hp) cwX11_256 yvX11_isWord (rcv_300 hC hS) rfl rfl (Nat.le_of_ble_eq_true rfl) (rmk (by decide) (by decide)) dX11_wordHere_17 (fun r_4 w_5 H locs hp hS => ?_)
    refine lv_if_eq (tgt := 26) hx hb dX11_wordHere_20 (by decide) (fun c_6 => ?_) (fun c_6 => ?_)
    · have hp := hp.1 c_6
      refine lv_aload_n hx hb dX11_wordHere_26 rfl (lv_at hl 0 rfl) ?_
      refine lv_ldc2 hx hb hC.2.2.2.1 (hC.2.2.2.2.1 _ m500) dX11_wordHere_27 ?_
      refine q_cvI (As := [.long (1818584692 : Int64)]) (rest := []) hC hS hl.1 (rX11_isWord hp) cwX11_256 yvX11_isWord (rcv_300 hC hS) rfl rfl (Nat.le_of_ble_eq_true rfl) (rmk (by decide) (by decide)) dX11_wordHere_30 (fun r_7 w_8 H locs hp hS => ?_)
      refine lv_if_eq (tgt := 39) hx hb dX11_wordHere_33 (by decide) (fun c_9 => ?_) (fun c_9 => ?_)
      · have hp := hp.1 c_9
        refine lv_aload_n hx hb dX11_wordHere_39 rfl (lv_at hl 0 rfl) ?_
        refine lv_ldc2 hx hb hC.2.2.2.1 (hC.2.2.2.2.1 _ m501) dX11_wordHere_40 ?_
        refine q_cvI (As := [.long (491394656372 : Int64)]) (rest := []) hC hS hl.1 (rX11_isWord hp) cwX11_256 yvX11_isWord (rcv_300 hC hS) rfl rfl (Nat.le_of_ble_eq_true rfl) (rmk (by decide) (by decide)) dX11_wordHere_43 (fun r_10 w_11 H locs hp hS => ?_)
        refine lv_if_eq (tgt := 52) hx hb dX11_wordHere_46 (by decide) (fun c_12 => ?_) (fun c_12 => ?_)
        · have hp := hp.1 c_12
          refine lv_aload_n hx hb dX11_wordHere_52 rfl (lv_at hl 0 rfl) ?_
          refine lv_ldc2 hx hb hC.2.2.2.1 (hC.2.2.2.2.1 _ m502) dX11_wordHere_53 ?_
          refine q_cvI (As := [.long (1835101817 : Int64)]) (rest := []) hC hS hl.1 (rX11_isWord hp) cwX11_256 yvX11_isWord (rcv_300 hC hS) rfl rfl (Nat.le_of_ble_eq_true rfl) (rmk (by decide) (by decide)) dX11_wordHere_56 (fun r_13 w_14 H locs hp hS => ?_)
          refine lv_if_eq (tgt := 65) hx hb dX11_wordHere_59 (by decide) (fun c_15 => ?_) (fun c_15 => ?_)
          · have hp := hp.1 c_15
            refine lv_aload_n hx hb dX11_wordHere_65 rfl (lv_at hl 0 rfl) ?_
            refine lv_ldc2 hx hb hC.2.2.2.1 (hC.2.2.2.2.1 _ m503) dX11_wordHere_66 ?_
            refine q_cvI (As := [.long (2036687218 : Int64)]) (rest := []) hC hS hl.1 (rX11_isWord hp) cwX11_256 yvX11_isWord (rcv_300 hC hS) rfl rfl (Nat.le_of_ble_eq_true rfl) (rmk (by decide) (by decide)) dX11_wordHere_69 (fun r_16 w_17 H locs hp hS => ?_)
            refine lv_if_eq (tgt := 78) hx hb dX11_wordHere_72 (by decide) (fun c_18 => ?_) (fun c_18 => ?_)
            · have hp := hp.1 c_18
              refine lv_aload_n hx hb dX11_wordHere_78 rfl (lv_at hl 0 rfl) ?_
              refine lv_ldc2 hx hb hC.2.2.2.1 (hC.2.2.2.2.1 _ m504) dX11_wordHere_79 ?_
              refine q_cvI (As := [.long (1751474548 : Int64)]) (rest := []) hC hS hl.1 (rX11_isWord hp) cwX11_256 yvX11_isWord (rcv_300 hC hS) rfl rfl (Nat.le_of_ble_eq_true rfl) (rmk (by decide) (by decide)) dX11_wordHere_82 (fun r_19 w_20 H locs hp hS => ?_)
              refine lv_if_eq (tgt := 91) hx hb dX11_wordHere_85 (by decide) (fun c_21 => ?_) (fun c_21 => ?_)
              · have hp := hp.1 c_21
                refine lv_aload_n hx hb dX11_wordHere_91 rfl (lv_at hl 0 rfl) ?_
                refine lv_ldc2 hx hb hC.2.2.2.1 (hC.2.2.2.2.1 _ m497) dX11_wordHere_92 ?_
                refine q_cvI (As := [.long (1685217655 : Int64)]) (rest := []) hC hS hl.1 (rX11_isWord hp) cwX11_256 yvX11_isWord (rcv_300 hC hS) rfl rfl (Nat.le_of_ble_eq_true rfl) (rmk (by decide) (by decide)) dX11_wordHere_95 (fun r_22 w_23 H locs hp hS => ?_)
                refine lv_if_eq (tgt := 106) hx hb dX11_wordHere_98 (by decide) (fun c_24 => ?_) (fun c_24 => ?_)
                · have hp := hp.1 c_24
                  refine lv_iconst hx hb dX11_wordHere_106 kI_0 ?_
                  exact hR _ _ _ _ _ _ dX11_wordHere_107 hp hS
                · have hp := hp.2 c_24
                  refine lv_bipush hx hb dX11_wordHere_101 kB_100 ?_
                  refine lv_goto (tgt := 107) hx hb dX11_wordHere_103 (by decide) ?_
                  exact hR _ _ _ _ _ _ dX11_wordHere_107 hp hS
              · have hp := hp.2 c_21
                refine lv_bipush hx hb dX11_wordHere_88 kB_116 ?_
                exact hR _ _ _ _ _ _ dX11_wordHere_90 hp hS
            · have hp := hp.2 c_18
              refine lv_bipush hx hb dX11_wordHere_75 kB_106 ?_
              exact hR _ _ _ _ _ _ dX11_wordHere_77 hp hS
          · have hp := hp.2 c_15
            refine lv_bipush hx hb dX11_wordHere_62 kB_121 ?_
            exact hR _ _ _ _ _ _ dX11_wordHere_64 hp hS
        · have hp := hp.2 c_12
          refine lv_bipush hx hb dX11_wordHere_49 kB_114 ?_
          exact hR _ _ _ _ _ _ dX11_wordHere_51 hp hS
      · have hp := hp.2 c_9
        refine lv_bipush hx hb dX11_wordHere_36 kB_108 ?_
        exact hR _ _ _ _ _ _ dX11_wordHere_38 hp hS
    · have hp := hp.2 c_6
      refine lv_bipush hx hb dX11_wordHere_23 kB_104 ?_
      exact hR _ _ _ _ _ _ dX11_wordHere_25 hp hS
  · have hp := hp.2 c_3
    refine lv_bipush hx hb dX11_wordHere_10 kB_109 ?_
    exact hR _ _ _ _ _ _ dX11_wordHere_12 hp hS
def pX11_unit_233 (post : Int32 → Wd → Prop) (t1 : Int32) (w : Wd) : Prop := pX11_pushE (fun w_1 => ∀ w_2, w_2 = sI w_1 300 32 ((w_1.1 300 32) + (1 : Int32)) → post (1 : Int32) w_2) t1 (126 : Int32) w
def pX11_unit_222 (post : Int32 → Wd → Prop) (x2 : Int32) (w : Wd) : Prop := (x2 = 0 → (pX11_unit_233 post (7 : Int32) w)) ∧ (¬ x2 = 0 → (pX11_unit_233 post (3 : Int32) w))
def pX11_unit_208 (post : Int32 → Wd → Prop) (x2 : Int32) (x3 : Int32) (x4 : Int32) (t0 : Int32) (w : Wd) : Prop := pX11_goOn (fun w_1 => (¬ x2 = 0 → (pX11_unit_222 post x2 w_1)) ∧ (x2 = 0 → ((x3 = 0 → ((¬ x4 = 0 → (pX11_emit (fun w_5 => post (0 : Int32) w_5) x4 t0 w_1)) ∧ (x4 = 0 → (pX11_emit (fun w_6 => post (0 : Int32) w_6) (110 : Int32) t0 w_1)))) ∧ (¬ x3 = 0 → (pX11_unit_222 post x2 w_1))))) w
def pX11_unit_191 (post : Int32 → Wd → Prop) (x2 : Int32) (x3 : Int32) (x4 : Int32) (t1 : Int32) (t2 : Int32) (w : Wd) : Prop := ∀ w_1, w_1 = sI w 300 34 (t1 + t2) → (¬ x4 = 0 → (pX11_unit_208 post x2 x3 x4 (0 : Int32) w_1)) ∧ (x4 = 0 → (pX11_unit_208 post x2 x3 x4 (w_1.1 300 9) w_1))
def pX11_unit_175 (post : Int32 → Wd → Prop) (x2 : Int32) (x3 : Int32) (x4 : Int32) (t1 : Int32) (t2 : Int32) (t3 : Int32) (w : Wd) : Prop := vp_in t1 2 ∧ ∀ w_1, w_1 = sA w 315 t1.toNatClampNeg (t2 + t3) → (x2 = 0 → (pX11_unit_191 post x2 x3 x4 (w_1.1 300 34) (1 : Int32) w_1)) ∧ (¬ x2 = 0 → (pX11_unit_191 post x2 x3 x4 (w_1.1 300 34) (0 : Int32) w_1))
def pX11_unit_147 (post : Int32 → Wd → Prop) (x2 : Int32) (x3 : Int32) (x4 : Int32) (w : Wd) : Prop := pX11_isGood (fun r_1 w_2 => (¬ r_1 = 0 → (vp_in (w_2.1 300 30) 2 ∧ (x2 = 0 → (pX11_unit_175 post x2 x3 x4 (w_2.1 300 30) (w_2.2.1 315 (w_2.1 300 30).toNatClampNeg) (1 : Int32) w_2)) ∧ (¬ x2 = 0 → (pX11_unit_175 post x2 x3 x4 (w_2.1 300 30) (w_2.2.1 315 (w_2.1 300 30).toNatClampNeg) (0 : Int32) w_2)))) ∧ (r_1 = 0 → (post (1 : Int32) w_2))) w
def pX11_unit_143 (post : Int32 → Wd → Prop) (x2 : Int32) (x3 : Int32) (x4 : Int32) (w : Wd) : Prop := pX11_misplaced (fun w_1 => pX11_unit_147 post x2 x3 x4 w_1) w
def pX11_unit_134 (post : Int32 → Wd → Prop) (x2 : Int32) (x3 : Int32) (x4 : Int32) (w : Wd) : Prop := (¬ (w.1 300 32) = (7 : Int32) → (pX11_unit_147 post x2 x3 x4 w)) ∧ ((w.1 300 32) = (7 : Int32) → (pX11_unit_143 post x2 x3 x4 w))
def pX11_unit_126 (post : Int32 → Wd → Prop) (x2 : Int32) (x3 : Int32) (x4 : Int32) (w : Wd) : Prop := (¬ x2 = 0 → (pX11_unit_134 post x2 x3 x4 w)) ∧ (x2 = 0 → ((x3 = 0 → (pX11_unit_147 post x2 x3 x4 w)) ∧ (¬ x3 = 0 → (pX11_unit_134 post x2 x3 x4 w))))
def pX11_unit_121 (post : Int32 → Wd → Prop) (x2 : Int32) (x3 : Int32) (x4 : Int32) (x5 : Int32) (w : Wd) : Prop := (¬ x5 = 0 → (pX11_unit_143 post x2 x3 x4 w)) ∧ (x5 = 0 → (pX11_unit_126 post x2 x3 x4 w))
def pX11_unit_98 (post : Int32 → Wd → Prop) (x2 : Int32) (x3 : Int32) (x4 : Int32) (t0 : Int32) (w : Wd) : Prop := (¬ x2 = 0 → (pX11_unit_126 post x2 x3 x4 w)) ∧ (x2 = 0 → ((¬ x4 = 0 → (pX11_unit_121 post x2 x3 x4 t0 w)) ∧ (x4 = 0 → (((w.1 300 8) = (4 : Int32) → (pX11_unit_121 post x2 x3 x4 t0 w)) ∧ (¬ (w.1 300 8) = (4 : Int32) → ((x3 = 0 → (pX11_unit_143 post x2 x3 x4 w)) ∧ (¬ x3 = 0 → (pX11_unit_121 post x2 x3 x4 t0 w))))))))
def pX11_unit_93 (post : Int32 → Wd → Prop) (x2 : Int32) (x3 : Int32) (x4 : Int32) (w : Wd) : Prop := pX11_unit_98 post x2 x3 x4 (1 : Int32) w
def pX11_unit_56 (post : Int32 → Wd → Prop) (t0 : Int32) (w : Wd) : Prop := pX11_isSignHere (fun r_1 w_2 => pX11_wordHere (fun r_3 w_4 => vp_in (w_4.1 300 30) 2 ∧ ((w_4.2.1 315 (w_4.1 300 30).toNatClampNeg) = (90 : Int32) → (pX11_unit_93 post t0 r_1 r_3 w_4)) ∧ (¬ (w_4.2.1 315 (w_4.1 300 30).toNatClampNeg) = (90 : Int32) → ((¬ (w_4.1 300 34) = (30 : Int32) → (pX11_unit_98 post t0 r_1 r_3 (0 : Int32) w_4)) ∧ ((w_4.1 300 34) = (30 : Int32) → (pX11_unit_93 post t0 r_1 r_3 w_4))))) w_2) (40 : Int32) w
def pX11_unit_55 (post : Int32 → Wd → Prop)  (w : Wd) : Prop := pX11_unit_56 post (0 : Int32) w
def pX11_unit_36 (post : Int32 → Wd → Prop) (t0 : Int32) (w : Wd) : Prop := (t0 = 0 → (pX11_unit_55 post  w)) ∧ (¬ t0 = 0 → (pX11_isWord (fun r_2 w_3 => (r_2 = 0 → (pX11_unit_55 post  w_3)) ∧ (¬ r_2 = 0 → (pX11_unit_56 post (1 : Int32) w_3))) (7237492 : Int64) w))
def pX11_unit_31 (post : Int32 → Wd → Prop)  (w : Wd) : Prop := pX11_unit_36 post (1 : Int32) w
def pX11_unit (post : Int32 → Wd → Prop)  (w : Wd) : Prop := vp_in ((w.1 300 33) - (1 : Int32)) 90 ∧ ((w.2.1 327 ((w.1 300 33) - (1 : Int32)).toNatClampNeg) ≤ (3 : Int32) → (pX11_unit_31 post  w)) ∧ (¬ (w.2.1 327 ((w.1 300 33) - (1 : Int32)).toNatClampNeg) ≤ (3 : Int32) → (vp_in ((w.1 300 33) - (1 : Int32)) 90 ∧ ((w.2.1 327 ((w.1 300 33) - (1 : Int32)).toNatClampNeg) < (7 : Int32) → (pX11_unit_36 post (0 : Int32) w)) ∧ (¬ (w.2.1 327 ((w.1 300 33) - (1 : Int32)).toNatClampNeg) < (7 : Int32) → (pX11_unit_31 post  w))))
set_option maxHeartbeats 4000000 in
set_option maxRecDepth 100000 in
theorem bX11_unit_233 {p : Program} {l : Launch} {e : Env} {s : State} {m : MethodId} {args : Array Value} {below : List Frame} {meth : Method} {c : Code} {Q : State → Prop} {A : Nat → Prop} {g : Gw} {post : Int32 → Wd → Prop}  (hC : Cx p s m args c cX11_unit RX11 7 g) (hR : RtZ tabM p l e (rk 3) s m args below meth c Q cX11_unit A g post)  : ∀ (t1 : Int32) (w : Wd) (H : Heap) (locs : List Loc) (ls : Array Slot), pX11_unit_233 post t1 w → St tabM A s.heap g w H locs → lv_has ls 7 [(0, .ref (g.2.2 300))] → W p l e (rk 3) s m args below meth c H locs 0 0 Q (F0 m 233 ls [.int t1, .ref (g.2.2 300)]) := by
  have hx := hC.1
  have hb := hC.2.1
  intro t1 w H locs ls hp hS hl
  unfold pX11_unit_233 at hp
  refine lv_bipush hx hb dX11_unit_233 kB_126 ?_
  refine q_cvV (As := [.int t1, .int (126 : Int32)]) (rest := []) hC hS hl.1 (rX11_pushE hp) cwX11_299 yvX11_pushE (rcv_300 hC hS) rfl rfl (Nat.le_of_ble_eq_true rfl) (rmk (by decide) (by decide)) dX11_unit_235 (fun w_1 H locs hp hS => ?_)
  refine lv_aload_n hx hb dX11_unit_238 rfl (lv_at hl 0 rfl) ?_
  refine lv_dup hx hb dX11_unit_239 rfl ?_
  refine G_300_32 hC hS m568 dX11_unit_240 ?_
  refine lv_iconst hx hb dX11_unit_243 kI_1 ?_
  refine lv_iadd hx hb dX11_unit_244 ?_
  refine P_300_32 hC hS m568 dX11_unit_245 (fun w_2 H locs ew_2 hS => ?_)
  have hp := hp w_2 ew_2
  refine lv_iconst hx hb dX11_unit_248 kI_1 ?_
  exact hR _ _ _ _ _ _ dX11_unit_249 (by decide) hp hS
set_option maxHeartbeats 4000000 in
set_option maxRecDepth 100000 in
theorem bX11_unit_222 {p : Program} {l : Launch} {e : Env} {s : State} {m : MethodId} {args : Array Value} {below : List Frame} {meth : Method} {c : Code} {Q : State → Prop} {A : Nat → Prop} {g : Gw} {post : Int32 → Wd → Prop}  (hC : Cx p s m args c cX11_unit RX11 7 g) (hR : RtZ tabM p l e (rk 3) s m args below meth c Q cX11_unit A g post)  : ∀ (x2 : Int32) (w : Wd) (H : Heap) (locs : List Loc) (ls : Array Slot), pX11_unit_222 post x2 w → St tabM A s.heap g w H locs → lv_has ls 7 [(0, .ref (g.2.2 300)), (2, .int x2)] → W p l e (rk 3) s m args below meth c H locs 0 0 Q (F0 m 222 ls []) := by
  have hx := hC.1
  have hb := hC.2.1
  intro x2 w H locs ls hp hS hl
  unfold pX11_unit_222 at hp
  refine lv_aload_n hx hb dX11_unit_222 rfl (lv_at hl 0 rfl) ?_
  refine lv_iload_n hx hb dX11_unit_223 rfl (lv_at hl 1 rfl) ?_
  refine lv_if_eq (tgt := 231) hx hb dX11_unit_224 (by decide) (fun c_1 => ?_) (fun c_1 => ?_)
  · have hp := hp.1 c_1
    refine lv_bipush hx hb dX11_unit_231 kB_7 ?_
    exact bX11_unit_233 hC hR (7 : Int32) w _ _ _ hp hS (lv_sub hl [0] rfl)
  · have hp := hp.2 c_1
    refine lv_iconst hx hb dX11_unit_227 kI_3 ?_
    refine lv_goto (tgt := 233) hx hb dX11_unit_228 (by decide) ?_
    exact bX11_unit_233 hC hR (3 : Int32) w _ _ _ hp hS (lv_sub hl [0] rfl)
set_option maxHeartbeats 4000000 in
set_option maxRecDepth 100000 in
theorem bX11_unit_208 {p : Program} {l : Launch} {e : Env} {s : State} {m : MethodId} {args : Array Value} {below : List Frame} {meth : Method} {c : Code} {Q : State → Prop} {A : Nat → Prop} {g : Gw} {post : Int32 → Wd → Prop}  (hC : Cx p s m args c cX11_unit RX11 7 g) (hR : RtZ tabM p l e (rk 3) s m args below meth c Q cX11_unit A g post)  : ∀ (x2 : Int32) (x3 : Int32) (x4 : Int32) (t0 : Int32) (w : Wd) (H : Heap) (locs : List Loc) (ls : Array Slot), pX11_unit_208 post x2 x3 x4 t0 w → St tabM A s.heap g w H locs → lv_has ls 7 [(0, .ref (g.2.2 300)), (2, .int x2), (3, .int x3), (4, .int x4)] → W p l e (rk 3) s m args below meth c H locs 0 0 Q (F0 m 208 ls [.int t0]) := by
  have hx := hC.1
  have hb := hC.2.1
  intro x2 x3 x4 t0 w H locs ls hp hS hl
  unfold pX11_unit_208 at hp
  refine lv_istore (lv' := [(6, .int t0), (0, .ref (g.2.2 300)), (2, .int x2), (3, .int x3), (4, .int x4)]) hx hb dX11_unit_208 hl (by decide) rfl (fun ls hl => ?_)
  refine lv_aload_n hx hb dX11_unit_210 rfl (lv_at hl 1 rfl) ?_
  refine q_cvV (As := []) (rest := []) hC hS hl.1 (rX11_goOn hp) cwX11_235 yvX11_goOn (rcv_300 hC hS) rfl rfl (Nat.le_of_ble_eq_true rfl) (rmk (by decide) (by decide)) dX11_unit_211 (fun w_1 H locs hp hS => ?_)
  refine lv_iload_n hx hb dX11_unit_214 rfl (lv_at hl 2 rfl) ?_
  refine lv_if_ne (tgt := 222) hx hb dX11_unit_215 (by decide) (fun c_2 => ?_) (fun c_2 => ?_)
  · have hp := hp.1 c_2
    exact bX11_unit_222 hC hR x2 w_1 _ _ _ hp hS (lv_sub hl [1, 2] rfl)
  · have hp := hp.2 c_2
    refine lv_iload_n hx hb dX11_unit_218 rfl (lv_at hl 3 rfl) ?_
    refine lv_if_eq (tgt := 250) hx hb dX11_unit_219 (by decide) (fun c_3 => ?_) (fun c_3 => ?_)
    · have hp := hp.1 c_3
      refine lv_aload_n hx hb dX11_unit_250 rfl (lv_at hl 1 rfl) ?_
      refine lv_iload hx hb dX11_unit_251 (lv_at hl 4 rfl) ?_
      refine lv_if_ne (tgt := 261) hx hb dX11_unit_253 (by decide) (fun c_4 => ?_) (fun c_4 => ?_)
      · have hp := hp.1 c_4
        refine lv_iload hx hb dX11_unit_261 (lv_at hl 4 rfl) ?_
        refine lv_iload hx hb dX11_unit_263 (lv_at hl 0 rfl) ?_
        refine q_cvV (As := [.int x4, .int t0]) (rest := []) hC hS hl.1 (rX11_emit hp) cwX11_311 yvX11_emit (rcv_300 hC hS) rfl rfl (Nat.le_of_ble_eq_true rfl) (rmk (by decide) (by decide)) dX11_unit_265 (fun w_5 H locs hp hS => ?_)
        refine lv_iconst hx hb dX11_unit_268 kI_0 ?_
        exact hR _ _ _ _ _ _ dX11_unit_269 (by decide) hp hS
      · have hp := hp.2 c_4
        refine lv_bipush hx hb dX11_unit_256 kB_110 ?_
        refine lv_goto (tgt := 263) hx hb dX11_unit_258 (by decide) ?_
        refine lv_iload hx hb dX11_unit_263 (lv_at hl 0 rfl) ?_
        refine q_cvV (As := [.int (110 : Int32), .int t0]) (rest := []) hC hS hl.1 (rX11_emit hp) cwX11_311 yvX11_emit (rcv_300 hC hS) rfl rfl (Nat.le_of_ble_eq_true rfl) (rmk (by decide) (by decide)) dX11_unit_265 (fun w_6 H locs hp hS => ?_)
        refine lv_iconst hx hb dX11_unit_268 kI_0 ?_
        exact hR _ _ _ _ _ _ dX11_unit_269 (by decide) hp hS
    · have hp := hp.2 c_3
      exact bX11_unit_222 hC hR x2 w_1 _ _ _ hp hS (lv_sub hl [1, 2] rfl)
set_option maxHeartbeats 4000000 in
set_option maxRecDepth 100000 in
theorem bX11_unit_191 {p : Program} {l : Launch} {e : Env} {s : State} {m : MethodId} {args : Array Value} {below : List Frame} {meth : Method} {c : Code} {Q : State → Prop} {A : Nat → Prop} {g : Gw} {post : Int32 → Wd → Prop}  (hC : Cx p s m args c cX11_unit RX11 7 g) (hR : RtZ tabM p l e (rk 3) s m args below meth c Q cX11_unit A g post)  : ∀ (x2 : Int32) (x3 : Int32) (x4 : Int32) (t1 : Int32) (t2 : Int32) (w : Wd) (H : Heap) (locs : List Loc) (ls : Array Slot), pX11_unit_191 post x2 x3 x4 t1 t2 w → St tabM A s.heap g w H locs → lv_has ls 7 [(0, .ref (g.2.2 300)), (2, .int x2), (3, .int x3), (4, .int x4)] → W p l e (rk 3) s m args below meth c H locs 0 0 Q (F0 m 191 ls [.int t2, .int t1, .ref (g.2.2 300)]) := by
  have hx := hC.1
  have hb := hC.2.1
  intro x2 x3 x4 t1 t2 w H locs ls hp hS hl
  unfold pX11_unit_191 at hp
  refine lv_iadd hx hb dX11_unit_191 ?_
  refine P_300_34 hC hS m562 dX11_unit_192 (fun w_1 H locs ew_1 hS => ?_)
  have hp := hp w_1 ew_1
  refine lv_iload hx hb dX11_unit_195 (lv_at hl 3 rfl) ?_
  refine lv_if_ne (tgt := 207) hx hb dX11_unit_197 (by decide) (fun c_2 => ?_) (fun c_2 => ?_)
  · have hp := hp.1 c_2
    refine lv_iconst hx hb dX11_unit_207 kI_0 ?_
    exact bX11_unit_208 hC hR x2 x3 x4 (0 : Int32) w_1 _ _ _ hp hS (lv_sub hl [0, 1, 2, 3] rfl)
  · have hp := hp.2 c_2
    refine lv_aload_n hx hb dX11_unit_200 rfl (lv_at hl 0 rfl) ?_
    refine G_300_9 hC hS m480 dX11_unit_201 ?_
    refine lv_goto (tgt := 208) hx hb dX11_unit_204 (by decide) ?_
    exact bX11_unit_208 hC hR x2 x3 x4 (w_1.1 300 9) w_1 _ _ _ hp hS (lv_sub hl [0, 1, 2, 3] rfl)
set_option maxHeartbeats 4000000 in
set_option maxRecDepth 100000 in
theorem bX11_unit_175 {p : Program} {l : Launch} {e : Env} {s : State} {m : MethodId} {args : Array Value} {below : List Frame} {meth : Method} {c : Code} {Q : State → Prop} {A : Nat → Prop} {g : Gw} {post : Int32 → Wd → Prop}  (hC : Cx p s m args c cX11_unit RX11 7 g) (hR : RtZ tabM p l e (rk 3) s m args below meth c Q cX11_unit A g post)  : ∀ (x2 : Int32) (x3 : Int32) (x4 : Int32) (t1 : Int32) (t2 : Int32) (t3 : Int32) (w : Wd) (H : Heap) (locs : List Loc) (ls : Array Slot), pX11_unit_175 post x2 x3 x4 t1 t2 t3 w → St tabM A s.heap g w H locs → lv_has ls 7 [(0, .ref (g.2.2 300)), (2, .int x2), (3, .int x3), (4, .int x4)] → W p l e (rk 3) s m args below meth c H locs 0 0 Q (F0 m 175 ls [.int t3, .int t2, .int t1, .ref (g.2.2 315)]) := by
  have hx := hC.1
  have hb := hC.2.1
  intro x2 x3 x4 t1 t2 t3 w H locs ls hp hS hl
  unfold pX11_unit_175 at hp
  refine lv_iadd hx hb dX11_unit_175 ?_
  refine Sa_315 hC hS hp.1 dX11_unit_176 (fun w_1 H locs ew_1 hS => ?_)
  have hp := hp.2
  have hp := hp w_1 ew_1
  refine lv_aload_n hx hb dX11_unit_177 rfl (lv_at hl 0 rfl) ?_
  refine lv_dup hx hb dX11_unit_178 rfl ?_
  refine G_300_34 hC hS m562 dX11_unit_179 ?_
  refine lv_iload_n hx hb dX11_unit_182 rfl (lv_at hl 1 rfl) ?_
  refine lv_if_eq (tgt := 190) hx hb dX11_unit_183 (by decide) (fun c_2 => ?_) (fun c_2 => ?_)
  · have hp := hp.1 c_2
    refine lv_iconst hx hb dX11_unit_190 kI_1 ?_
    exact bX11_unit_191 hC hR x2 x3 x4 (w_1.1 300 34) (1 : Int32) w_1 _ _ _ hp hS (lv_sub hl [0, 1, 2, 3] rfl)
  · have hp := hp.2 c_2
    refine lv_iconst hx hb dX11_unit_186 kI_0 ?_
    refine lv_goto (tgt := 191) hx hb dX11_unit_187 (by decide) ?_
    exact bX11_unit_191 hC hR x2 x3 x4 (w_1.1 300 34) (0 : Int32) w_1 _ _ _ hp hS (lv_sub hl [0, 1, 2, 3] rfl)
set_option maxHeartbeats 4000000 in
set_option maxRecDepth 100000 in
theorem bX11_unit_147 {p : Program} {l : Launch} {e : Env} {s : State} {m : MethodId} {args : Array Value} {below : List Frame} {meth : Method} {c : Code} {Q : State → Prop} {A : Nat → Prop} {g : Gw} {post : Int32 → Wd → Prop}  (hC : Cx p s m args c cX11_unit RX11 7 g) (hR : RtZ tabM p l e (rk 3) s m args below meth c Q cX11_unit A g post)  : ∀ (x2 : Int32) (x3 : Int32) (x4 : Int32) (w : Wd) (H : Heap) (locs : List Loc) (ls : Array Slot), pX11_unit_147 post x2 x3 x4 w → St tabM A s.heap g w H locs → lv_has ls 7 [(0, .ref (g.2.2 300)), (2, .int x2), (3, .int x3), (4, .int x4)] → W p l e (rk 3) s m args below meth c H locs 0 0 Q (F0 m 147 ls []) := by
  have hx := hC.1
  have hb := hC.2.1
  intro x2 x3 x4 w H locs ls hp hS hl
  unfold pX11_unit_147 at hp
  refine lv_aload_n hx hb dX11_unit_147 rfl (lv_at hl 0 rfl) ?_
  refine q_cvI (As := []) (rest := []) hC hS hl.1 (rX11_isGood hp) cwX11_231 yvX11_isGood (rcv_300 hC hS) rfl rfl (Nat.le_of_ble_eq_true rfl) (rmk (by decide) (by decide)) dX11_unit_148 (fun r_1 w_2 H locs hp hS => ?_)
  refine lv_if_ne (tgt := 156) hx hb dX11_unit_151 (by decide) (fun c_3 => ?_) (fun c_3 => ?_)
  · have hp := hp.1 c_3
    refine lv_aload_n hx hb dX11_unit_156 rfl (lv_at hl 0 rfl) ?_
    refine G_300_14 hC hS m259 dX11_unit_157 ?_
    refine lv_aload_n hx hb dX11_unit_160 rfl (lv_at hl 0 rfl) ?_
    refine G_300_30 hC hS m302 dX11_unit_161 ?_
    refine lv_dup2_11 hx hb dX11_unit_164 rfl rfl ?_
    refine La_315 hC hS hp.1 dX11_unit_165 ?_
    have hp := hp.2
    refine lv_iload_n hx hb dX11_unit_166 rfl (lv_at hl 1 rfl) ?_
    refine lv_if_eq (tgt := 174) hx hb dX11_unit_167 (by decide) (fun c_4 => ?_) (fun c_4 => ?_)
    · have hp := hp.1 c_4
      refine lv_iconst hx hb dX11_unit_174 kI_1 ?_
      exact bX11_unit_175 hC hR x2 x3 x4 (w_2.1 300 30) (w_2.2.1 315 (w_2.1 300 30).toNatClampNeg) (1 : Int32) w_2 _ _ _ hp hS (lv_sub hl [0, 1, 2, 3] rfl)
    · have hp := hp.2 c_4
      refine lv_iconst hx hb dX11_unit_170 kI_0 ?_
      refine lv_goto (tgt := 175) hx hb dX11_unit_171 (by decide) ?_
      exact bX11_unit_175 hC hR x2 x3 x4 (w_2.1 300 30) (w_2.2.1 315 (w_2.1 300 30).toNatClampNeg) (0 : Int32) w_2 _ _ _ hp hS (lv_sub hl [0, 1, 2, 3] rfl)
  · have hp := hp.2 c_3
    refine lv_iconst hx hb dX11_unit_154 kI_1 ?_
    exact hR _ _ _ _ _ _ dX11_unit_155 (by decide) hp hS
set_option maxHeartbeats 4000000 in
set_option maxRecDepth 100000 in
theorem bX11_unit_143 {p : Program} {l : Launch} {e : Env} {s : State} {m : MethodId} {args : Array Value} {below : List Frame} {meth : Method} {c : Code} {Q : State → Prop} {A : Nat → Prop} {g : Gw} {post : Int32 → Wd → Prop}  (hC : Cx p s m args c cX11_unit RX11 7 g) (hR : RtZ tabM p l e (rk 3) s m args below meth c Q cX11_unit A g post)  : ∀ (x2 : Int32) (x3 : Int32) (x4 : Int32) (w : Wd) (H : Heap) (locs : List Loc) (ls : Array Slot), pX11_unit_143 post x2 x3 x4 w → St tabM A s.heap g w H locs → lv_has ls 7 [(0, .ref (g.2.2 300)), (2, .int x2), (3, .int x3), (4, .int x4)] → W p l e (rk 3) s m args below meth c H locs 0 0 Q (F0 m 143 ls []) := by
  have hx := hC.1
  have hb := hC.2.1
  intro x2 x3 x4 w H locs ls hp hS hl
  unfold pX11_unit_143 at hp
  refine lv_aload_n hx hb dX11_unit_143 rfl (lv_at hl 0 rfl) ?_
  refine q_cvV (As := []) (rest := []) hC hS hl.1 (rX11_misplaced hp) cwX11_238 yvX11_misplaced (rcv_300 hC hS) rfl rfl (Nat.le_of_ble_eq_true rfl) (rmk (by decide) (by decide)) dX11_unit_144 (fun w_1 H locs hp hS => ?_)
  exact bX11_unit_147 hC hR x2 x3 x4 w_1 _ _ _ hp hS (lv_sub hl [0, 1, 2, 3] rfl)
set_option maxHeartbeats 4000000 in
set_option maxRecDepth 100000 in
theorem bX11_unit_134 {p : Program} {l : Launch} {e : Env} {s : State} {m : MethodId} {args : Array Value} {below : List Frame} {meth : Method} {c : Code} {Q : State → Prop} {A : Nat → Prop} {g : Gw} {post : Int32 → Wd → Prop}  (hC : Cx p s m args c cX11_unit RX11 7 g) (hR : RtZ tabM p l e (rk 3) s m args below meth c Q cX11_unit A g post)  : ∀ (x2 : Int32) (x3 : Int32) (x4 : Int32) (w : Wd) (H : Heap) (locs : List Loc) (ls : Array Slot), pX11_unit_134 post x2 x3 x4 w → St tabM A s.heap g w H locs → lv_has ls 7 [(0, .ref (g.2.2 300)), (2, .int x2), (3, .int x3), (4, .int x4)] → W p l e (rk 3) s m args below meth c H locs 0 0 Q (F0 m 134 ls []) := by
  have hx := hC.1
  have hb := hC.2.1
  intro x2 x3 x4 w H locs ls hp hS hl
  unfold pX11_unit_134 at hp
  refine lv_aload_n hx hb dX11_unit_134 rfl (lv_at hl 0 rfl) ?_
  refine G_300_32 hC hS m568 dX11_unit_135 ?_
  refine lv_bipush hx hb dX11_unit_138 kB_7 ?_
  refine lv_icmp_ne (tgt := 147) hx hb dX11_unit_140 (by decide) (fun c_1 => ?_) (fun c_1 => ?_)
  · have hp := hp.1 c_1
    exact bX11_unit_147 hC hR x2 x3 x4 w _ _ _ hp hS (lv_sub hl [0, 1, 2, 3] rfl)
  · have hp := hp.2 c_1
    exact bX11_unit_143 hC hR x2 x3 x4 w _ _ _ hp hS (lv_sub hl [0, 1, 2, 3] rfl)
set_option maxHeartbeats 4000000 in
set_option maxRecDepth 100000 in
theorem bX11_unit_126 {p : Program} {l : Launch} {e : Env} {s : State} {m : MethodId} {args : Array Value} {below : List Frame} {meth : Method} {c : Code} {Q : State → Prop} {A : Nat → Prop} {g : Gw} {post : Int32 → Wd → Prop}  (hC : Cx p s m args c cX11_unit RX11 7 g) (hR : RtZ tabM p l e (rk 3) s m args below meth c Q cX11_unit A g post)  : ∀ (x2 : Int32) (x3 : Int32) (x4 : Int32) (w : Wd) (H : Heap) (locs : List Loc) (ls : Array Slot), pX11_unit_126 post x2 x3 x4 w → St tabM A s.heap g w H locs → lv_has ls 7 [(0, .ref (g.2.2 300)), (2, .int x2), (3, .int x3), (4, .int x4)] → W p l e (rk 3) s m args below meth c H locs 0 0 Q (F0 m 126 ls []) := by
  have hx := hC.1
  have hb := hC.2.1
  intro x2 x3 x4 w H locs ls hp hS hl
  unfold pX11_unit_126 at hp
  refine lv_iload_n hx hb dX11_unit_126 rfl (lv_at hl 1 rfl) ?_
  refine lv_if_ne (tgt := 134) hx hb dX11_unit_127 (by decide) (fun c_1 => ?_) (fun c_1 => ?_)
  · have hp := hp.1 c_1
    exact bX11_unit_134 hC hR x2 x3 x4 w _ _ _ hp hS (lv_sub hl [0, 1, 2, 3] rfl)
  · have hp := hp.2 c_1
    refine lv_iload_n hx hb dX11_unit_130 rfl (lv_at hl 2 rfl) ?_
    refine lv_if_eq (tgt := 147) hx hb dX11_unit_131 (by decide) (fun c_2 => ?_) (fun c_2 => ?_)
    · have hp := hp.1 c_2
      exact bX11_unit_147 hC hR x2 x3 x4 w _ _ _ hp hS (lv_sub hl [0, 1, 2, 3] rfl)
    · have hp := hp.2 c_2
      exact bX11_unit_134 hC hR x2 x3 x4 w _ _ _ hp hS (lv_sub hl [0, 1, 2, 3] rfl)
set_option maxHeartbeats 4000000 in
set_option maxRecDepth 100000 in
theorem bX11_unit_121 {p : Program} {l : Launch} {e : Env} {s : State} {m : MethodId} {args : Array Value} {below : List Frame} {meth : Method} {c : Code} {Q : State → Prop} {A : Nat → Prop} {g : Gw} {post : Int32 → Wd → Prop}  (hC : Cx p s m args c cX11_unit RX11 7 g) (hR : RtZ tabM p l e (rk 3) s m args below meth c Q cX11_unit A g post)  : ∀ (x2 : Int32) (x3 : Int32) (x4 : Int32) (x5 : Int32) (w : Wd) (H : Heap) (locs : List Loc) (ls : Array Slot), pX11_unit_121 post x2 x3 x4 x5 w → St tabM A s.heap g w H locs → lv_has ls 7 [(0, .ref (g.2.2 300)), (2, .int x2), (3, .int x3), (4, .int x4), (5, .int x5)] → W p l e (rk 3) s m args below meth c H locs 0 0 Q (F0 m 121 ls []) := by
  have hx := hC.1
  have hb := hC.2.1
  intro x2 x3 x4 x5 w H locs ls hp hS hl
  unfold pX11_unit_121 at hp
  refine lv_iload hx hb dX11_unit_121 (lv_at hl 4 rfl) ?_
  refine lv_if_ne (tgt := 143) hx hb dX11_unit_123 (by decide) (fun c_1 => ?_) (fun c_1 => ?_)
  · have hp := hp.1 c_1
    exact bX11_unit_143 hC hR x2 x3 x4 w _ _ _ hp hS (lv_sub hl [0, 1, 2, 3] rfl)
  · have hp := hp.2 c_1
    exact bX11_unit_126 hC hR x2 x3 x4 w _ _ _ hp hS (lv_sub hl [0, 1, 2, 3] rfl)
set_option maxHeartbeats 4000000 in
set_option maxRecDepth 100000 in
theorem bX11_unit_98 {p : Program} {l : Launch} {e : Env} {s : State} {m : MethodId} {args : Array Value} {below : List Frame} {meth : Method} {c : Code} {Q : State → Prop} {A : Nat → Prop} {g : Gw} {post : Int32 → Wd → Prop}  (hC : Cx p s m args c cX11_unit RX11 7 g) (hR : RtZ tabM p l e (rk 3) s m args below meth c Q cX11_unit A g post)  : ∀ (x2 : Int32) (x3 : Int32) (x4 : Int32) (t0 : Int32) (w : Wd) (H : Heap) (locs : List Loc) (ls : Array Slot), pX11_unit_98 post x2 x3 x4 t0 w → St tabM A s.heap g w H locs → lv_has ls 7 [(0, .ref (g.2.2 300)), (2, .int x2), (3, .int x3), (4, .int x4)] → W p l e (rk 3) s m args below meth c H locs 0 0 Q (F0 m 98 ls [.int t0]) := by
  have hx := hC.1
  have hb := hC.2.1
  intro x2 x3 x4 t0 w H locs ls hp hS hl
  unfold pX11_unit_98 at hp
  refine lv_istore (lv' := [(5, .int t0), (0, .ref (g.2.2 300)), (2, .int x2), (3, .int x3), (4, .int x4)]) hx hb dX11_unit_98 hl (by decide) rfl (fun ls hl => ?_)
  refine lv_iload_n hx hb dX11_unit_100 rfl (lv_at hl 2 rfl) ?_
  refine lv_if_ne (tgt := 126) hx hb dX11_unit_101 (by decide) (fun c_1 => ?_) (fun c_1 => ?_)
  · have hp := hp.1 c_1
    exact bX11_unit_126 hC hR x2 x3 x4 w _ _ _ hp hS (lv_sub hl [1, 2, 3, 4] rfl)
  · have hp := hp.2 c_1
    refine lv_iload hx hb dX11_unit_104 (lv_at hl 4 rfl) ?_
    refine lv_if_ne (tgt := 121) hx hb dX11_unit_106 (by decide) (fun c_2 => ?_) (fun c_2 => ?_)
    · have hp := hp.1 c_2
      exact bX11_unit_121 hC hR x2 x3 x4 t0 w _ _ _ hp hS (lv_sub hl [1, 2, 3, 4, 0] rfl)
    · have hp := hp.2 c_2
      refine lv_aload_n hx hb dX11_unit_109 rfl (lv_at hl 1 rfl) ?_
      refine G_300_8 hC hS m473 dX11_unit_110 ?_
      refine lv_iconst hx hb dX11_unit_113 kI_4 ?_
      refine lv_icmp_eq (tgt := 121) hx hb dX11_unit_114 (by decide) (fun c_3 => ?_) (fun c_3 => ?_)
      · have hp := hp.1 c_3
        exact bX11_unit_121 hC hR x2 x3 x4 t0 w _ _ _ hp hS (lv_sub hl [1, 2, 3, 4, 0] rfl)
      · have hp := hp.2 c_3
        refine lv_iload_n hx hb dX11_unit_117 rfl (lv_at hl 3 rfl) ?_
        refine lv_if_eq (tgt := 143) hx hb dX11_unit_118 (by decide) (fun c_4 => ?_) (fun c_4 => ?_)
        · have hp := hp.1 c_4
          exact bX11_unit_143 hC hR x2 x3 x4 w _ _ _ hp hS (lv_sub hl [1, 2, 3, 4] rfl)
        · have hp := hp.2 c_4
          exact bX11_unit_121 hC hR x2 x3 x4 t0 w _ _ _ hp hS (lv_sub hl [1, 2, 3, 4, 0] rfl)
set_option maxHeartbeats 4000000 in
set_option maxRecDepth 100000 in
theorem bX11_unit_93 {p : Program} {l : Launch} {e : Env} {s : State} {m : MethodId} {args : Array Value} {below : List Frame} {meth : Method} {c : Code} {Q : State → Prop} {A : Nat → Prop} {g : Gw} {post : Int32 → Wd → Prop}  (hC : Cx p s m args c cX11_unit RX11 7 g) (hR : RtZ tabM p l e (rk 3) s m args below meth c Q cX11_unit A g post)  : ∀ (x2 : Int32) (x3 : Int32) (x4 : Int32) (w : Wd) (H : Heap) (locs : List Loc) (ls : Array Slot), pX11_unit_93 post x2 x3 x4 w → St tabM A s.heap g w H locs → lv_has ls 7 [(0, .ref (g.2.2 300)), (2, .int x2), (3, .int x3), (4, .int x4)] → W p l e (rk 3) s m args below meth c H locs 0 0 Q (F0 m 93 ls []) := by
  have hx := hC.1
  have hb := hC.2.1
  intro x2 x3 x4 w H locs ls hp hS hl
  unfold pX11_unit_93 at hp
  refine lv_iconst hx hb dX11_unit_93 kI_1 ?_
  refine lv_goto (tgt := 98) hx hb dX11_unit_94 (by decide) ?_
  exact bX11_unit_98 hC hR x2 x3 x4 (1 : Int32) w _ _ _ hp hS (lv_sub hl [0, 1, 2, 3] rfl)
set_option maxHeartbeats 4000000 in
set_option maxRecDepth 100000 in
theorem bX11_unit_56 {p : Program} {l : Launch} {e : Env} {s : State} {m : MethodId} {args : Array Value} {below : List Frame} {meth : Method} {c : Code} {Q : State → Prop} {A : Nat → Prop} {g : Gw} {post : Int32 → Wd → Prop}  (hC : Cx p s m args c cX11_unit RX11 7 g) (hR : RtZ tabM p l e (rk 3) s m args below meth c Q cX11_unit A g post)  : ∀ (t0 : Int32) (w : Wd) (H : Heap) (locs : List Loc) (ls : Array Slot), pX11_unit_56 post t0 w → St tabM A s.heap g w H locs → lv_has ls 7 [(0, .ref (g.2.2 300))] → W p l e (rk 3) s m args below meth c H locs 0 0 Q (F0 m 56 ls [.int t0]) := by
  have hx := hC.1
  have hb := hC.2.1
  intro t0 w H locs ls hp hS hl
  unfold pX11_unit_56 at hp
  refine lv_istore_n (lv' := [(2, .int t0), (0, .ref (g.2.2 300))]) hx hb dX11_unit_56 rfl hl (by decide) rfl (fun ls hl => ?_)
  refine lv_aload_n hx hb dX11_unit_57 rfl (lv_at hl 1 rfl) ?_
  refine lv_bipush hx hb dX11_unit_58 kB_40 ?_
  refine q_cvI (As := [.int (40 : Int32)]) (rest := []) hC hS hl.1 (rX11_isSignHere hp) cwX11_272 yvX11_isSignHere (rcv_300 hC hS) rfl rfl (Nat.le_of_ble_eq_true rfl) (rmk (by decide) (by decide)) dX11_unit_60 (fun r_1 w_2 H locs hp hS => ?_)
  refine lv_istore_n (lv' := [(3, .int r_1), (2, .int t0), (0, .ref (g.2.2 300))]) hx hb dX11_unit_63 rfl hl (by decide) rfl (fun ls hl => ?_)
  refine lv_aload_n hx hb dX11_unit_64 rfl (lv_at hl 2 rfl) ?_
  refine q_cvI (As := []) (rest := []) hC hS hl.1 (rX11_wordHere hp) cwX11_308 yvX11_wordHere (rcv_300 hC hS) rfl rfl (Nat.le_of_ble_eq_true rfl) (rmk (by decide) (by decide)) dX11_unit_65 (fun r_3 w_4 H locs hp hS => ?_)
  refine lv_istore (lv' := [(4, .int r_3), (3, .int r_1), (2, .int t0), (0, .ref (g.2.2 300))]) hx hb dX11_unit_68 hl (by decide) rfl (fun ls hl => ?_)
  refine lv_aload_n hx hb dX11_unit_70 rfl (lv_at hl 3 rfl) ?_
  refine G_300_14 hC hS m259 dX11_unit_71 ?_
  refine lv_aload_n hx hb dX11_unit_74 rfl (lv_at hl 3 rfl) ?_
  refine G_300_30 hC hS m302 dX11_unit_75 ?_
  refine La_315 hC hS hp.1 dX11_unit_78 ?_
  have hp := hp.2
  refine lv_bipush hx hb dX11_unit_79 kB_90 ?_
  refine lv_icmp_eq (tgt := 93) hx hb dX11_unit_81 (by decide) (fun c_5 => ?_) (fun c_5 => ?_)
  · have hp := hp.1 c_5
    exact bX11_unit_93 hC hR t0 r_1 r_3 w_4 _ _ _ hp hS (lv_sub hl [3, 2, 1, 0] rfl)
  · have hp := hp.2 c_5
    refine lv_aload_n hx hb dX11_unit_84 rfl (lv_at hl 3 rfl) ?_
    refine G_300_34 hC hS m562 dX11_unit_85 ?_
    refine lv_bipush hx hb dX11_unit_88 kB_30 ?_
    refine lv_icmp_ne (tgt := 97) hx hb dX11_unit_90 (by decide) (fun c_6 => ?_) (fun c_6 => ?_)
    · have hp := hp.1 c_6
      refine lv_iconst hx hb dX11_unit_97 kI_0 ?_
      exact bX11_unit_98 hC hR t0 r_1 r_3 (0 : Int32) w_4 _ _ _ hp hS (lv_sub hl [3, 2, 1, 0] rfl)
    · have hp := hp.2 c_6
      exact bX11_unit_93 hC hR t0 r_1 r_3 w_4 _ _ _ hp hS (lv_sub hl [3, 2, 1, 0] rfl)
set_option maxHeartbeats 4000000 in
set_option maxRecDepth 100000 in
theorem bX11_unit_55 {p : Program} {l : Launch} {e : Env} {s : State} {m : MethodId} {args : Array Value} {below : List Frame} {meth : Method} {c : Code} {Q : State → Prop} {A : Nat → Prop} {g : Gw} {post : Int32 → Wd → Prop}  (hC : Cx p s m args c cX11_unit RX11 7 g) (hR : RtZ tabM p l e (rk 3) s m args below meth c Q cX11_unit A g post)  : ∀  (w : Wd) (H : Heap) (locs : List Loc) (ls : Array Slot), pX11_unit_55 post  w → St tabM A s.heap g w H locs → lv_has ls 7 [(0, .ref (g.2.2 300))] → W p l e (rk 3) s m args below meth c H locs 0 0 Q (F0 m 55 ls []) := by
  have hx := hC.1
  have hb := hC.2.1
  intro  w H locs ls hp hS hl
  unfold pX11_unit_55 at hp
  refine lv_iconst hx hb dX11_unit_55 kI_0 ?_
  exact bX11_unit_56 hC hR (0 : Int32) w _ _ _ hp hS (lv_sub hl [0] rfl)
set_option maxHeartbeats 4000000 in
set_option maxRecDepth 100000 in
theorem bX11_unit_36 {p : Program} {l : Launch} {e : Env} {s : State} {m : MethodId} {args : Array Value} {below : List Frame} {meth : Method} {c : Code} {Q : State → Prop} {A : Nat → Prop} {g : Gw} {post : Int32 → Wd → Prop}  (hC : Cx p s m args c cX11_unit RX11 7 g) (hR : RtZ tabM p l e (rk 3) s m args below meth c Q cX11_unit A g post)  : ∀ (t0 : Int32) (w : Wd) (H : Heap) (locs : List Loc) (ls : Array Slot), pX11_unit_36 post t0 w → St tabM A s.heap g w H locs → lv_has ls 7 [(0, .ref (g.2.2 300))] → W p l e (rk 3) s m args below meth c H locs 0 0 Q (F0 m 36 ls [.int t0]) := by
  have hx := hC.1
  have hb := hC.2.1
  intro t0 w H locs ls hp hS hl
  unfold pX11_unit_36 at hp
  refine lv_istore_n (lv' := [(1, .int t0), (0, .ref (g.2.2 300))]) hx hb dX11_unit_36 rfl hl (by decide) rfl (fun ls hl => ?_)
  refine lv_iload_n hx hb dX11_unit_37 rfl (lv_at hl 0 rfl) ?_
  refine lv_if_eq (tgt := 55) hx hb dX11_unit_38 (by decide) (fun c_1 => ?_) (fun c_1 => ?_)
  · have hp := hp.1 c_1
    exact bX11_unit_55 hC hR  w _ _ _ hp hS (lv_sub hl [1] rfl)
  · have hp := hp.2 c_1
    refine lv_aload_n hx hb dX11_unit_41 rfl (lv_at hl 1 rfl) ?_
    refine lv_ldc2 hx hb hC.2.2.2.1 (hC.2.2.2.2.1 _ m507) dX11_unit_42 ?_
    refine q_cvI (As := [.long (7237492 : Int64)]) (rest := []) hC hS hl.1 (rX11_isWord hp) cwX11_256 yvX11_isWord (rcv_300 hC hS) rfl rfl (Nat.le_of_ble_eq_true rfl) (rmk (by decide) (by decide)) dX11_unit_45 (fun r_2 w_3 H locs hp hS => ?_)
    refine lv_if_eq (tgt := 55) hx hb dX11_unit_48 (by decide) (fun c_4 => ?_) (fun c_4 => ?_)
    · have hp := hp.1 c_4
      exact bX11_unit_55 hC hR  w_3 _ _ _ hp hS (lv_sub hl [1] rfl)
    · have hp := hp.2 c_4
      refine lv_iconst hx hb dX11_unit_51 kI_1 ?_
      refine lv_goto (tgt := 56) hx hb dX11_unit_52 (by decide) ?_
      exact bX11_unit_56 hC hR (1 : Int32) w_3 _ _ _ hp hS (lv_sub hl [1] rfl)
set_option maxHeartbeats 4000000 in
set_option maxRecDepth 100000 in
theorem bX11_unit_31 {p : Program} {l : Launch} {e : Env} {s : State} {m : MethodId} {args : Array Value} {below : List Frame} {meth : Method} {c : Code} {Q : State → Prop} {A : Nat → Prop} {g : Gw} {post : Int32 → Wd → Prop}  (hC : Cx p s m args c cX11_unit RX11 7 g) (hR : RtZ tabM p l e (rk 3) s m args below meth c Q cX11_unit A g post)  : ∀  (w : Wd) (H : Heap) (locs : List Loc) (ls : Array Slot), pX11_unit_31 post  w → St tabM A s.heap g w H locs → lv_has ls 7 [(0, .ref (g.2.2 300))] → W p l e (rk 3) s m args below meth c H locs 0 0 Q (F0 m 31 ls []) := by
  have hx := hC.1
  have hb := hC.2.1
  intro  w H locs ls hp hS hl
  unfold pX11_unit_31 at hp
  refine lv_iconst hx hb dX11_unit_31 kI_1 ?_
  refine lv_goto (tgt := 36) hx hb dX11_unit_32 (by decide) ?_
  exact bX11_unit_36 hC hR (1 : Int32) w _ _ _ hp hS (lv_sub hl [0] rfl)
set_option maxHeartbeats 4000000 in
set_option maxRecDepth 100000 in
theorem rX11_unit {l : Launch} {g : Gw} {w : Wd} {post : Int32 → Wd → Prop}    (hp : pX11_unit post  w) : MtI tabM l yX11_unit cX11_unit 7 (some .boolean) 3 g w [.ref (g.2.2 300)] post := by
  refine q_entZ tabM_nd (by decide) rfl (Nat.le_of_ble_eq_true rfl) ?_
  intro p e s m args below meth c A Q ls hC hR hS hl
  have hx := hC.1
  have hb := hC.2.1
  have hl : lv_has ls 7 [(0, .ref (g.2.2 300))] := hl
  unfold pX11_unit at hp
  refine lv_aload_n hx hb dX11_unit_0 rfl (lv_at hl 0 rfl) ?_
  refine G_300_26 hC hS m271 dX11_unit_1 ?_
  refine lv_aload_n hx hb dX11_unit_4 rfl (lv_at hl 0 rfl) ?_
  refine G_300_33 hC hS m567 dX11_unit_5 ?_
  refine lv_iconst hx hb dX11_unit_8 kI_1 ?_
  refine lv_isub hx hb dX11_unit_9 ?_
  refine La_327 hC hS hp.1 dX11_unit_10 ?_
  have hp := hp.2
  refine lv_iconst hx hb dX11_unit_11 kI_3 ?_
  refine lv_icmp_le (tgt := 31) hx hb dX11_unit_12 (by decide) (fun c_1 => ?_) (fun c_1 => ?_)
  · have hp := hp.1 c_1
    exact bX11_unit_31 hC hR  w _ _ _ hp hS (lv_sub hl [0] rfl)
  · have hp := hp.2 c_1
    refine lv_aload_n hx hb dX11_unit_15 rfl (lv_at hl 0 rfl) ?_
    refine G_300_26 hC hS m271 dX11_unit_16 ?_
    refine lv_aload_n hx hb dX11_unit_19 rfl (lv_at hl 0 rfl) ?_
    refine G_300_33 hC hS m567 dX11_unit_20 ?_
    refine lv_iconst hx hb dX11_unit_23 kI_1 ?_
    refine lv_isub hx hb dX11_unit_24 ?_
    refine La_327 hC hS hp.1 dX11_unit_25 ?_
    have hp := hp.2
    refine lv_bipush hx hb dX11_unit_26 kB_7 ?_
    refine lv_icmp_lt (tgt := 35) hx hb dX11_unit_28 (by decide) (fun c_2 => ?_) (fun c_2 => ?_)
    · have hp := hp.1 c_2
      refine lv_iconst hx hb dX11_unit_35 kI_0 ?_
      exact bX11_unit_36 hC hR (0 : Int32) w _ _ _ hp hS (lv_sub hl [0] rfl)
    · have hp := hp.2 c_2
      exact bX11_unit_31 hC hR  w _ _ _ hp hS (lv_sub hl [0] rfl)
def pX11_e_48 (k19 : Int32 → Wd → Prop) (post : Wd → Prop) (t0 : Int32) (w : Wd) : Prop := k19 t0 w
def pX11_e_19 (post : Wd → Prop) : Nat → Int32 → Wd → Prop
  | 0, _, _ => False
  | n + 1, x1, w => pX11_isGood (fun r_1 w_2 => (r_1 = 0 → (post w_2)) ∧ (¬ r_1 = 0 → (((w_2.1 300 33) ≤ 0 → (post w_2)) ∧ (¬ (w_2.1 300 33) ≤ 0 → ((x1 = 0 → (pX11_behindUnit (fun r_6 w_7 => pX11_e_48 (pX11_e_19 post n) post r_6 w_7) w_2)) ∧ (¬ x1 = 0 → (pX11_unit (fun r_8 w_9 => pX11_e_48 (pX11_e_19 post n) post r_8 w_9) w_2))))))) w
def pX11_e (post : Wd → Prop)  (w : Wd) : Prop := ∀ w_1, w_1 = sI w 300 33 (0 : Int32) → ∀ w_2, w_2 = sI w_1 300 32 (0 : Int32) → pX11_pushE (fun w_3 => ∃ n9, pX11_e_19 post n9 (1 : Int32) w_3) (8 : Int32) (0 : Int32) w_2
set_option maxHeartbeats 4000000 in
set_option maxRecDepth 100000 in
theorem bX11_e_48 {p : Program} {l : Launch} {e : Env} {s : State} {m : MethodId} {args : Array Value} {below : List Frame} {meth : Method} {c : Code} {Q : State → Prop} {A : Nat → Prop} {g : Gw} {post : Wd → Prop}  (hC : Cx p s m args c cX11_e RX11 2 g) (hR : RtV tabM p l e (rk 5) s m args below meth c Q cX11_e A g post)  {k19 : Int32 → Wd → Prop} (hk19 : ∀ (x1 : Int32) (w : Wd) (H : Heap) (locs : List Loc) (ls : Array Slot), k19 x1 w → St tabM A s.heap g w H locs → lv_has ls 2 [(0, .ref (g.2.2 300)), (1, .int x1)] → W p l e (rk 5) s m args below meth c H locs 0 0 Q (F0 m 19 ls [])) : ∀ (t0 : Int32) (w : Wd) (H : Heap) (locs : List Loc) (ls : Array Slot), pX11_e_48 k19 post t0 w → St tabM A s.heap g w H locs → lv_has ls 2 [(0, .ref (g.2.2 300))] → W p l e (rk 5) s m args below meth c H locs 0 0 Q (F0 m 48 ls [.int t0]) := by
  have hx := hC.1
  have hb := hC.2.1
  intro t0 w H locs ls hp hS hl
  unfold pX11_e_48 at hp
  refine lv_istore_n (lv' := [(1, .int t0), (0, .ref (g.2.2 300))]) hx hb dX11_e_48 rfl hl (by decide) rfl (fun ls hl => ?_)
  refine lv_goto (tgt := 19) hx hb dX11_e_49 (by decide) ?_
  exact hk19 t0 w _ _ _ hp hS (lv_sub hl [1, 0] rfl)
set_option maxHeartbeats 4000000 in
set_option maxRecDepth 100000 in
theorem bX11_e_19 {p : Program} {l : Launch} {e : Env} {s : State} {m : MethodId} {args : Array Value} {below : List Frame} {meth : Method} {c : Code} {Q : State → Prop} {A : Nat → Prop} {g : Gw} {post : Wd → Prop}  (hC : Cx p s m args c cX11_e RX11 2 g) (hR : RtV tabM p l e (rk 5) s m args below meth c Q cX11_e A g post)  : ∀ (n : Nat) (x1 : Int32) (w : Wd) (H : Heap) (locs : List Loc) (ls : Array Slot), pX11_e_19 post n x1 w → St tabM A s.heap g w H locs → lv_has ls 2 [(0, .ref (g.2.2 300)), (1, .int x1)] → W p l e (rk 5) s m args below meth c H locs 0 0 Q (F0 m 19 ls []) := by
  have hx := hC.1
  have hb := hC.2.1
  intro n
  induction n with
  | zero =>
    intro x1 w H locs ls hp hS hl
    exact False.elim hp
  | succ n ih =>
    intro x1 w H locs ls hp hS hl
    unfold pX11_e_19 at hp
    refine lv_aload_n hx hb dX11_e_19 rfl (lv_at hl 0 rfl) ?_
    refine q_cvI (As := []) (rest := []) hC hS hl.1 (rX11_isGood hp) cwX11_231 yvX11_isGood (rcv_300 hC hS) rfl rfl (Nat.le_of_ble_eq_true rfl) (rmk (by decide) (by decide)) dX11_e_20 (fun r_1 w_2 H locs hp hS => ?_)
    refine lv_if_eq (tgt := 52) hx hb dX11_e_23 (by decide) (fun c_3 => ?_) (fun c_3 => ?_)
    · have hp := hp.1 c_3
      exact hR _ _ _ _ _ dX11_e_52 hp hS
    · have hp := hp.2 c_3
      refine lv_aload_n hx hb dX11_e_26 rfl (lv_at hl 0 rfl) ?_
      refine G_300_33 hC hS m567 dX11_e_27 ?_
      refine lv_if_le (tgt := 52) hx hb dX11_e_30 (by decide) (fun c_4 => ?_) (fun c_4 => ?_)
      · have hp := hp.1 c_4
        exact hR _ _ _ _ _ dX11_e_52 hp hS
      · have hp := hp.2 c_4
        refine lv_iload_n hx hb dX11_e_33 rfl (lv_at hl 1 rfl) ?_
        refine lv_if_eq (tgt := 44) hx hb dX11_e_34 (by decide) (fun c_5 => ?_) (fun c_5 => ?_)
        · have hp := hp.1 c_5
          refine lv_aload_n hx hb dX11_e_44 rfl (lv_at hl 0 rfl) ?_
          refine q_cvI (As := []) (rest := []) hC hS hl.1 (rX11_behindUnit hp) cwX11_305 yvX11_behindUnit (rcv_300 hC hS) rfl rfl (Nat.le_of_ble_eq_true rfl) (rmk (by decide) (by decide)) dX11_e_45 (fun r_6 w_7 H locs hp hS => ?_)
          exact bX11_e_48 hC hR ih r_6 w_7 _ _ _ hp hS (lv_sub hl [0] rfl)
        · have hp := hp.2 c_5
          refine lv_aload_n hx hb dX11_e_37 rfl (lv_at hl 0 rfl) ?_
          refine q_cvI (As := []) (rest := []) hC hS hl.1 (rX11_unit hp) cwX11_302 yvX11_unit (rcv_300 hC hS) rfl rfl (Nat.le_of_ble_eq_true rfl) (rmk (by decide) (by decide)) dX11_e_38 (fun r_8 w_9 H locs hp hS => ?_)
          refine lv_goto (tgt := 48) hx hb dX11_e_41 (by decide) ?_
          exact bX11_e_48 hC hR ih r_8 w_9 _ _ _ hp hS (lv_sub hl [0] rfl)
set_option maxHeartbeats 4000000 in
set_option maxRecDepth 100000 in
theorem rX11_e {l : Launch} {g : Gw} {w : Wd} {post : Wd → Prop}    (hp : pX11_e post  w) : MtV tabM l yX11_e cX11_e 2 none 5 g w [.ref (g.2.2 300)] post := by
  refine q_entV tabM_nd (by decide) rfl (Nat.le_of_ble_eq_true rfl) ?_
  intro p e s m args below meth c A Q ls hC hR hS hl
  have hx := hC.1
  have hb := hC.2.1
  have hl : lv_has ls 2 [(0, .ref (g.2.2 300))] := hl
  unfold pX11_e at hp
  refine lv_aload_n hx hb dX11_e_0 rfl (lv_at hl 0 rfl) ?_
  refine lv_iconst hx hb dX11_e_1 kI_0 ?_
  refine P_300_33 hC hS m567 dX11_e_2 (fun w_1 H locs ew_1 hS => ?_)
  have hp := hp w_1 ew_1
  refine lv_aload_n hx hb dX11_e_5 rfl (lv_at hl 0 rfl) ?_
  refine lv_iconst hx hb dX11_e_6 kI_0 ?_
  refine P_300_32 hC hS m568 dX11_e_7 (fun w_2 H locs ew_2 hS => ?_)
  have hp := hp w_2 ew_2
  refine lv_aload_n hx hb dX11_e_10 rfl (lv_at hl 0 rfl) ?_
  refine lv_bipush hx hb dX11_e_11 kB_8 ?_
  refine lv_iconst hx hb dX11_e_13 kI_0 ?_
  refine q_cvV (As := [.int (8 : Int32), .int (0 : Int32)]) (rest := []) hC hS hl.1 (rX11_pushE hp) cwX11_299 yvX11_pushE (rcv_300 hC hS) rfl rfl (Nat.le_of_ble_eq_true rfl) (rmk (by decide) (by decide)) dX11_e_14 (fun w_3 H locs hp hS => ?_)
  refine lv_iconst hx hb dX11_e_17 kI_1 ?_
  refine lv_istore_n (lv' := [(1, .int (1 : Int32)), (0, .ref (g.2.2 300))]) hx hb dX11_e_18 rfl hl (by decide) rfl (fun ls hl => ?_)
  obtain ⟨n9, hp⟩ := hp
  exact bX11_e_19 hC hR n9 (1 : Int32) w_3 _ _ _ hp hS (lv_sub hl [1, 0] rfl)
def pX11_readRule (post : Wd → Prop) (x1 : Int32) (w : Wd) : Prop := ∀ w_1, w_1 = sI w 300 34 (0 : Int32) → vp_in (((8 : Int32) * (w_1.1 300 30)) + x1) 16 ∧ ∀ w_2, w_2 = sA w_1 319 (((8 : Int32) * (w_1.1 300 30)) + x1).toNatClampNeg (w_1.1 300 31) → pX11_e (fun w_3 => vp_in (((8 : Int32) * (w_3.1 300 30)) + x1) 16 ∧ ∀ w_4, w_4 = sA w_3 320 (((8 : Int32) * (w_3.1 300 30)) + x1).toNatClampNeg (w_3.1 300 31) → post w_4) w_2
set_option maxHeartbeats 4000000 in
set_option maxRecDepth 100000 in
theorem rX11_readRule {l : Launch} {g : Gw} {w : Wd} {post : Wd → Prop}   {x1 : Int32} (hp : pX11_readRule post x1 w) : MtV tabM l yX11_readRule cX11_readRule 2 none 6 g w [.ref (g.2.2 300), .int x1] post := by
  refine q_entV tabM_nd (by decide) rfl (Nat.le_of_ble_eq_true rfl) ?_
  intro p e s m args below meth c A Q ls hC hR hS hl
  have hx := hC.1
  have hb := hC.2.1
  have hl : lv_has ls 2 [(0, .ref (g.2.2 300)), (1, .int x1)] := hl
  unfold pX11_readRule at hp
  refine lv_aload_n hx hb dX11_readRule_0 rfl (lv_at hl 0 rfl) ?_
  refine lv_iconst hx hb dX11_readRule_1 kI_0 ?_
  refine P_300_34 hC hS m562 dX11_readRule_2 (fun w_1 H locs ew_1 hS => ?_)
  have hp := hp w_1 ew_1
  refine lv_aload_n hx hb dX11_readRule_5 rfl (lv_at hl 0 rfl) ?_
  refine G_300_18 hC hS m263 dX11_readRule_6 ?_
  refine lv_bipush hx hb dX11_readRule_9 kB_8 ?_
  refine lv_aload_n hx hb dX11_readRule_11 rfl (lv_at hl 0 rfl) ?_
  refine G_300_30 hC hS m302 dX11_readRule_12 ?_
  refine lv_imul hx hb dX11_readRule_15 ?_
  refine lv_iload_n hx hb dX11_readRule_16 rfl (lv_at hl 1 rfl) ?_
  refine lv_iadd hx hb dX11_readRule_17 ?_
  refine lv_aload_n hx hb dX11_readRule_18 rfl (lv_at hl 0 rfl) ?_
  refine G_300_31 hC hS m303 dX11_readRule_19 ?_
  refine Sa_319 hC hS hp.1 dX11_readRule_22 (fun w_2 H locs ew_2 hS => ?_)
  have hp := hp.2
  have hp := hp w_2 ew_2
  refine lv_aload_n hx hb dX11_readRule_23 rfl (lv_at hl 0 rfl) ?_
  refine q_cvV (As := []) (rest := []) hC hS hl.1 (rX11_e hp) cwX11_290 yvX11_e (rcv_300 hC hS) rfl rfl (Nat.le_of_ble_eq_true rfl) (rmk (by decide) (by decide)) dX11_readRule_24 (fun w_3 H locs hp hS => ?_)
  refine lv_aload_n hx hb dX11_readRule_27 rfl (lv_at hl 0 rfl) ?_
  refine G_300_19 hC hS m264 dX11_readRule_28 ?_
  refine lv_bipush hx hb dX11_readRule_31 kB_8 ?_
  refine lv_aload_n hx hb dX11_readRule_33 rfl (lv_at hl 0 rfl) ?_
  refine G_300_30 hC hS m302 dX11_readRule_34 ?_
  refine lv_imul hx hb dX11_readRule_37 ?_
  refine lv_iload_n hx hb dX11_readRule_38 rfl (lv_at hl 1 rfl) ?_
  refine lv_iadd hx hb dX11_readRule_39 ?_
  refine lv_aload_n hx hb dX11_readRule_40 rfl (lv_at hl 0 rfl) ?_
  refine G_300_31 hC hS m303 dX11_readRule_41 ?_
  refine Sa_320 hC hS hp.1 dX11_readRule_44 (fun w_4 H locs ew_4 hS => ?_)
  have hp := hp.2
  have hp := hp w_4 ew_4
  exact hR _ _ _ _ _ dX11_readRule_45 hp hS
def pX11_readHand_138 (post : Wd → Prop)  (w : Wd) : Prop := vp_in (w.1 300 30) 2 ∧ vp_in (w.1 300 30) 2 ∧ ∀ w_1, w_1 = sA w 314 (w.1 300 30).toNatClampNeg ((w.2.1 314 (w.1 300 30).toNatClampNeg) + (1 : Int32)) → post w_1
def pX11_readHand_103 (post : Wd → Prop)  (w : Wd) : Prop := pX11_isWord (fun r_1 w_2 => pX11_must (fun w_3 => pX11_isGood (fun r_4 w_5 => (r_4 = 0 → (pX11_readHand_138 post  w_5)) ∧ (¬ r_4 = 0 → (vp_in (w_5.1 300 30) 2 ∧ pX11_readRule (fun w_7 => pX11_readHand_138 post  w_7) (((2 : Int32) * (w_5.2.1 314 (w_5.1 300 30).toNatClampNeg)) + (1 : Int32)) w_5))) w_3) r_1 w_2) (439855377523 : Int64) w
def pX11_readHand_48 (post : Wd → Prop) (x1 : Int32) (w : Wd) : Prop := pX11_isGood (fun r_1 w_2 => (¬ r_1 = 0 → (vp_in x1 8 ∧ ∀ w_4, w_4 = sB w_2 324 x1.toNatClampNeg (w_2.2.2.1 300 10) → pX11_goOn (fun w_5 => pX11_isWord (fun r_6 w_7 => pX11_must (fun w_8 => pX11_isGood (fun r_9 w_10 => (r_9 = 0 → (pX11_readHand_103 post  w_10)) ∧ (¬ r_9 = 0 → (vp_in (w_10.1 300 30) 2 ∧ pX11_readRule (fun w_12 => pX11_readHand_103 post  w_12) ((2 : Int32) * (w_10.2.1 314 (w_10.1 300 30).toNatClampNeg)) w_10))) w_8) r_6 w_7) (512801993331 : Int64) w_5) w_4)) ∧ (r_1 = 0 → (post w_2))) w
def pX11_readHand (post : Wd → Prop)  (w : Wd) : Prop := vp_in (w.1 300 30) 2 ∧ ∀ x1_1, x1_1 = (((4 : Int32) * (w.1 300 30)) + (w.2.1 314 (w.1 300 30).toNatClampNeg)) → ((w.1 300 8) = (2 : Int32) → (pX11_handHere (fun r_3 w_4 => (r_3 < 0 → (pX11_readHand_48 post x1_1 w_4)) ∧ (¬ r_3 < 0 → (pX11_fails (fun w_6 => pX11_readHand_48 post x1_1 w_6) (3 : Int32) (w_4.1 300 6) w_4))) w)) ∧ (¬ (w.1 300 8) = (2 : Int32) → (pX11_misplaced (fun w_7 => pX11_readHand_48 post x1_1 w_7) w))
set_option maxHeartbeats 4000000 in
set_option maxRecDepth 100000 in
theorem bX11_readHand_138 {p : Program} {l : Launch} {e : Env} {s : State} {m : MethodId} {args : Array Value} {below : List Frame} {meth : Method} {c : Code} {Q : State → Prop} {A : Nat → Prop} {g : Gw} {post : Wd → Prop}  (hC : Cx p s m args c cX11_readHand RX11 2 g) (hR : RtV tabM p l e (rk 7) s m args below meth c Q cX11_readHand A g post)  : ∀  (w : Wd) (H : Heap) (locs : List Loc) (ls : Array Slot), pX11_readHand_138 post  w → St tabM A s.heap g w H locs → lv_has ls 2 [(0, .ref (g.2.2 300))] → W p l e (rk 7) s m args below meth c H locs 0 0 Q (F0 m 138 ls []) := by
  have hx := hC.1
  have hb := hC.2.1
  intro  w H locs ls hp hS hl
  unfold pX11_readHand_138 at hp
  refine lv_aload_n hx hb dX11_readHand_138 rfl (lv_at hl 0 rfl) ?_
  refine G_300_13 hC hS m258 dX11_readHand_139 ?_
  refine lv_aload_n hx hb dX11_readHand_142 rfl (lv_at hl 0 rfl) ?_
  refine G_300_30 hC hS m302 dX11_readHand_143 ?_
  refine lv_dup2_11 hx hb dX11_readHand_146 rfl rfl ?_
  refine La_314 hC hS hp.1 dX11_readHand_147 ?_
  have hp := hp.2
  refine lv_iconst hx hb dX11_readHand_148 kI_1 ?_
  refine lv_iadd hx hb dX11_readHand_149 ?_
  refine Sa_314 hC hS hp.1 dX11_readHand_150 (fun w_1 H locs ew_1 hS => ?_)
  have hp := hp.2
  have hp := hp w_1 ew_1
  exact hR _ _ _ _ _ dX11_readHand_151 hp hS
set_option maxHeartbeats 4000000 in
set_option maxRecDepth 100000 in
theorem bX11_readHand_103 {p : Program} {l : Launch} {e : Env} {s : State} {m : MethodId} {args : Array Value} {below : List Frame} {meth : Method} {c : Code} {Q : State → Prop} {A : Nat → Prop} {g : Gw} {post : Wd → Prop}  (hC : Cx p s m args c cX11_readHand RX11 2 g) (hR : RtV tabM p l e (rk 7) s m args below meth c Q cX11_readHand A g post)  : ∀  (w : Wd) (H : Heap) (locs : List Loc) (ls : Array Slot), pX11_readHand_103 post  w → St tabM A s.heap g w H locs → lv_has ls 2 [(0, .ref (g.2.2 300))] → W p l e (rk 7) s m args below meth c H locs 0 0 Q (F0 m 103 ls []) := by
  have hx := hC.1
  have hb := hC.2.1
  intro  w H locs ls hp hS hl
  unfold pX11_readHand_103 at hp
  refine lv_aload_n hx hb dX11_readHand_103 rfl (lv_at hl 0 rfl) ?_
  refine lv_aload_n hx hb dX11_readHand_104 rfl (lv_at hl 0 rfl) ?_
  refine lv_ldc2 hx hb hC.2.2.2.1 (hC.2.2.2.2.1 _ m495) dX11_readHand_105 ?_
  refine q_cvI (As := [.long (439855377523 : Int64)]) (rest := [.ref (g.2.2 300)]) hC hS hl.1 (rX11_isWord hp) cwX11_256 yvX11_isWord (rcv_300 hC hS) rfl rfl (Nat.le_of_ble_eq_true rfl) (rmk (by decide) (by decide)) dX11_readHand_108 (fun r_1 w_2 H locs hp hS => ?_)
  refine q_cvV (As := [.int r_1]) (rest := []) hC hS hl.1 (rX11_must hp) cwX11_275 yvX11_must (rcv_300 hC hS) rfl rfl (Nat.le_of_ble_eq_true rfl) (rmk (by decide) (by decide)) dX11_readHand_111 (fun w_3 H locs hp hS => ?_)
  refine lv_aload_n hx hb dX11_readHand_114 rfl (lv_at hl 0 rfl) ?_
  refine q_cvI (As := []) (rest := []) hC hS hl.1 (rX11_isGood hp) cwX11_231 yvX11_isGood (rcv_300 hC hS) rfl rfl (Nat.le_of_ble_eq_true rfl) (rmk (by decide) (by decide)) dX11_readHand_115 (fun r_4 w_5 H locs hp hS => ?_)
  refine lv_if_eq (tgt := 138) hx hb dX11_readHand_118 (by decide) (fun c_6 => ?_) (fun c_6 => ?_)
  · have hp := hp.1 c_6
    exact bX11_readHand_138 hC hR  w_5 _ _ _ hp hS (lv_sub hl [0] rfl)
  · have hp := hp.2 c_6
    refine lv_aload_n hx hb dX11_readHand_121 rfl (lv_at hl 0 rfl) ?_
    refine lv_iconst hx hb dX11_readHand_122 kI_2 ?_
    refine lv_aload_n hx hb dX11_readHand_123 rfl (lv_at hl 0 rfl) ?_
    refine G_300_13 hC hS m258 dX11_readHand_124 ?_
    refine lv_aload_n hx hb dX11_readHand_127 rfl (lv_at hl 0 rfl) ?_
    refine G_300_30 hC hS m302 dX11_readHand_128 ?_
    refine La_314 hC hS hp.1 dX11_readHand_131 ?_
    have hp := hp.2
    refine lv_imul hx hb dX11_readHand_132 ?_
    refine lv_iconst hx hb dX11_readHand_133 kI_1 ?_
    refine lv_iadd hx hb dX11_readHand_134 ?_
    refine q_cvV (As := [.int (((2 : Int32) * (w_5.2.1 314 (w_5.1 300 30).toNatClampNeg)) + (1 : Int32))]) (rest := []) hC hS hl.1 (rX11_readRule hp) cwX11_283 yvX11_readRule (rcv_300 hC hS) rfl rfl (Nat.le_of_ble_eq_true rfl) (rmk (by decide) (by decide)) dX11_readHand_135 (fun w_7 H locs hp hS => ?_)
    exact bX11_readHand_138 hC hR  w_7 _ _ _ hp hS (lv_sub hl [0] rfl)
set_option maxHeartbeats 4000000 in
set_option maxRecDepth 100000 in
theorem bX11_readHand_48 {p : Program} {l : Launch} {e : Env} {s : State} {m : MethodId} {args : Array Value} {below : List Frame} {meth : Method} {c : Code} {Q : State → Prop} {A : Nat → Prop} {g : Gw} {post : Wd → Prop}  (hC : Cx p s m args c cX11_readHand RX11 2 g) (hR : RtV tabM p l e (rk 7) s m args below meth c Q cX11_readHand A g post)  : ∀ (x1 : Int32) (w : Wd) (H : Heap) (locs : List Loc) (ls : Array Slot), pX11_readHand_48 post x1 w → St tabM A s.heap g w H locs → lv_has ls 2 [(0, .ref (g.2.2 300)), (1, .int x1)] → W p l e (rk 7) s m args below meth c H locs 0 0 Q (F0 m 48 ls []) := by
  have hx := hC.1
  have hb := hC.2.1
  intro x1 w H locs ls hp hS hl
  unfold pX11_readHand_48 at hp
  refine lv_aload_n hx hb dX11_readHand_48 rfl (lv_at hl 0 rfl) ?_
  refine q_cvI (As := []) (rest := []) hC hS hl.1 (rX11_isGood hp) cwX11_231 yvX11_isGood (rcv_300 hC hS) rfl rfl (Nat.le_of_ble_eq_true rfl) (rmk (by decide) (by decide)) dX11_readHand_49 (fun r_1 w_2 H locs hp hS => ?_)
  refine lv_if_ne (tgt := 56) hx hb dX11_readHand_52 (by decide) (fun c_3 => ?_) (fun c_3 => ?_)
  · have hp := hp.1 c_3
    refine lv_aload_n hx hb dX11_readHand_56 rfl (lv_at hl 0 rfl) ?_
    refine G_300_23 hC hS m268 dX11_readHand_57 ?_
    refine lv_iload_n hx hb dX11_readHand_60 rfl (lv_at hl 1 rfl) ?_
    refine lv_aload_n hx hb dX11_readHand_61 rfl (lv_at hl 0 rfl) ?_
    refine G_300_10 hC hS m479 dX11_readHand_62 ?_
    refine Sa_324 hC hS hp.1 dX11_readHand_65 (fun w_4 H locs ew_4 hS => ?_)
    have hp := hp.2
    have hp := hp w_4 ew_4
    refine lv_aload_n hx hb dX11_readHand_66 rfl (lv_at hl 0 rfl) ?_
    refine q_cvV (As := []) (rest := []) hC hS hl.1 (rX11_goOn hp) cwX11_235 yvX11_goOn (rcv_300 hC hS) rfl rfl (Nat.le_of_ble_eq_true rfl) (rmk (by decide) (by decide)) dX11_readHand_67 (fun w_5 H locs hp hS => ?_)
    refine lv_aload_n hx hb dX11_readHand_70 rfl (lv_at hl 0 rfl) ?_
    refine lv_aload_n hx hb dX11_readHand_71 rfl (lv_at hl 0 rfl) ?_
    refine lv_ldc2 hx hb hC.2.2.2.1 (hC.2.2.2.2.1 _ m494) dX11_readHand_72 ?_
    refine q_cvI (As := [.long (512801993331 : Int64)]) (rest := [.ref (g.2.2 300)]) hC hS hl.1 (rX11_isWord hp) cwX11_256 yvX11_isWord (rcv_300 hC hS) rfl rfl (Nat.le_of_ble_eq_true rfl) (rmk (by decide) (by decide)) dX11_readHand_75 (fun r_6 w_7 H locs hp hS => ?_)
    refine q_cvV (As := [.int r_6]) (rest := []) hC hS hl.1 (rX11_must hp) cwX11_275 yvX11_must (rcv_300 hC hS) rfl rfl (Nat.le_of_ble_eq_true rfl) (rmk (by decide) (by decide)) dX11_readHand_78 (fun w_8 H locs hp hS => ?_)
    refine lv_aload_n hx hb dX11_readHand_81 rfl (lv_at hl 0 rfl) ?_
    refine q_cvI (As := []) (rest := []) hC hS hl.1 (rX11_isGood hp) cwX11_231 yvX11_isGood (rcv_300 hC hS) rfl rfl (Nat.le_of_ble_eq_true rfl) (rmk (by decide) (by decide)) dX11_readHand_82 (fun r_9 w_10 H locs hp hS => ?_)
    refine lv_if_eq (tgt := 103) hx hb dX11_readHand_85 (by decide) (fun c_11 => ?_) (fun c_11 => ?_)
    · have hp := hp.1 c_11
      exact bX11_readHand_103 hC hR  w_10 _ _ _ hp hS (lv_sub hl [0] rfl)
    · have hp := hp.2 c_11
      refine lv_aload_n hx hb dX11_readHand_88 rfl (lv_at hl 0 rfl) ?_
      refine lv_iconst hx hb dX11_readHand_89 kI_2 ?_
      refine lv_aload_n hx hb dX11_readHand_90 rfl (lv_at hl 0 rfl) ?_
      refine G_300_13 hC hS m258 dX11_readHand_91 ?_
      refine lv_aload_n hx hb dX11_readHand_94 rfl (lv_at hl 0 rfl) ?_
      refine G_300_30 hC hS m302 dX11_readHand_95 ?_
      refine La_314 hC hS hp.1 dX11_readHand_98 ?_
      have hp := hp.2
      refine lv_imul hx hb dX11_readHand_99 ?_
      refine q_cvV (As := [.int ((2 : Int32) * (w_10.2.1 314 (w_10.1 300 30).toNatClampNeg))]) (rest := []) hC hS hl.1 (rX11_readRule hp) cwX11_283 yvX11_readRule (rcv_300 hC hS) rfl rfl (Nat.le_of_ble_eq_true rfl) (rmk (by decide) (by decide)) dX11_readHand_100 (fun w_12 H locs hp hS => ?_)
      exact bX11_readHand_103 hC hR  w_12 _ _ _ hp hS (lv_sub hl [0] rfl)
  · have hp := hp.2 c_3
    exact hR _ _ _ _ _ dX11_readHand_55 hp hS
set_option maxHeartbeats 4000000 in
set_option maxRecDepth 100000 in
theorem rX11_readHand {l : Launch} {g : Gw} {w : Wd} {post : Wd → Prop}    (hp : pX11_readHand post  w) : MtV tabM l yX11_readHand cX11_readHand 2 none 7 g w [.ref (g.2.2 300)] post := by
  refine q_entV tabM_nd (by decide) rfl (Nat.le_of_ble_eq_true rfl) ?_
  intro p e s m args below meth c A Q ls hC hR hS hl
  have hx := hC.1
  have hb := hC.2.1
  have hl : lv_has ls 2 [(0, .ref (g.2.2 300))] := hl
  unfold pX11_readHand at hp
  refine lv_iconst hx hb dX11_readHand_0 kI_4 ?_
  refine lv_aload_n hx hb dX11_readHand_1 rfl (lv_at hl 0 rfl) ?_
  refine G_300_30 hC hS m302 dX11_readHand_2 ?_
  refine lv_imul hx hb dX11_readHand_5 ?_
  refine lv_aload_n hx hb dX11_readHand_6 rfl (lv_at hl 0 rfl) ?_
  refine G_300_13 hC hS m258 dX11_readHand_7 ?_
  refine lv_aload_n hx hb dX11_readHand_10 rfl (lv_at hl 0 rfl) ?_
  refine G_300_30 hC hS m302 dX11_readHand_11 ?_
  refine La_314 hC hS hp.1 dX11_readHand_14 ?_
  have hp := hp.2
  refine lv_iadd hx hb dX11_readHand_15 ?_
  refine lv_topi (fun x1_1 ex1_1 => ?_)
  have hp := hp x1_1 ex1_1
  refine lv_istore_n (lv' := [(1, .int x1_1), (0, .ref (g.2.2 300))]) hx hb dX11_readHand_16 rfl hl (by decide) rfl (fun ls hl => ?_)
  refine lv_aload_n hx hb dX11_readHand_17 rfl (lv_at hl 1 rfl) ?_
  refine G_300_8 hC hS m473 dX11_readHand_18 ?_
  refine lv_iconst hx hb dX11_readHand_21 kI_2 ?_
  refine lv_icmp_eq (tgt := 32) hx hb dX11_readHand_22 (by decide) (fun c_2 => ?_) (fun c_2 => ?_)
  · have hp := hp.1 c_2
    refine lv_aload_n hx hb dX11_readHand_32 rfl (lv_at hl 1 rfl) ?_
    refine q_cvI (As := []) (rest := []) hC hS hl.1 (rX11_handHere hp) cwX11_279 yvX11_handHere (rcv_300 hC hS) rfl rfl (Nat.le_of_ble_eq_true rfl) (rmk (by decide) (by decide)) dX11_readHand_33 (fun r_3 w_4 H locs hp hS => ?_)
    refine lv_if_lt (tgt := 48) hx hb dX11_readHand_36 (by decide) (fun c_5 => ?_) (fun c_5 => ?_)
    · have hp := hp.1 c_5
      exact bX11_readHand_48 hC hR x1_1 w_4 _ _ _ hp hS (lv_sub hl [1, 0] rfl)
    · have hp := hp.2 c_5
      refine lv_aload_n hx hb dX11_readHand_39 rfl (lv_at hl 1 rfl) ?_
      refine lv_iconst hx hb dX11_readHand_40 kI_3 ?_
      refine lv_aload_n hx hb dX11_readHand_41 rfl (lv_at hl 1 rfl) ?_
      refine G_300_6 hC hS m478 dX11_readHand_42 ?_
      refine q_cvV (As := [.int (3 : Int32), .int (w_4.1 300 6)]) (rest := []) hC hS hl.1 (rX11_fails hp) cwX11_227 yvX11_fails (rcv_300 hC hS) rfl rfl (Nat.le_of_ble_eq_true rfl) (rmk (by decide) (by decide)) dX11_readHand_45 (fun w_6 H locs hp hS => ?_)
      exact bX11_readHand_48 hC hR x1_1 w_6 _ _ _ hp hS (lv_sub hl [1, 0] rfl)
  · have hp := hp.2 c_2
    refine lv_aload_n hx hb dX11_readHand_25 rfl (lv_at hl 1 rfl) ?_
    refine q_cvV (As := []) (rest := []) hC hS hl.1 (rX11_misplaced hp) cwX11_238 yvX11_misplaced (rcv_300 hC hS) rfl rfl (Nat.le_of_ble_eq_true rfl) (rmk (by decide) (by decide)) dX11_readHand_26 (fun w_7 H locs hp hS => ?_)
    refine lv_goto (tgt := 48) hx hb dX11_readHand_29 (by decide) ?_
    exact bX11_readHand_48 hC hR x1_1 w_7 _ _ _ hp hS (lv_sub hl [1, 0] rfl)
def pX11_readLine_132 (post : Wd → Prop) (x1 : Int64) (w : Wd) : Prop := (¬ (lg_cmp x1 (1685217655 : Int64)) = 0 → (pX11_isSignHere (fun r_2 w_3 => pX11_must (fun w_4 => post w_4) r_2 w_3) (59 : Int32) w)) ∧ ((lg_cmp x1 (1685217655 : Int64)) = 0 → (vp_in (w.1 300 30) 2 ∧ ∀ w_5, w_5 = sA w 323 (w.1 300 30).toNatClampNeg (vp_nar .boolean (1 : Int32)) → pX11_numeral (fun r_6 w_7 => vp_in (w_5.1 300 30) 2 ∧ ∀ w_8, w_8 = sA w_7 317 (w_5.1 300 30).toNatClampNeg r_6 → pX11_isSignHere (fun r_9 w_10 => pX11_must (fun w_11 => post w_11) r_9 w_10) (59 : Int32) w_8) (0 : Int32) (999 : Int32) w_5))
def pX11_readLine_97 (post : Wd → Prop) (x1 : Int64) (w : Wd) : Prop := (¬ (lg_cmp x1 (7823736 : Int64)) = 0 → (pX11_readLine_132 post x1 w)) ∧ ((lg_cmp x1 (7823736 : Int64)) = 0 → (vp_in (w.1 300 30) 2 ∧ ∀ w_2, w_2 = sA w 322 (w.1 300 30).toNatClampNeg (vp_nar .boolean (1 : Int32)) → pX11_numeral (fun r_3 w_4 => vp_in (w_2.1 300 30) 2 ∧ ∀ w_5, w_5 = sA w_4 316 (w_2.1 300 30).toNatClampNeg r_3 → pX11_readLine_132 post x1 w_5) (0 : Int32) (999 : Int32) w_2))
def pX11_readLine_85 (post : Wd → Prop) (x1 : Int64) (w : Wd) : Prop := (¬ (lg_cmp x1 (1751215716 : Int64)) = 0 → (pX11_readLine_97 post x1 w)) ∧ ((lg_cmp x1 (1751215716 : Int64)) = 0 → (pX11_readHand (fun w_2 => pX11_readLine_97 post x1 w_2) w))
def pX11_readLine_73 (post : Wd → Prop) (x1 : Int64) (w : Wd) : Prop := (¬ (lg_cmp x1 (439855772532 : Int64)) = 0 → (pX11_readLine_85 post x1 w)) ∧ ((lg_cmp x1 (439855772532 : Int64)) = 0 → (pX11_readFirst (fun w_2 => pX11_readLine_85 post x1 w_2) w))
def pX11_readLine_24 (post : Wd → Prop) (x1 : Int64) (w : Wd) : Prop := pX11_isGood (fun r_1 w_2 => (¬ r_1 = 0 → (pX11_goOn (fun w_4 => vp_in (w_4.1 300 30) 2 ∧ vp_in (w_4.1 300 30) 2 ∧ ∀ w_5, w_5 = sA w_4 318 (w_4.1 300 30).toNatClampNeg ((w_4.2.1 318 (w_4.1 300 30).toNatClampNeg) + (1 : Int32)) → (¬ (lg_cmp x1 (469786323827 : Int64)) = 0 → (pX11_readLine_73 post x1 w_5)) ∧ ((lg_cmp x1 (469786323827 : Int64)) = 0 → (pX11_numeral (fun r_7 w_8 => vp_in (w_5.1 300 30) 2 ∧ ∀ w_9, w_9 = sA w_8 312 (w_5.1 300 30).toNatClampNeg r_7 → pX11_readLine_73 post x1 w_9) (1 : Int32) (12 : Int32) w_5))) w_2)) ∧ (r_1 = 0 → (post w_2))) w
def pX11_readLine_20 (post : Wd → Prop) (x1 : Int64) (w : Wd) : Prop := pX11_misplaced (fun w_1 => pX11_readLine_24 post x1 w_1) w
def pX11_readLine (post : Wd → Prop)  (w : Wd) : Prop := ∀ x1_1, x1_1 = (w.2.2.1 300 10) → (¬ (w.1 300 8) = (3 : Int32) → (pX11_readLine_20 post x1_1 w)) ∧ ((w.1 300 8) = (3 : Int32) → (pX11_isFull (fun r_3 w_4 => (r_3 = 0 → (pX11_readLine_24 post x1_1 w_4)) ∧ (¬ r_3 = 0 → (pX11_readLine_20 post x1_1 w_4))) w))
set_option maxHeartbeats 4000000 in
set_option maxRecDepth 100000 in
theorem bX11_readLine_132 {p : Program} {l : Launch} {e : Env} {s : State} {m : MethodId} {args : Array Value} {below : List Frame} {meth : Method} {c : Code} {Q : State → Prop} {A : Nat → Prop} {g : Gw} {post : Wd → Prop}  (hC : Cx p s m args c cX11_readLine RX11 3 g) (hR : RtV tabM p l e (rk 8) s m args below meth c Q cX11_readLine A g post)  : ∀ (x1 : Int64) (w : Wd) (H : Heap) (locs : List Loc) (ls : Array Slot), pX11_readLine_132 post x1 w → St tabM A s.heap g w H locs → lv_has ls 3 [(0, .ref (g.2.2 300)), (1, .long x1)] → W p l e (rk 8) s m args below meth c H locs 0 0 Q (F0 m 132 ls []) := by
  have hx := hC.1
  have hb := hC.2.1
  intro x1 w H locs ls hp hS hl
  unfold pX11_readLine_132 at hp
  refine lv_lload_n hx hb dX11_readLine_132 rfl (lv_at hl 1 rfl) ?_
  refine lv_ldc2 hx hb hC.2.2.2.1 (hC.2.2.2.2.1 _ m497) dX11_readLine_133 ?_
  refine W.lcmp hx hb dX11_readLine_136 ?_
  refine lv_if_ne (tgt := 167) hx hb dX11_readLine_137 (by decide) (fun c_1 => ?_) (fun c_1 => ?_)
  · have hp := hp.1 c_1
    refine lv_aload_n hx hb dX11_readLine_167 rfl (lv_at hl 0 rfl) ?_
    refine lv_aload_n hx hb dX11_readLine_168 rfl (lv_at hl 0 rfl) ?_
    refine lv_bipush hx hb dX11_readLine_169 kB_59 ?_
    refine q_cvI (As := [.int (59 : Int32)]) (rest := [.ref (g.2.2 300)]) hC hS hl.1 (rX11_isSignHere hp) cwX11_272 yvX11_isSignHere (rcv_300 hC hS) rfl rfl (Nat.le_of_ble_eq_true rfl) (rmk (by decide) (by decide)) dX11_readLine_171 (fun r_2 w_3 H locs hp hS => ?_)
    refine q_cvV (As := [.int r_2]) (rest := []) hC hS hl.1 (rX11_must hp) cwX11_275 yvX11_must (rcv_300 hC hS) rfl rfl (Nat.le_of_ble_eq_true rfl) (rmk (by decide) (by decide)) dX11_readLine_174 (fun w_4 H locs hp hS => ?_)
    exact hR _ _ _ _ _ dX11_readLine_177 hp hS
  · have hp := hp.2 c_1
    refine lv_aload_n hx hb dX11_readLine_140 rfl (lv_at hl 0 rfl) ?_
    refine G_300_22 hC hS m267 dX11_readLine_141 ?_
    refine lv_aload_n hx hb dX11_readLine_144 rfl (lv_at hl 0 rfl) ?_
    refine G_300_30 hC hS m302 dX11_readLine_145 ?_
    refine lv_iconst hx hb dX11_readLine_148 kI_1 ?_
    refine Sa_323 hC hS hp.1 dX11_readLine_149 (fun w_5 H locs ew_5 hS => ?_)
    have hp := hp.2
    have hp := hp w_5 ew_5
    refine lv_aload_n hx hb dX11_readLine_150 rfl (lv_at hl 0 rfl) ?_
    refine G_300_16 hC hS m261 dX11_readLine_151 ?_
    refine lv_aload_n hx hb dX11_readLine_154 rfl (lv_at hl 0 rfl) ?_
    refine G_300_30 hC hS m302 dX11_readLine_155 ?_
    refine lv_aload_n hx hb dX11_readLine_158 rfl (lv_at hl 0 rfl) ?_
    refine lv_iconst hx hb dX11_readLine_159 kI_0 ?_
    refine lv_sipush hx hb dX11_readLine_160 kS_999 ?_
    refine q_cvI (As := [.int (0 : Int32), .int (999 : Int32)]) (rest := [.int (w_5.1 300 30), .ref (g.2.2 317)]) hC hS hl.1 (rX11_numeral hp) cwX11_262 yvX11_numeral (rcv_300 hC hS) rfl rfl (Nat.le_of_ble_eq_true rfl) (rmk (by decide) (by decide)) dX11_readLine_163 (fun r_6 w_7 H locs hp hS => ?_)
    refine Sa_317 hC hS hp.1 dX11_readLine_166 (fun w_8 H locs ew_8 hS => ?_)
    have hp := hp.2
    have hp := hp w_8 ew_8
    refine lv_aload_n hx hb dX11_readLine_167 rfl (lv_at hl 0 rfl) ?_
    refine lv_aload_n hx hb dX11_readLine_168 rfl (lv_at hl 0 rfl) ?_
    refine lv_bipush hx hb dX11_readLine_169 kB_59 ?_
    refine q_cvI (As := [.int (59 : Int32)]) (rest := [.ref (g.2.2 300)]) hC hS hl.1 (rX11_isSignHere hp) cwX11_272 yvX11_isSignHere (rcv_300 hC hS) rfl rfl (Nat.le_of_ble_eq_true rfl) (rmk (by decide) (by decide)) dX11_readLine_171 (fun r_9 w_10 H locs hp hS => ?_)
    refine q_cvV (As := [.int r_9]) (rest := []) hC hS hl.1 (rX11_must hp) cwX11_275 yvX11_must (rcv_300 hC hS) rfl rfl (Nat.le_of_ble_eq_true rfl) (rmk (by decide) (by decide)) dX11_readLine_174 (fun w_11 H locs hp hS => ?_)
    exact hR _ _ _ _ _ dX11_readLine_177 hp hS
set_option maxHeartbeats 4000000 in
set_option maxRecDepth 100000 in
theorem bX11_readLine_97 {p : Program} {l : Launch} {e : Env} {s : State} {m : MethodId} {args : Array Value} {below : List Frame} {meth : Method} {c : Code} {Q : State → Prop} {A : Nat → Prop} {g : Gw} {post : Wd → Prop}  (hC : Cx p s m args c cX11_readLine RX11 3 g) (hR : RtV tabM p l e (rk 8) s m args below meth c Q cX11_readLine A g post)  : ∀ (x1 : Int64) (w : Wd) (H : Heap) (locs : List Loc) (ls : Array Slot), pX11_readLine_97 post x1 w → St tabM A s.heap g w H locs → lv_has ls 3 [(0, .ref (g.2.2 300)), (1, .long x1)] → W p l e (rk 8) s m args below meth c H locs 0 0 Q (F0 m 97 ls []) := by
  have hx := hC.1
  have hb := hC.2.1
  intro x1 w H locs ls hp hS hl
  unfold pX11_readLine_97 at hp
  refine lv_lload_n hx hb dX11_readLine_97 rfl (lv_at hl 1 rfl) ?_
  refine lv_ldc2 hx hb hC.2.2.2.1 (hC.2.2.2.2.1 _ m496) dX11_readLine_98 ?_
  refine W.lcmp hx hb dX11_readLine_101 ?_
  refine lv_if_ne (tgt := 132) hx hb dX11_readLine_102 (by decide) (fun c_1 => ?_) (fun c_1 => ?_)
  · have hp := hp.1 c_1
    exact bX11_readLine_132 hC hR x1 w _ _ _ hp hS (lv_sub hl [0, 1] rfl)
  · have hp := hp.2 c_1
    refine lv_aload_n hx hb dX11_readLine_105 rfl (lv_at hl 0 rfl) ?_
    refine G_300_21 hC hS m266 dX11_readLine_106 ?_
    refine lv_aload_n hx hb dX11_readLine_109 rfl (lv_at hl 0 rfl) ?_
    refine G_300_30 hC hS m302 dX11_readLine_110 ?_
    refine lv_iconst hx hb dX11_readLine_113 kI_1 ?_
    refine Sa_322 hC hS hp.1 dX11_readLine_114 (fun w_2 H locs ew_2 hS => ?_)
    have hp := hp.2
    have hp := hp w_2 ew_2
    refine lv_aload_n hx hb dX11_readLine_115 rfl (lv_at hl 0 rfl) ?_
    refine G_300_15 hC hS m260 dX11_readLine_116 ?_
    refine lv_aload_n hx hb dX11_readLine_119 rfl (lv_at hl 0 rfl) ?_
    refine G_300_30 hC hS m302 dX11_readLine_120 ?_
    refine lv_aload_n hx hb dX11_readLine_123 rfl (lv_at hl 0 rfl) ?_
    refine lv_iconst hx hb dX11_readLine_124 kI_0 ?_
    refine lv_sipush hx hb dX11_readLine_125 kS_999 ?_
    refine q_cvI (As := [.int (0 : Int32), .int (999 : Int32)]) (rest := [.int (w_2.1 300 30), .ref (g.2.2 316)]) hC hS hl.1 (rX11_numeral hp) cwX11_262 yvX11_numeral (rcv_300 hC hS) rfl rfl (Nat.le_of_ble_eq_true rfl) (rmk (by decide) (by decide)) dX11_readLine_128 (fun r_3 w_4 H locs hp hS => ?_)
    refine Sa_316 hC hS hp.1 dX11_readLine_131 (fun w_5 H locs ew_5 hS => ?_)
    have hp := hp.2
    have hp := hp w_5 ew_5
    exact bX11_readLine_132 hC hR x1 w_5 _ _ _ hp hS (lv_sub hl [0, 1] rfl)
set_option maxHeartbeats 4000000 in
set_option maxRecDepth 100000 in
theorem bX11_readLine_85 {p : Program} {l : Launch} {e : Env} {s : State} {m : MethodId} {args : Array Value} {below : List Frame} {meth : Method} {c : Code} {Q : State → Prop} {A : Nat → Prop} {g : Gw} {post : Wd → Prop}  (hC : Cx p s m args c cX11_readLine RX11 3 g) (hR : RtV tabM p l e (rk 8) s m args below meth c Q cX11_readLine A g post)  : ∀ (x1 : Int64) (w : Wd) (H : Heap) (locs : List Loc) (ls : Array Slot), pX11_readLine_85 post x1 w → St tabM A s.heap g w H locs → lv_has ls 3 [(0, .ref (g.2.2 300)), (1, .long x1)] → W p l e (rk 8) s m args below meth c H locs 0 0 Q (F0 m 85 ls []) := by
  have hx := hC.1
  have hb := hC.2.1
  intro x1 w H locs ls hp hS hl
  unfold pX11_readLine_85 at hp
  refine lv_lload_n hx hb dX11_readLine_85 rfl (lv_at hl 1 rfl) ?_
  refine lv_ldc2 hx hb hC.2.2.2.1 (hC.2.2.2.2.1 _ m493) dX11_readLine_86 ?_
  refine W.lcmp hx hb dX11_readLine_89 ?_
  refine lv_if_ne (tgt := 97) hx hb dX11_readLine_90 (by decide) (fun c_1 => ?_) (fun c_1 => ?_)
  · have hp := hp.1 c_1
    exact bX11_readLine_97 hC hR x1 w _ _ _ hp hS (lv_sub hl [0, 1] rfl)
  · have hp := hp.2 c_1
    refine lv_aload_n hx hb dX11_readLine_93 rfl (lv_at hl 0 rfl) ?_
    refine q_cvV (As := []) (rest := []) hC hS hl.1 (rX11_readHand hp) cwX11_269 yvX11_readHand (rcv_300 hC hS) rfl rfl (Nat.le_of_ble_eq_true rfl) (rmk (by decide) (by decide)) dX11_readLine_94 (fun w_2 H locs hp hS => ?_)
    exact bX11_readLine_97 hC hR x1 w_2 _ _ _ hp hS (lv_sub hl [0, 1] rfl)
set_option maxHeartbeats 4000000 in
set_option maxRecDepth 100000 in
theorem bX11_readLine_73 {p : Program} {l : Launch} {e : Env} {s : State} {m : MethodId} {args : Array Value} {below : List Frame} {meth : Method} {c : Code} {Q : State → Prop} {A : Nat → Prop} {g : Gw} {post : Wd → Prop}  (hC : Cx p s m args c cX11_readLine RX11 3 g) (hR : RtV tabM p l e (rk 8) s m args below meth c Q cX11_readLine A g post)  : ∀ (x1 : Int64) (w : Wd) (H : Heap) (locs : List Loc) (ls : Array Slot), pX11_readLine_73 post x1 w → St tabM A s.heap g w H locs → lv_has ls 3 [(0, .ref (g.2.2 300)), (1, .long x1)] → W p l e (rk 8) s m args below meth c H locs 0 0 Q (F0 m 73 ls []) := by
  have hx := hC.1
  have hb := hC.2.1
  intro x1 w H locs ls hp hS hl
  unfold pX11_readLine_73 at hp
  refine lv_lload_n hx hb dX11_readLine_73 rfl (lv_at hl 1 rfl) ?_
  refine lv_ldc2 hx hb hC.2.2.2.1 (hC.2.2.2.2.1 _ m492) dX11_readLine_74 ?_
  refine W.lcmp hx hb dX11_readLine_77 ?_
  refine lv_if_ne (tgt := 85) hx hb dX11_readLine_78 (by decide) (fun c_1 => ?_) (fun c_1 => ?_)
  · have hp := hp.1 c_1
    exact bX11_readLine_85 hC hR x1 w _ _ _ hp hS (lv_sub hl [0, 1] rfl)
  · have hp := hp.2 c_1
    refine lv_aload_n hx hb dX11_readLine_81 rfl (lv_at hl 0 rfl) ?_
    refine q_cvV (As := []) (rest := []) hC hS hl.1 (rX11_readFirst hp) cwX11_266 yvX11_readFirst (rcv_300 hC hS) rfl rfl (Nat.le_of_ble_eq_true rfl) (rmk (by decide) (by decide)) dX11_readLine_82 (fun w_2 H locs hp hS => ?_)
    exact bX11_readLine_85 hC hR x1 w_2 _ _ _ hp hS (lv_sub hl [0, 1] rfl)
set_option maxHeartbeats 4000000 in
set_option maxRecDepth 100000 in
theorem bX11_readLine_24 {p : Program} {l : Launch} {e : Env} {s : State} {m : MethodId} {args : Array Value} {below : List Frame} {meth : Method} {c : Code} {Q : State → Prop} {A : Nat → Prop} {g : Gw} {post : Wd → Prop}  (hC : Cx p s m args c cX11_readLine RX11 3 g) (hR : RtV tabM p l e (rk 8) s m args below meth c Q cX11_readLine A g post)  : ∀ (x1 : Int64) (w : Wd) (H : Heap) (locs : List Loc) (ls : Array Slot), pX11_readLine_24 post x1 w → St tabM A s.heap g w H locs → lv_has ls 3 [(0, .ref (g.2.2 300)), (1, .long x1)] → W p l e (rk 8) s m args below meth c H locs 0 0 Q (F0 m 24 ls []) := by
  have hx := hC.1
  have hb := hC.2.1
  intro x1 w H locs ls hp hS hl
  unfold pX11_readLine_24 at hp
  refine lv_aload_n hx hb dX11_readLine_24 rfl (lv_at hl 0 rfl) ?_
  refine q_cvI (As := []) (rest := []) hC hS hl.1 (rX11_isGood hp) cwX11_231 yvX11_isGood (rcv_300 hC hS) rfl rfl (Nat.le_of_ble_eq_true rfl) (rmk (by decide) (by decide)) dX11_readLine_25 (fun r_1 w_2 H locs hp hS => ?_)
  refine lv_if_ne (tgt := 32) hx hb dX11_readLine_28 (by decide) (fun c_3 => ?_) (fun c_3 => ?_)
  · have hp := hp.1 c_3
    refine lv_aload_n hx hb dX11_readLine_32 rfl (lv_at hl 0 rfl) ?_
    refine q_cvV (As := []) (rest := []) hC hS hl.1 (rX11_goOn hp) cwX11_235 yvX11_goOn (rcv_300 hC hS) rfl rfl (Nat.le_of_ble_eq_true rfl) (rmk (by decide) (by decide)) dX11_readLine_33 (fun w_4 H locs hp hS => ?_)
    refine lv_aload_n hx hb dX11_readLine_36 rfl (lv_at hl 0 rfl) ?_
    refine G_300_17 hC hS m262 dX11_readLine_37 ?_
    refine lv_aload_n hx hb dX11_readLine_40 rfl (lv_at hl 0 rfl) ?_
    refine G_300_30 hC hS m302 dX11_readLine_41 ?_
    refine lv_dup2_11 hx hb dX11_readLine_44 rfl rfl ?_
    refine La_318 hC hS hp.1 dX11_readLine_45 ?_
    have hp := hp.2
    refine lv_iconst hx hb dX11_readLine_46 kI_1 ?_
    refine lv_iadd hx hb dX11_readLine_47 ?_
    refine Sa_318 hC hS hp.1 dX11_readLine_48 (fun w_5 H locs ew_5 hS => ?_)
    have hp := hp.2
    have hp := hp w_5 ew_5
    refine lv_lload_n hx hb dX11_readLine_49 rfl (lv_at hl 1 rfl) ?_
    refine lv_ldc2 hx hb hC.2.2.2.1 (hC.2.2.2.2.1 _ m491) dX11_readLine_50 ?_
    refine W.lcmp hx hb dX11_readLine_53 ?_
    refine lv_if_ne (tgt := 73) hx hb dX11_readLine_54 (by decide) (fun c_6 => ?_) (fun c_6 => ?_)
    · have hp := hp.1 c_6
      exact bX11_readLine_73 hC hR x1 w_5 _ _ _ hp hS (lv_sub hl [0, 1] rfl)
    · have hp := hp.2 c_6
      refine lv_aload_n hx hb dX11_readLine_57 rfl (lv_at hl 0 rfl) ?_
      refine G_300_11 hC hS m256 dX11_readLine_58 ?_
      refine lv_aload_n hx hb dX11_readLine_61 rfl (lv_at hl 0 rfl) ?_
      refine G_300_30 hC hS m302 dX11_readLine_62 ?_
      refine lv_aload_n hx hb dX11_readLine_65 rfl (lv_at hl 0 rfl) ?_
      refine lv_iconst hx hb dX11_readLine_66 kI_1 ?_
      refine lv_bipush hx hb dX11_readLine_67 kB_12 ?_
      refine q_cvI (As := [.int (1 : Int32), .int (12 : Int32)]) (rest := [.int (w_5.1 300 30), .ref (g.2.2 312)]) hC hS hl.1 (rX11_numeral hp) cwX11_262 yvX11_numeral (rcv_300 hC hS) rfl rfl (Nat.le_of_ble_eq_true rfl) (rmk (by decide) (by decide)) dX11_readLine_69 (fun r_7 w_8 H locs hp hS => ?_)
      refine Sa_312 hC hS hp.1 dX11_readLine_72 (fun w_9 H locs ew_9 hS => ?_)
      have hp := hp.2
      have hp := hp w_9 ew_9
      exact bX11_readLine_73 hC hR x1 w_9 _ _ _ hp hS (lv_sub hl [0, 1] rfl)
  · have hp := hp.2 c_3
    exact hR _ _ _ _ _ dX11_readLine_31 hp hS
set_option maxHeartbeats 4000000 in
set_option maxRecDepth 100000 in
theorem bX11_readLine_20 {p : Program} {l : Launch} {e : Env} {s : State} {m : MethodId} {args : Array Value} {below : List Frame} {meth : Method} {c : Code} {Q : State → Prop} {A : Nat → Prop} {g : Gw} {post : Wd → Prop}  (hC : Cx p s m args c cX11_readLine RX11 3 g) (hR : RtV tabM p l e (rk 8) s m args below meth c Q cX11_readLine A g post)  : ∀ (x1 : Int64) (w : Wd) (H : Heap) (locs : List Loc) (ls : Array Slot), pX11_readLine_20 post x1 w → St tabM A s.heap g w H locs → lv_has ls 3 [(0, .ref (g.2.2 300)), (1, .long x1)] → W p l e (rk 8) s m args below meth c H locs 0 0 Q (F0 m 20 ls []) := by
  have hx := hC.1
  have hb := hC.2.1
  intro x1 w H locs ls hp hS hl
  unfold pX11_readLine_20 at hp
  refine lv_aload_n hx hb dX11_readLine_20 rfl (lv_at hl 0 rfl) ?_
  refine q_cvV (As := []) (rest := []) hC hS hl.1 (rX11_misplaced hp) cwX11_238 yvX11_misplaced (rcv_300 hC hS) rfl rfl (Nat.le_of_ble_eq_true rfl) (rmk (by decide) (by decide)) dX11_readLine_21 (fun w_1 H locs hp hS => ?_)
  exact bX11_readLine_24 hC hR x1 w_1 _ _ _ hp hS (lv_sub hl [0, 1] rfl)
set_option maxHeartbeats 4000000 in
set_option maxRecDepth 100000 in
theorem rX11_readLine {l : Launch} {g : Gw} {w : Wd} {post : Wd → Prop}    (hp : pX11_readLine post  w) : MtV tabM l yX11_readLine cX11_readLine 3 none 8 g w [.ref (g.2.2 300)] post := by
  refine q_entV tabM_nd (by decide) rfl (Nat.le_of_ble_eq_true rfl) ?_
  intro p e s m args below meth c A Q ls hC hR hS hl
  have hx := hC.1
  have hb := hC.2.1
  have hl : lv_has ls 3 [(0, .ref (g.2.2 300))] := hl
  unfold pX11_readLine at hp
  refine lv_aload_n hx hb dX11_readLine_0 rfl (lv_at hl 0 rfl) ?_
  refine G_300_10 hC hS m479 dX11_readLine_1 ?_
  refine lv_topl (fun x1_1 ex1_1 => ?_)
  have hp := hp x1_1 ex1_1
  refine lv_lstore_n (lv' := [(1, .long x1_1), (0, .ref (g.2.2 300))]) hx hb dX11_readLine_4 rfl hl (by decide) rfl (fun ls hl => ?_)
  refine lv_aload_n hx hb dX11_readLine_5 rfl (lv_at hl 1 rfl) ?_
  refine G_300_8 hC hS m473 dX11_readLine_6 ?_
  refine lv_iconst hx hb dX11_readLine_9 kI_3 ?_
  refine lv_icmp_ne (tgt := 20) hx hb dX11_readLine_10 (by decide) (fun c_2 => ?_) (fun c_2 => ?_)
  · have hp := hp.1 c_2
    exact bX11_readLine_20 hC hR x1_1 w _ _ _ hp hS (lv_sub hl [1, 0] rfl)
  · have hp := hp.2 c_2
    refine lv_aload_n hx hb dX11_readLine_13 rfl (lv_at hl 1 rfl) ?_
    refine q_cvI (As := []) (rest := []) hC hS hl.1 (rX11_isFull hp) cwX11_259 yvX11_isFull (rcv_300 hC hS) rfl rfl (Nat.le_of_ble_eq_true rfl) (rmk (by decide) (by decide)) dX11_readLine_14 (fun r_3 w_4 H locs hp hS => ?_)
    refine lv_if_eq (tgt := 24) hx hb dX11_readLine_17 (by decide) (fun c_5 => ?_) (fun c_5 => ?_)
    · have hp := hp.1 c_5
      exact bX11_readLine_24 hC hR x1_1 w_4 _ _ _ hp hS (lv_sub hl [1, 0] rfl)
    · have hp := hp.2 c_5
      exact bX11_readLine_20 hC hR x1_1 w_4 _ _ _ hp hS (lv_sub hl [1, 0] rfl)
def pX11_startAnew_116 (post : Wd → Prop) : Nat → Int32 → Wd → Prop
  | 0, _, _ => False
  | n + 1, x1, w => ((3 : Int32) ≤ x1 → (post w)) ∧ (¬ (3 : Int32) ≤ x1 → (vp_in x1 3 ∧ ∀ w_2, w_2 = sA w 369 x1.toNatClampNeg (vp_nar .boolean (0 : Int32)) → ∀ x1_3, x1_3 = x1 + (1 : Int32) → pX11_startAnew_116 post n x1_3 w_2))
def pX11_startAnew_2 (post : Wd → Prop) : Nat → Int32 → Wd → Prop
  | 0, _, _ => False
  | n + 1, x1, w => ((221 : Int32) ≤ x1 → (vp_in (w.1 300 29) 2 ∧ ∀ w_2, w_2 = sA w 341 (0 : Int32).toNatClampNeg (w.2.1 313 (w.1 300 29).toNatClampNeg) → ∀ w_3, w_3 = sA w_2 341 (1 : Int32).toNatClampNeg (-1 : Int32) → ∀ w_4, w_4 = sA w_3 341 (2 : Int32).toNatClampNeg (-1 : Int32) → ∀ w_5, w_5 = sA w_4 341 (216 : Int32).toNatClampNeg (1 : Int32) → vp_in (w_5.1 300 29) 2 ∧ ∀ w_6, w_6 = sA w_5 341 (218 : Int32).toNatClampNeg (w_5.2.1 316 (w_5.1 300 29).toNatClampNeg) → vp_in (w_6.1 300 29) 2 ∧ ∀ w_7, w_7 = sA w_6 341 (220 : Int32).toNatClampNeg (w_6.2.1 317 (w_6.1 300 29).toNatClampNeg) → ∀ w_8, w_8 = sI w_7 300 42 (0 : Int32) → ∀ w_9, w_9 = sI w_8 300 43 (0 : Int32) → ∀ w_10, w_10 = sI w_9 300 58 (0 : Int32) → ∀ w_11, w_11 = sI w_10 300 48 (0 : Int32) → ∃ n9, pX11_startAnew_116 post n9 (0 : Int32) w_11)) ∧ (¬ (221 : Int32) ≤ x1 → (vp_in x1 221 ∧ ∀ w_12, w_12 = sA w 341 x1.toNatClampNeg (0 : Int32) → ∀ x1_13, x1_13 = x1 + (1 : Int32) → pX11_startAnew_2 post n x1_13 w_12))
def pX11_startAnew (post : Wd → Prop)  (w : Wd) : Prop := ∃ n9, pX11_startAnew_2 post n9 (0 : Int32) w
set_option maxHeartbeats 4000000 in
set_option maxRecDepth 100000 in
theorem bX11_startAnew_116 {p : Program} {l : Launch} {e : Env} {s : State} {m : MethodId} {args : Array Value} {below : List Frame} {meth : Method} {c : Code} {Q : State → Prop} {A : Nat → Prop} {g : Gw} {post : Wd → Prop}  (hC : Cx p s m args c cX11_startAnew RX11 2 g) (hR : RtV tabM p l e (rk 1) s m args below meth c Q cX11_startAnew A g post)  : ∀ (n : Nat) (x1 : Int32) (w : Wd) (H : Heap) (locs : List Loc) (ls : Array Slot), pX11_startAnew_116 post n x1 w → St tabM A s.heap g w H locs → lv_has ls 2 [(0, .ref (g.2.2 300)), (1, .int x1)] → W p l e (rk 1) s m args below meth c H locs 0 0 Q (F0 m 116 ls []) := by
  have hx := hC.1
  have hb := hC.2.1
  intro n
  induction n with
  | zero =>
    intro x1 w H locs ls hp hS hl
    exact False.elim hp
  | succ n ih =>
    intro x1 w H locs ls hp hS hl
    unfold pX11_startAnew_116 at hp
    refine lv_iload_n hx hb dX11_startAnew_116 rfl (lv_at hl 1 rfl) ?_
    refine lv_iconst hx hb dX11_startAnew_117 kI_3 ?_
    refine lv_icmp_ge (tgt := 134) hx hb dX11_startAnew_118 (by decide) (fun c_1 => ?_) (fun c_1 => ?_)
    · have hp := hp.1 c_1
      exact hR _ _ _ _ _ dX11_startAnew_134 hp hS
    · have hp := hp.2 c_1
      refine lv_aload_n hx hb dX11_startAnew_121 rfl (lv_at hl 0 rfl) ?_
      refine G_300_68 hC hS m297 dX11_startAnew_122 ?_
      refine lv_iload_n hx hb dX11_startAnew_125 rfl (lv_at hl 1 rfl) ?_
      refine lv_iconst hx hb dX11_startAnew_126 kI_0 ?_
      refine Sa_369 hC hS hp.1 dX11_startAnew_127 (fun w_2 H locs ew_2 hS => ?_)
      have hp := hp.2
      have hp := hp w_2 ew_2
      obtain ⟨x1_3, ex1_3⟩ : ∃ y : Int32, y = x1 + (1 : Int32) := ⟨_, rfl⟩
      have hp := hp x1_3 ex1_3
      refine lv_iinc (v := x1_3) (lv' := [(1, .int x1_3), (0, .ref (g.2.2 300))]) hx hb dX11_startAnew_128 hl (k := 1) rfl (by rw [ex1_3]; rfl) (by decide) rfl (fun ls hl => ?_)
      refine lv_goto (tgt := 116) hx hb dX11_startAnew_131 (by decide) ?_
      exact ih x1_3 w_2 _ _ _ hp hS (lv_sub hl [1, 0] rfl)
set_option maxHeartbeats 4000000 in
set_option maxRecDepth 100000 in
theorem bX11_startAnew_2 {p : Program} {l : Launch} {e : Env} {s : State} {m : MethodId} {args : Array Value} {below : List Frame} {meth : Method} {c : Code} {Q : State → Prop} {A : Nat → Prop} {g : Gw} {post : Wd → Prop}  (hC : Cx p s m args c cX11_startAnew RX11 2 g) (hR : RtV tabM p l e (rk 1) s m args below meth c Q cX11_startAnew A g post)  : ∀ (n : Nat) (x1 : Int32) (w : Wd) (H : Heap) (locs : List Loc) (ls : Array Slot), pX11_startAnew_2 post n x1 w → St tabM A s.heap g w H locs → lv_has ls 2 [(0, .ref (g.2.2 300)), (1, .int x1)] → W p l e (rk 1) s m args below meth c H locs 0 0 Q (F0 m 2 ls []) := by
  have hx := hC.1
  have hb := hC.2.1
  intro n
  induction n with
  | zero =>
    intro x1 w H locs ls hp hS hl
    exact False.elim hp
  | succ n ih =>
    intro x1 w H locs ls hp hS hl
    unfold pX11_startAnew_2 at hp
    refine lv_iload_n hx hb dX11_startAnew_2 rfl (lv_at hl 1 rfl) ?_
    refine lv_sipush hx hb dX11_startAnew_3 kS_221 ?_
    refine lv_icmp_ge (tgt := 22) hx hb dX11_startAnew_6 (by decide) (fun c_1 => ?_) (fun c_1 => ?_)
    · have hp := hp.1 c_1
      refine lv_aload_n hx hb dX11_startAnew_22 rfl (lv_at hl 0 rfl) ?_
      refine G_300_40 hC hS m274 dX11_startAnew_23 ?_
      refine lv_iconst hx hb dX11_startAnew_26 kI_0 ?_
      refine lv_aload_n hx hb dX11_startAnew_27 rfl (lv_at hl 0 rfl) ?_
      refine G_300_12 hC hS m257 dX11_startAnew_28 ?_
      refine lv_aload_n hx hb dX11_startAnew_31 rfl (lv_at hl 0 rfl) ?_
      refine G_300_29 hC hS m308 dX11_startAnew_32 ?_
      refine La_313 hC hS hp.1 dX11_startAnew_35 ?_
      have hp := hp.2
      refine Sa_341 hC hS (by unfold vp_in; decide) dX11_startAnew_36 (fun w_2 H locs ew_2 hS => ?_)
      have hp := hp w_2 ew_2
      refine lv_aload_n hx hb dX11_startAnew_37 rfl (lv_at hl 0 rfl) ?_
      refine G_300_40 hC hS m274 dX11_startAnew_38 ?_
      refine lv_iconst hx hb dX11_startAnew_41 kI_1 ?_
      refine lv_iconst hx hb dX11_startAnew_42 kI_m1 ?_
      refine Sa_341 hC hS (by unfold vp_in; decide) dX11_startAnew_43 (fun w_3 H locs ew_3 hS => ?_)
      have hp := hp w_3 ew_3
      refine lv_aload_n hx hb dX11_startAnew_44 rfl (lv_at hl 0 rfl) ?_
      refine G_300_40 hC hS m274 dX11_startAnew_45 ?_
      refine lv_iconst hx hb dX11_startAnew_48 kI_2 ?_
      refine lv_iconst hx hb dX11_startAnew_49 kI_m1 ?_
      refine Sa_341 hC hS (by unfold vp_in; decide) dX11_startAnew_50 (fun w_4 H locs ew_4 hS => ?_)
      have hp := hp w_4 ew_4
      refine lv_aload_n hx hb dX11_startAnew_51 rfl (lv_at hl 0 rfl) ?_
      refine G_300_40 hC hS m274 dX11_startAnew_52 ?_
      refine lv_sipush hx hb dX11_startAnew_55 kS_216 ?_
      refine lv_iconst hx hb dX11_startAnew_58 kI_1 ?_
      refine Sa_341 hC hS (by unfold vp_in; decide) dX11_startAnew_59 (fun w_5 H locs ew_5 hS => ?_)
      have hp := hp w_5 ew_5
      refine lv_aload_n hx hb dX11_startAnew_60 rfl (lv_at hl 0 rfl) ?_
      refine G_300_40 hC hS m274 dX11_startAnew_61 ?_
      refine lv_sipush hx hb dX11_startAnew_64 kS_218 ?_
      refine lv_aload_n hx hb dX11_startAnew_67 rfl (lv_at hl 0 rfl) ?_
      refine G_300_15 hC hS m260 dX11_startAnew_68 ?_
      refine lv_aload_n hx hb dX11_startAnew_71 rfl (lv_at hl 0 rfl) ?_
      refine G_300_29 hC hS m308 dX11_startAnew_72 ?_
      refine La_316 hC hS hp.1 dX11_startAnew_75 ?_
      have hp := hp.2
      refine Sa_341 hC hS (by unfold vp_in; decide) dX11_startAnew_76 (fun w_6 H locs ew_6 hS => ?_)
      have hp := hp w_6 ew_6
      refine lv_aload_n hx hb dX11_startAnew_77 rfl (lv_at hl 0 rfl) ?_
      refine G_300_40 hC hS m274 dX11_startAnew_78 ?_
      refine lv_sipush hx hb dX11_startAnew_81 kS_220 ?_
      refine lv_aload_n hx hb dX11_startAnew_84 rfl (lv_at hl 0 rfl) ?_
      refine G_300_16 hC hS m261 dX11_startAnew_85 ?_
      refine lv_aload_n hx hb dX11_startAnew_88 rfl (lv_at hl 0 rfl) ?_
      refine G_300_29 hC hS m308 dX11_startAnew_89 ?_
      refine La_317 hC hS hp.1 dX11_startAnew_92 ?_
      have hp := hp.2
      refine Sa_341 hC hS (by unfold vp_in; decide) dX11_startAnew_93 (fun w_7 H locs ew_7 hS => ?_)
      have hp := hp w_7 ew_7
      refine lv_aload_n hx hb dX11_startAnew_94 rfl (lv_at hl 0 rfl) ?_
      refine lv_iconst hx hb dX11_startAnew_95 kI_0 ?_
      refine P_300_42 hC hS m309 dX11_startAnew_96 (fun w_8 H locs ew_8 hS => ?_)
      have hp := hp w_8 ew_8
      refine lv_aload_n hx hb dX11_startAnew_99 rfl (lv_at hl 0 rfl) ?_
      refine lv_iconst hx hb dX11_startAnew_100 kI_0 ?_
      refine P_300_43 hC hS m310 dX11_startAnew_101 (fun w_9 H locs ew_9 hS => ?_)
      have hp := hp w_9 ew_9
      refine lv_aload_n hx hb dX11_startAnew_104 rfl (lv_at hl 0 rfl) ?_
      refine lv_iconst hx hb dX11_startAnew_105 kI_0 ?_
      refine P_300_58 hC hS m311 dX11_startAnew_106 (fun w_10 H locs ew_10 hS => ?_)
      have hp := hp w_10 ew_10
      refine lv_aload_n hx hb dX11_startAnew_109 rfl (lv_at hl 0 rfl) ?_
      refine lv_iconst hx hb dX11_startAnew_110 kI_0 ?_
      refine P_300_48 hC hS m312 dX11_startAnew_111 (fun w_11 H locs ew_11 hS => ?_)
      have hp := hp w_11 ew_11
      refine lv_iconst hx hb dX11_startAnew_114 kI_0 ?_
      refine lv_istore_n (lv' := [(1, .int (0 : Int32)), (0, .ref (g.2.2 300))]) hx hb dX11_startAnew_115 rfl hl (by decide) rfl (fun ls hl => ?_)
      obtain ⟨n9, hp⟩ := hp
      exact bX11_startAnew_116 hC hR n9 (0 : Int32) w_11 _ _ _ hp hS (lv_sub hl [1, 0] rfl)
    · have hp := hp.2 c_1
      refine lv_aload_n hx hb dX11_startAnew_9 rfl (lv_at hl 0 rfl) ?_
      refine G_300_40 hC hS m274 dX11_startAnew_10 ?_
      refine lv_iload_n hx hb dX11_startAnew_13 rfl (lv_at hl 1 rfl) ?_
      refine lv_iconst hx hb dX11_startAnew_14 kI_0 ?_
      refine Sa_341 hC hS hp.1 dX11_startAnew_15 (fun w_12 H locs ew_12 hS => ?_)
      have hp := hp.2
      have hp := hp w_12 ew_12
      obtain ⟨x1_13, ex1_13⟩ : ∃ y : Int32, y = x1 + (1 : Int32) := ⟨_, rfl⟩
      have hp := hp x1_13 ex1_13
      refine lv_iinc (v := x1_13) (lv' := [(1, .int x1_13), (0, .ref (g.2.2 300))]) hx hb dX11_startAnew_16 hl (k := 1) rfl (by rw [ex1_13]; rfl) (by decide) rfl (fun ls hl => ?_)
      refine lv_goto (tgt := 2) hx hb dX11_startAnew_19 (by decide) ?_
      exact ih x1_13 w_12 _ _ _ hp hS (lv_sub hl [1, 0] rfl)
set_option maxHeartbeats 4000000 in
set_option maxRecDepth 100000 in
theorem rX11_startAnew {l : Launch} {g : Gw} {w : Wd} {post : Wd → Prop}    (hp : pX11_startAnew post  w) : MtV tabM l yX11_startAnew cX11_startAnew 2 none 1 g w [.ref (g.2.2 300)] post := by
  refine q_entV tabM_nd (by decide) rfl (Nat.le_of_ble_eq_true rfl) ?_
  intro p e s m args below meth c A Q ls hC hR hS hl
  have hx := hC.1
  have hb := hC.2.1
  have hl : lv_has ls 2 [(0, .ref (g.2.2 300))] := hl
  unfold pX11_startAnew at hp
  refine lv_iconst hx hb dX11_startAnew_0 kI_0 ?_
  refine lv_istore_n (lv' := [(1, .int (0 : Int32)), (0, .ref (g.2.2 300))]) hx hb dX11_startAnew_1 rfl hl (by decide) rfl (fun ls hl => ?_)
  obtain ⟨n9, hp⟩ := hp
  exact bX11_startAnew_2 hC hR n9 (0 : Int32) w _ _ _ hp hS (lv_sub hl [1, 0] rfl)
