def pX5_largestClan_43 (k17 : Int32 → Int32 → Int32 → Int32 → Wd → Prop) (post : Int32 → Wd → Prop) (x1 : Int32) (x2 : Int32) (x4 : Int32) (t0 : Int32) (t1 : Int32) (w : Wd) : Prop := ∀ x3_1, x3_1 = (t0 + t1) → ∀ x4_2, x4_2 = x4 + (1 : Int32) → k17 x1 x2 x3_1 x4_2 w
def pX5_largestClan_17 (k4 : Int32 → Int32 → Wd → Prop) (post : Int32 → Wd → Prop) : Nat → Int32 → Int32 → Int32 → Int32 → Wd → Prop
  | 0, _, _, _, _, _ => False
  | n + 1, x1, x2, x3, x4, w => ((w.1 90 0) ≤ x4 → (∀ x1_2, x1_2 = (if x1 < x3 then x3 else x1) → ∀ x2_3, x2_3 = x2 + (1 : Int32) → k4 x1_2 x2_3 w)) ∧ (¬ (w.1 90 0) ≤ x4 → (vp_in x4 7 ∧ (¬ (w.2.1 100 x4.toNatClampNeg) = x2 → (pX5_largestClan_43 (pX5_largestClan_17 k4 post n) post x1 x2 x4 x3 (0 : Int32) w)) ∧ ((w.2.1 100 x4.toNatClampNeg) = x2 → (pX5_largestClan_43 (pX5_largestClan_17 k4 post n) post x1 x2 x4 x3 (1 : Int32) w))))
def pX5_largestClan_4 (post : Int32 → Wd → Prop) : Nat → Int32 → Int32 → Wd → Prop
  | 0, _, _, _ => False
  | n + 1, x1, x2, w => ((w.1 90 0) ≤ x2 → (post x1 w)) ∧ (¬ (w.1 90 0) ≤ x2 → (∃ n9, pX5_largestClan_17 (pX5_largestClan_4 post n) post n9 x1 x2 (0 : Int32) (0 : Int32) w))
def pX5_largestClan (post : Int32 → Wd → Prop)  (w : Wd) : Prop := ∃ n9, pX5_largestClan_4 post n9 (0 : Int32) (0 : Int32) w
set_option maxHeartbeats 4000000 in
set_option maxRecDepth 100000 in
theorem bX5_largestClan_43 {p : Program} {l : Launch} {e : Env} {s : State} {m : MethodId} {args : Array Value} {below : List Frame} {meth : Method} {c : Code} {Q : State → Prop} {A : Nat → Prop} {g : Gw} {post : Int32 → Wd → Prop}  (hC : Cx p s m args c cX5_largestClan RX5 5 g) (hR : RtI tabX p l e (rk 1) s m args below meth c Q cX5_largestClan A g post)  {k17 : Int32 → Int32 → Int32 → Int32 → Wd → Prop} (hk17 : ∀ (x1 : Int32) (x2 : Int32) (x3 : Int32) (x4 : Int32) (w : Wd) (H : Heap) (locs : List Loc) (ls : Array Slot), k17 x1 x2 x3 x4 w → St tabX A s.heap g w H locs → lv_has ls 5 [(0, .ref (g.2.2 90)), (1, .int x1), (2, .int x2), (3, .int x3), (4, .int x4)] → W p l e (rk 1) s m args below meth c H locs 0 0 Q (F0 m 17 ls [])) : ∀ (x1 : Int32) (x2 : Int32) (x4 : Int32) (t0 : Int32) (t1 : Int32) (w : Wd) (H : Heap) (locs : List Loc) (ls : Array Slot), pX5_largestClan_43 k17 post x1 x2 x4 t0 t1 w → St tabX A s.heap g w H locs → lv_has ls 5 [(0, .ref (g.2.2 90)), (1, .int x1), (2, .int x2), (4, .int x4)] → W p l e (rk 1) s m args below meth c H locs 0 0 Q (F0 m 43 ls [.int t1, .int t0]) := by
  have hx := hC.1
  have hb := hC.2.1
  intro x1 x2 x4 t0 t1 w H locs ls hp hS hl
  unfold pX5_largestClan_43 at hp
  refine lv_iadd hx hb dX5_largestClan_43 ?_
  refine lv_topi (fun x3_1 ex3_1 => ?_)
  have hp := hp x3_1 ex3_1
  refine lv_istore_n (lv' := [(3, .int x3_1), (0, .ref (g.2.2 90)), (1, .int x1), (2, .int x2), (4, .int x4)]) hx hb dX5_largestClan_44 rfl hl (by decide) rfl (fun ls hl => ?_)
  obtain ⟨x4_2, ex4_2⟩ : ∃ y : Int32, y = x4 + (1 : Int32) := ⟨_, rfl⟩
  have hp := hp x4_2 ex4_2
  refine lv_iinc (v := x4_2) (lv' := [(4, .int x4_2), (3, .int x3_1), (0, .ref (g.2.2 90)), (1, .int x1), (2, .int x2)]) hx hb dX5_largestClan_45 hl (k := 4) rfl (by rw [ex4_2]; rfl) (by decide) rfl (fun ls hl => ?_)
  refine lv_goto (tgt := 17) hx hb dX5_largestClan_48 (by decide) ?_
  exact hk17 x1 x2 x3_1 x4_2 w _ _ _ hp hS (lv_sub hl [2, 3, 4, 1, 0] rfl)
set_option maxHeartbeats 4000000 in
set_option maxRecDepth 100000 in
theorem bX5_largestClan_17 {p : Program} {l : Launch} {e : Env} {s : State} {m : MethodId} {args : Array Value} {below : List Frame} {meth : Method} {c : Code} {Q : State → Prop} {A : Nat → Prop} {g : Gw} {post : Int32 → Wd → Prop}  (hC : Cx p s m args c cX5_largestClan RX5 5 g) (hR : RtI tabX p l e (rk 1) s m args below meth c Q cX5_largestClan A g post)  {k4 : Int32 → Int32 → Wd → Prop} (hk4 : ∀ (x1 : Int32) (x2 : Int32) (w : Wd) (H : Heap) (locs : List Loc) (ls : Array Slot), k4 x1 x2 w → St tabX A s.heap g w H locs → lv_has ls 5 [(0, .ref (g.2.2 90)), (1, .int x1), (2, .int x2)] → W p l e (rk 1) s m args below meth c H locs 0 0 Q (F0 m 4 ls [])) : ∀ (n : Nat) (x1 : Int32) (x2 : Int32) (x3 : Int32) (x4 : Int32) (w : Wd) (H : Heap) (locs : List Loc) (ls : Array Slot), pX5_largestClan_17 k4 post n x1 x2 x3 x4 w → St tabX A s.heap g w H locs → lv_has ls 5 [(0, .ref (g.2.2 90)), (1, .int x1), (2, .int x2), (3, .int x3), (4, .int x4)] → W p l e (rk 1) s m args below meth c H locs 0 0 Q (F0 m 17 ls []) := by
  have hx := hC.1
  have hb := hC.2.1
  intro n
  induction n with
  | zero =>
    intro x1 x2 x3 x4 w H locs ls hp hS hl
    exact False.elim hp
  | succ n ih =>
    intro x1 x2 x3 x4 w H locs ls hp hS hl
    unfold pX5_largestClan_17 at hp
    refine lv_iload hx hb dX5_largestClan_17 (lv_at hl 4 rfl) ?_
    refine lv_aload_n hx hb dX5_largestClan_19 rfl (lv_at hl 0 rfl) ?_
    refine G_90_0 hC hS m1240 dX5_largestClan_20 ?_
    refine lv_icmp_ge (tgt := 51) hx hb dX5_largestClan_23 (by decide) (fun c_1 => ?_) (fun c_1 => ?_)
    · have hp := hp.1 c_1
      refine lv_iload_n hx hb dX5_largestClan_51 rfl (lv_at hl 1 rfl) ?_
      refine lv_iload_n hx hb dX5_largestClan_52 rfl (lv_at hl 3 rfl) ?_
      refine q_max hC hl.1 m1327 m728 m348 m729 (rmm (by decide) (Nat.le_of_ble_eq_true rfl)) dX5_largestClan_53 ?_
      refine lv_topi (fun x1_2 ex1_2 => ?_)
      have hp := hp x1_2 ex1_2
      refine lv_istore_n (lv' := [(1, .int x1_2), (0, .ref (g.2.2 90)), (2, .int x2), (3, .int x3), (4, .int x4)]) hx hb dX5_largestClan_56 rfl hl (by decide) rfl (fun ls hl => ?_)
      obtain ⟨x2_3, ex2_3⟩ : ∃ y : Int32, y = x2 + (1 : Int32) := ⟨_, rfl⟩
      have hp := hp x2_3 ex2_3
      refine lv_iinc (v := x2_3) (lv' := [(2, .int x2_3), (1, .int x1_2), (0, .ref (g.2.2 90)), (3, .int x3), (4, .int x4)]) hx hb dX5_largestClan_57 hl (k := 2) rfl (by rw [ex2_3]; rfl) (by decide) rfl (fun ls hl => ?_)
      refine lv_goto (tgt := 4) hx hb dX5_largestClan_60 (by decide) ?_
      exact hk4 x1_2 x2_3 w _ _ _ hp hS (lv_sub hl [2, 1, 0] rfl)
    · have hp := hp.2 c_1
      refine lv_iload_n hx hb dX5_largestClan_26 rfl (lv_at hl 3 rfl) ?_
      refine lv_aload_n hx hb dX5_largestClan_27 rfl (lv_at hl 0 rfl) ?_
      refine G_90_9 hC hS m212 dX5_largestClan_28 ?_
      refine lv_iload hx hb dX5_largestClan_31 (lv_at hl 4 rfl) ?_
      refine La_100 hC hS hp.1 dX5_largestClan_33 ?_
      have hp := hp.2
      refine lv_iload_n hx hb dX5_largestClan_34 rfl (lv_at hl 2 rfl) ?_
      refine lv_icmp_ne (tgt := 42) hx hb dX5_largestClan_35 (by decide) (fun c_4 => ?_) (fun c_4 => ?_)
      · have hp := hp.1 c_4
        refine lv_iconst hx hb dX5_largestClan_42 kI_0 ?_
        exact bX5_largestClan_43 hC hR ih x1 x2 x4 x3 (0 : Int32) w _ _ _ hp hS (lv_sub hl [0, 1, 2, 4] rfl)
      · have hp := hp.2 c_4
        refine lv_iconst hx hb dX5_largestClan_38 kI_1 ?_
        refine lv_goto (tgt := 43) hx hb dX5_largestClan_39 (by decide) ?_
        exact bX5_largestClan_43 hC hR ih x1 x2 x4 x3 (1 : Int32) w _ _ _ hp hS (lv_sub hl [0, 1, 2, 4] rfl)
set_option maxHeartbeats 4000000 in
set_option maxRecDepth 100000 in
theorem bX5_largestClan_4 {p : Program} {l : Launch} {e : Env} {s : State} {m : MethodId} {args : Array Value} {below : List Frame} {meth : Method} {c : Code} {Q : State → Prop} {A : Nat → Prop} {g : Gw} {post : Int32 → Wd → Prop}  (hC : Cx p s m args c cX5_largestClan RX5 5 g) (hR : RtI tabX p l e (rk 1) s m args below meth c Q cX5_largestClan A g post)  : ∀ (n : Nat) (x1 : Int32) (x2 : Int32) (w : Wd) (H : Heap) (locs : List Loc) (ls : Array Slot), pX5_largestClan_4 post n x1 x2 w → St tabX A s.heap g w H locs → lv_has ls 5 [(0, .ref (g.2.2 90)), (1, .int x1), (2, .int x2)] → W p l e (rk 1) s m args below meth c H locs 0 0 Q (F0 m 4 ls []) := by
  have hx := hC.1
  have hb := hC.2.1
  intro n
  induction n with
  | zero =>
    intro x1 x2 w H locs ls hp hS hl
    exact False.elim hp
  | succ n ih =>
    intro x1 x2 w H locs ls hp hS hl
    unfold pX5_largestClan_4 at hp
    refine lv_iload_n hx hb dX5_largestClan_4 rfl (lv_at hl 2 rfl) ?_
    refine lv_aload_n hx hb dX5_largestClan_5 rfl (lv_at hl 0 rfl) ?_
    refine G_90_0 hC hS m1240 dX5_largestClan_6 ?_
    refine lv_icmp_ge (tgt := 63) hx hb dX5_largestClan_9 (by decide) (fun c_1 => ?_) (fun c_1 => ?_)
    · have hp := hp.1 c_1
      refine lv_iload_n hx hb dX5_largestClan_63 rfl (lv_at hl 1 rfl) ?_
      exact hR _ _ _ _ _ _ dX5_largestClan_64 hp hS
    · have hp := hp.2 c_1
      refine lv_iconst hx hb dX5_largestClan_12 kI_0 ?_
      refine lv_istore_n (lv' := [(3, .int (0 : Int32)), (0, .ref (g.2.2 90)), (1, .int x1), (2, .int x2)]) hx hb dX5_largestClan_13 rfl hl (by decide) rfl (fun ls hl => ?_)
      refine lv_iconst hx hb dX5_largestClan_14 kI_0 ?_
      refine lv_istore (lv' := [(4, .int (0 : Int32)), (3, .int (0 : Int32)), (0, .ref (g.2.2 90)), (1, .int x1), (2, .int x2)]) hx hb dX5_largestClan_15 hl (by decide) rfl (fun ls hl => ?_)
      obtain ⟨n9, hp⟩ := hp
      exact bX5_largestClan_17 hC hR ih n9 x1 x2 (0 : Int32) (0 : Int32) w _ _ _ hp hS (lv_sub hl [2, 3, 4, 1, 0] rfl)
set_option maxHeartbeats 4000000 in
set_option maxRecDepth 100000 in
theorem rX5_largestClan {l : Launch} {g : Gw} {w : Wd} {post : Int32 → Wd → Prop}    (hp : pX5_largestClan post  w) : MtI tabX l yX5_largestClan cX5_largestClan 5 (some .int) 1 g w [.ref (g.2.2 90)] post := by
  refine q_entI tabX_nd (by decide) rfl (Nat.le_of_ble_eq_true rfl) ?_
  intro p e s m args below meth c A Q ls hC hR hS hl
  have hx := hC.1
  have hb := hC.2.1
  have hl : lv_has ls 5 [(0, .ref (g.2.2 90))] := hl
  unfold pX5_largestClan at hp
  refine lv_iconst hx hb dX5_largestClan_0 kI_0 ?_
  refine lv_istore_n (lv' := [(1, .int (0 : Int32)), (0, .ref (g.2.2 90))]) hx hb dX5_largestClan_1 rfl hl (by decide) rfl (fun ls hl => ?_)
  refine lv_iconst hx hb dX5_largestClan_2 kI_0 ?_
  refine lv_istore_n (lv' := [(2, .int (0 : Int32)), (1, .int (0 : Int32)), (0, .ref (g.2.2 90))]) hx hb dX5_largestClan_3 rfl hl (by decide) rfl (fun ls hl => ?_)
  obtain ⟨n9, hp⟩ := hp
  exact bX5_largestClan_4 hC hR n9 (0 : Int32) (0 : Int32) w _ _ _ hp hS (lv_sub hl [2, 1, 0] rfl)
def pX10_clans (post : Int32 → Wd → Prop) (x1 : Int32) (x2 : Int32) (x3 : Int32) (w : Wd) : Prop := (x1 < 0 → (post (-1 : Int32) w)) ∧ (¬ x1 < 0 → (((24 : Int32) < x1 → (post (-1 : Int32) w)) ∧ (¬ (24 : Int32) < x1 → ((x2 < 0 → (post (-1 : Int32) w)) ∧ (¬ x2 < 0 → ((x2 ≤ (1 : Int32) → (pX5_gather (fun w_5 => pX5_joinClans (fun w_6 => (¬ x2 = 0 → (pX5_largestClan (fun r_8 w_9 => post r_8 w_9) w_6)) ∧ (x2 = 0 → (pX5_clanCount (fun r_10 w_11 => post r_10 w_11) w_6))) x1 w_5) x3 (w.1 (rl (w.2.2.2.2 0)) 0) w)) ∧ (¬ x2 ≤ (1 : Int32) → (post (-1 : Int32) w))))))))
set_option maxHeartbeats 4000000 in
set_option maxRecDepth 100000 in
theorem rX10_clans {l : Launch} {g : Gw} {w : Wd} {post : Int32 → Wd → Prop}   {x1 : Int32} {x2 : Int32} {x3 : Int32} (hp : pX10_clans post x1 x2 x3 w) : MtI tabX l yX10_clans cX10_clans 4 (some .int) 4 g w [.ref (g.2.2 0), .int x1, .int x2, .int x3] post := by
  refine q_entI tabX_nd (by decide) rfl (Nat.le_of_ble_eq_true rfl) ?_
  intro p e s m args below meth c A Q ls hC hR hS hl
  have hx := hC.1
  have hb := hC.2.1
  have hl : lv_has ls 4 [(0, .ref (g.2.2 0)), (1, .int x1), (2, .int x2), (3, .int x3)] := hl
  unfold pX10_clans at hp
  refine lv_iload_n hx hb dX10_clans_0 rfl (lv_at hl 1 rfl) ?_
  refine lv_if_lt (tgt := 19) hx hb dX10_clans_1 (by decide) (fun c_1 => ?_) (fun c_1 => ?_)
  · have hp := hp.1 c_1
    refine lv_iconst hx hb dX10_clans_19 kI_m1 ?_
    exact hR _ _ _ _ _ _ dX10_clans_20 hp hS
  · have hp := hp.2 c_1
    refine lv_iload_n hx hb dX10_clans_4 rfl (lv_at hl 1 rfl) ?_
    refine lv_bipush hx hb dX10_clans_5 kB_24 ?_
    refine lv_icmp_gt (tgt := 19) hx hb dX10_clans_7 (by decide) (fun c_2 => ?_) (fun c_2 => ?_)
    · have hp := hp.1 c_2
      refine lv_iconst hx hb dX10_clans_19 kI_m1 ?_
      exact hR _ _ _ _ _ _ dX10_clans_20 hp hS
    · have hp := hp.2 c_2
      refine lv_iload_n hx hb dX10_clans_10 rfl (lv_at hl 2 rfl) ?_
      refine lv_if_lt (tgt := 19) hx hb dX10_clans_11 (by decide) (fun c_3 => ?_) (fun c_3 => ?_)
      · have hp := hp.1 c_3
        refine lv_iconst hx hb dX10_clans_19 kI_m1 ?_
        exact hR _ _ _ _ _ _ dX10_clans_20 hp hS
      · have hp := hp.2 c_3
        refine lv_iload_n hx hb dX10_clans_14 rfl (lv_at hl 2 rfl) ?_
        refine lv_iconst hx hb dX10_clans_15 kI_1 ?_
        refine lv_icmp_le (tgt := 21) hx hb dX10_clans_16 (by decide) (fun c_4 => ?_) (fun c_4 => ?_)
        · have hp := hp.1 c_4
          refine lv_aload_n hx hb dX10_clans_21 rfl (lv_at hl 0 rfl) ?_
          refine G_0_8 hC hS m50 dX10_clans_22 ?_
          refine lv_aload_n hx hb dX10_clans_25 rfl (lv_at hl 0 rfl) ?_
          refine G_0_7 hC hS m46 dX10_clans_26 ?_
          refine lv_iload_n hx hb dX10_clans_29 rfl (lv_at hl 3 rfl) ?_
          refine lv_aload_n hx hb dX10_clans_30 rfl (lv_at hl 0 rfl) ?_
          refine G_0_16 hC hS m21 dX10_clans_31 ?_
          refine GR_0 hC hS m678 dX10_clans_34 ?_
          refine q_cvV (As := [.ref (g.2.2 70), .int x3, .int (w.1 (rl (w.2.2.2.2 0)) 0)]) (rest := []) hC hS hl.1 (rX5_gather hp) cwX10_299 yvX5_gather (rcv_90 hC hS) rfl rfl (Nat.le_of_ble_eq_true rfl) (rmk (by decide) (by decide)) dX10_clans_37 (fun w_5 H locs hp hS => ?_)
          refine lv_aload_n hx hb dX10_clans_40 rfl (lv_at hl 0 rfl) ?_
          refine G_0_8 hC hS m50 dX10_clans_41 ?_
          refine lv_iload_n hx hb dX10_clans_44 rfl (lv_at hl 1 rfl) ?_
          refine q_cvV (As := [.int x1]) (rest := []) hC hS hl.1 (rX5_joinClans hp) cwX10_319 yvX5_joinClans (rcv_90 hC hS) rfl rfl (Nat.le_of_ble_eq_true rfl) (rmk (by decide) (by decide)) dX10_clans_45 (fun w_6 H locs hp hS => ?_)
          refine lv_iload_n hx hb dX10_clans_48 rfl (lv_at hl 2 rfl) ?_
          refine lv_if_ne (tgt := 62) hx hb dX10_clans_49 (by decide) (fun c_7 => ?_) (fun c_7 => ?_)
          · have hp := hp.1 c_7
            refine lv_aload_n hx hb dX10_clans_62 rfl (lv_at hl 0 rfl) ?_
            refine G_0_8 hC hS m50 dX10_clans_63 ?_
            refine q_cvI (As := []) (rest := []) hC hS hl.1 (rX5_largestClan hp) cwX10_325 yvX5_largestClan (rcv_90 hC hS) rfl rfl (Nat.le_of_ble_eq_true rfl) (rmk (by decide) (by decide)) dX10_clans_66 (fun r_8 w_9 H locs hp hS => ?_)
            exact hR _ _ _ _ _ _ dX10_clans_69 hp hS
          · have hp := hp.2 c_7
            refine lv_aload_n hx hb dX10_clans_52 rfl (lv_at hl 0 rfl) ?_
            refine G_0_8 hC hS m50 dX10_clans_53 ?_
            refine q_cvI (As := []) (rest := []) hC hS hl.1 (rX5_clanCount hp) cwX10_322 yvX5_clanCount (rcv_90 hC hS) rfl rfl (Nat.le_of_ble_eq_true rfl) (rmk (by decide) (by decide)) dX10_clans_56 (fun r_10 w_11 H locs hp hS => ?_)
            refine lv_goto (tgt := 69) hx hb dX10_clans_59 (by decide) ?_
            exact hR _ _ _ _ _ _ dX10_clans_69 hp hS
        · have hp := hp.2 c_4
          refine lv_iconst hx hb dX10_clans_19 kI_m1 ?_
          exact hR _ _ _ _ _ _ dX10_clans_20 hp hS
def pX10_samplesWith_103 (k6 : Int32 → Int32 → Int32 → Int32 → Int32 → Wd → Prop) (post : Int32 → Wd → Prop) (x1 : Int32) (x2 : Int32) (x3 : Int32) (x4 : Int32) (x5 : Int32) (w : Wd) : Prop := ∀ x5_1, x5_1 = x5 + (1 : Int32) → k6 x1 x2 x3 x4 x5_1 w
def pX10_samplesWith_100 (k6 : Int32 → Int32 → Int32 → Int32 → Int32 → Wd → Prop) (post : Int32 → Wd → Prop) (x1 : Int32) (x2 : Int32) (x3 : Int32) (x5 : Int32) (t0 : Int32) (t1 : Int32) (w : Wd) : Prop := ∀ x4_1, x4_1 = (t0 + t1) → pX10_samplesWith_103 k6 post x1 x2 x3 x4_1 x5 w
def pX10_samplesWith_85 (k6 : Int32 → Int32 → Int32 → Int32 → Int32 → Wd → Prop) (post : Int32 → Wd → Prop) (x1 : Int32) (x2 : Int32) (x3 : Int32) (x4 : Int32) (x5 : Int32) (t0 : Int32) (w : Wd) : Prop := (¬ t0 = x2 → (pX10_samplesWith_100 k6 post x1 x2 x3 x5 x4 (0 : Int32) w)) ∧ (t0 = x2 → (pX10_samplesWith_100 k6 post x1 x2 x3 x5 x4 (1 : Int32) w))
def pX10_samplesWith_60 (k6 : Int32 → Int32 → Int32 → Int32 → Int32 → Wd → Prop) (post : Int32 → Wd → Prop) (x1 : Int32) (x2 : Int32) (x3 : Int32) (x4 : Int32) (x5 : Int32) (t0 : Int32) (w : Wd) : Prop := vp_in x5 40 ∧ ((((w.2.1 74 x5.toNatClampNeg) >>> (t0 &&& 31)) &&& (1 : Int32)) = 0 → (pX10_samplesWith_85 k6 post x1 x2 x3 x4 x5 (0 : Int32) w)) ∧ (¬ (((w.2.1 74 x5.toNatClampNeg) >>> (t0 &&& 31)) &&& (1 : Int32)) = 0 → (pX10_samplesWith_85 k6 post x1 x2 x3 x4 x5 (1 : Int32) w))
def pX10_samplesWith_6 (post : Int32 → Wd → Prop) : Nat → Int32 → Int32 → Int32 → Int32 → Int32 → Wd → Prop
  | 0, _, _, _, _, _, _ => False
  | n + 1, x1, x2, x3, x4, x5, w => ((w.1 70 0) ≤ x5 → (post x4 w)) ∧ (¬ (w.1 70 0) ≤ x5 → (pX3_counts (fun r_2 w_3 => (r_2 = 0 → (pX10_samplesWith_103 (pX10_samplesWith_6 post n) post x1 x2 x3 x4 x5 w_3)) ∧ (¬ r_2 = 0 → (vp_in x5 40 ∧ ((w_3.2.1 76 x5.toNatClampNeg) = 0 → (pX10_samplesWith_60 (pX10_samplesWith_6 post n) post x1 x2 x3 x4 x5 x1 w_3)) ∧ (¬ (w_3.2.1 76 x5.toNatClampNeg) = 0 → (pX10_samplesWith_60 (pX10_samplesWith_6 post n) post x1 x2 x3 x4 x5 (((w_3.1 (rl (w_3.2.2.2.2 0)) 0) - (1 : Int32)) - x1) w_3))))) x5 (0 : Int32) x3 w))
def pX10_samplesWith (post : Int32 → Wd → Prop) (x1 : Int32) (x2 : Int32) (x3 : Int32) (w : Wd) : Prop := ∃ n9, pX10_samplesWith_6 post n9 x1 x2 x3 (0 : Int32) (0 : Int32) w
set_option maxHeartbeats 4000000 in
set_option maxRecDepth 100000 in
theorem bX10_samplesWith_103 {p : Program} {l : Launch} {e : Env} {s : State} {m : MethodId} {args : Array Value} {below : List Frame} {meth : Method} {c : Code} {Q : State → Prop} {A : Nat → Prop} {g : Gw} {post : Int32 → Wd → Prop}  (hC : Cx p s m args c cX10_samplesWith RX10 8 g) (hR : RtI tabX p l e (rk 2) s m args below meth c Q cX10_samplesWith A g post)  {k6 : Int32 → Int32 → Int32 → Int32 → Int32 → Wd → Prop} (hk6 : ∀ (x1 : Int32) (x2 : Int32) (x3 : Int32) (x4 : Int32) (x5 : Int32) (w : Wd) (H : Heap) (locs : List Loc) (ls : Array Slot), k6 x1 x2 x3 x4 x5 w → St tabX A s.heap g w H locs → lv_has ls 8 [(0, .ref (g.2.2 0)), (1, .int x1), (2, .int x2), (3, .int x3), (4, .int x4), (5, .int x5)] → W p l e (rk 2) s m args below meth c H locs 0 0 Q (F0 m 6 ls [])) : ∀ (x1 : Int32) (x2 : Int32) (x3 : Int32) (x4 : Int32) (x5 : Int32) (w : Wd) (H : Heap) (locs : List Loc) (ls : Array Slot), pX10_samplesWith_103 k6 post x1 x2 x3 x4 x5 w → St tabX A s.heap g w H locs → lv_has ls 8 [(0, .ref (g.2.2 0)), (1, .int x1), (2, .int x2), (3, .int x3), (4, .int x4), (5, .int x5)] → W p l e (rk 2) s m args below meth c H locs 0 0 Q (F0 m 103 ls []) := by
  have hx := hC.1
  have hb := hC.2.1
  intro x1 x2 x3 x4 x5 w H locs ls hp hS hl
  unfold pX10_samplesWith_103 at hp
  obtain ⟨x5_1, ex5_1⟩ : ∃ y : Int32, y = x5 + (1 : Int32) := ⟨_, rfl⟩
  have hp := hp x5_1 ex5_1
  refine lv_iinc (v := x5_1) (lv' := [(5, .int x5_1), (0, .ref (g.2.2 0)), (1, .int x1), (2, .int x2), (3, .int x3), (4, .int x4)]) hx hb dX10_samplesWith_103 hl (k := 5) rfl (by rw [ex5_1]; rfl) (by decide) rfl (fun ls hl => ?_)
  refine lv_goto (tgt := 6) hx hb dX10_samplesWith_106 (by decide) ?_
  exact hk6 x1 x2 x3 x4 x5_1 w _ _ _ hp hS (lv_sub hl [1, 2, 3, 4, 5, 0] rfl)
set_option maxHeartbeats 4000000 in
set_option maxRecDepth 100000 in
theorem bX10_samplesWith_100 {p : Program} {l : Launch} {e : Env} {s : State} {m : MethodId} {args : Array Value} {below : List Frame} {meth : Method} {c : Code} {Q : State → Prop} {A : Nat → Prop} {g : Gw} {post : Int32 → Wd → Prop}  (hC : Cx p s m args c cX10_samplesWith RX10 8 g) (hR : RtI tabX p l e (rk 2) s m args below meth c Q cX10_samplesWith A g post)  {k6 : Int32 → Int32 → Int32 → Int32 → Int32 → Wd → Prop} (hk6 : ∀ (x1 : Int32) (x2 : Int32) (x3 : Int32) (x4 : Int32) (x5 : Int32) (w : Wd) (H : Heap) (locs : List Loc) (ls : Array Slot), k6 x1 x2 x3 x4 x5 w → St tabX A s.heap g w H locs → lv_has ls 8 [(0, .ref (g.2.2 0)), (1, .int x1), (2, .int x2), (3, .int x3), (4, .int x4), (5, .int x5)] → W p l e (rk 2) s m args below meth c H locs 0 0 Q (F0 m 6 ls [])) : ∀ (x1 : Int32) (x2 : Int32) (x3 : Int32) (x5 : Int32) (t0 : Int32) (t1 : Int32) (w : Wd) (H : Heap) (locs : List Loc) (ls : Array Slot), pX10_samplesWith_100 k6 post x1 x2 x3 x5 t0 t1 w → St tabX A s.heap g w H locs → lv_has ls 8 [(0, .ref (g.2.2 0)), (1, .int x1), (2, .int x2), (3, .int x3), (5, .int x5)] → W p l e (rk 2) s m args below meth c H locs 0 0 Q (F0 m 100 ls [.int t1, .int t0]) := by
  have hx := hC.1
  have hb := hC.2.1
  intro x1 x2 x3 x5 t0 t1 w H locs ls hp hS hl
  unfold pX10_samplesWith_100 at hp
  refine lv_iadd hx hb dX10_samplesWith_100 ?_
  refine lv_topi (fun x4_1 ex4_1 => ?_)
  have hp := hp x4_1 ex4_1
  refine lv_istore (lv' := [(4, .int x4_1), (0, .ref (g.2.2 0)), (1, .int x1), (2, .int x2), (3, .int x3), (5, .int x5)]) hx hb dX10_samplesWith_101 hl (by decide) rfl (fun ls hl => ?_)
  exact bX10_samplesWith_103 hC hR hk6 x1 x2 x3 x4_1 x5 w _ _ _ hp hS (lv_sub hl [1, 2, 3, 4, 0, 5] rfl)
set_option maxHeartbeats 4000000 in
set_option maxRecDepth 100000 in
theorem bX10_samplesWith_85 {p : Program} {l : Launch} {e : Env} {s : State} {m : MethodId} {args : Array Value} {below : List Frame} {meth : Method} {c : Code} {Q : State → Prop} {A : Nat → Prop} {g : Gw} {post : Int32 → Wd → Prop}  (hC : Cx p s m args c cX10_samplesWith RX10 8 g) (hR : RtI tabX p l e (rk 2) s m args below meth c Q cX10_samplesWith A g post)  {k6 : Int32 → Int32 → Int32 → Int32 → Int32 → Wd → Prop} (hk6 : ∀ (x1 : Int32) (x2 : Int32) (x3 : Int32) (x4 : Int32) (x5 : Int32) (w : Wd) (H : Heap) (locs : List Loc) (ls : Array Slot), k6 x1 x2 x3 x4 x5 w → St tabX A s.heap g w H locs → lv_has ls 8 [(0, .ref (g.2.2 0)), (1, .int x1), (2, .int x2), (3, .int x3), (4, .int x4), (5, .int x5)] → W p l e (rk 2) s m args below meth c H locs 0 0 Q (F0 m 6 ls [])) : ∀ (x1 : Int32) (x2 : Int32) (x3 : Int32) (x4 : Int32) (x5 : Int32) (t0 : Int32) (w : Wd) (H : Heap) (locs : List Loc) (ls : Array Slot), pX10_samplesWith_85 k6 post x1 x2 x3 x4 x5 t0 w → St tabX A s.heap g w H locs → lv_has ls 8 [(0, .ref (g.2.2 0)), (1, .int x1), (2, .int x2), (3, .int x3), (4, .int x4), (5, .int x5)] → W p l e (rk 2) s m args below meth c H locs 0 0 Q (F0 m 85 ls [.int t0]) := by
  have hx := hC.1
  have hb := hC.2.1
  intro x1 x2 x3 x4 x5 t0 w H locs ls hp hS hl
  unfold pX10_samplesWith_85 at hp
  refine lv_istore (lv' := [(7, .int t0), (0, .ref (g.2.2 0)), (1, .int x1), (2, .int x2), (3, .int x3), (4, .int x4), (5, .int x5)]) hx hb dX10_samplesWith_85 hl (by decide) rfl (fun ls hl => ?_)
  refine lv_iload hx hb dX10_samplesWith_87 (lv_at hl 5 rfl) ?_
  refine lv_iload hx hb dX10_samplesWith_89 (lv_at hl 0 rfl) ?_
  refine lv_iload_n hx hb dX10_samplesWith_91 rfl (lv_at hl 3 rfl) ?_
  refine lv_icmp_ne (tgt := 99) hx hb dX10_samplesWith_92 (by decide) (fun c_1 => ?_) (fun c_1 => ?_)
  · have hp := hp.1 c_1
    refine lv_iconst hx hb dX10_samplesWith_99 kI_0 ?_
    exact bX10_samplesWith_100 hC hR hk6 x1 x2 x3 x5 x4 (0 : Int32) w _ _ _ hp hS (lv_sub hl [1, 2, 3, 4, 6] rfl)
  · have hp := hp.2 c_1
    refine lv_iconst hx hb dX10_samplesWith_95 kI_1 ?_
    refine lv_goto (tgt := 100) hx hb dX10_samplesWith_96 (by decide) ?_
    exact bX10_samplesWith_100 hC hR hk6 x1 x2 x3 x5 x4 (1 : Int32) w _ _ _ hp hS (lv_sub hl [1, 2, 3, 4, 6] rfl)
set_option maxHeartbeats 4000000 in
set_option maxRecDepth 100000 in
theorem bX10_samplesWith_60 {p : Program} {l : Launch} {e : Env} {s : State} {m : MethodId} {args : Array Value} {below : List Frame} {meth : Method} {c : Code} {Q : State → Prop} {A : Nat → Prop} {g : Gw} {post : Int32 → Wd → Prop}  (hC : Cx p s m args c cX10_samplesWith RX10 8 g) (hR : RtI tabX p l e (rk 2) s m args below meth c Q cX10_samplesWith A g post)  {k6 : Int32 → Int32 → Int32 → Int32 → Int32 → Wd → Prop} (hk6 : ∀ (x1 : Int32) (x2 : Int32) (x3 : Int32) (x4 : Int32) (x5 : Int32) (w : Wd) (H : Heap) (locs : List Loc) (ls : Array Slot), k6 x1 x2 x3 x4 x5 w → St tabX A s.heap g w H locs → lv_has ls 8 [(0, .ref (g.2.2 0)), (1, .int x1), (2, .int x2), (3, .int x3), (4, .int x4), (5, .int x5)] → W p l e (rk 2) s m args below meth c H locs 0 0 Q (F0 m 6 ls [])) : ∀ (x1 : Int32) (x2 : Int32) (x3 : Int32) (x4 : Int32) (x5 : Int32) (t0 : Int32) (w : Wd) (H : Heap) (locs : List Loc) (ls : Array Slot), pX10_samplesWith_60 k6 post x1 x2 x3 x4 x5 t0 w → St tabX A s.heap g w H locs → lv_has ls 8 [(0, .ref (g.2.2 0)), (1, .int x1), (2, .int x2), (3, .int x3), (4, .int x4), (5, .int x5)] → W p l e (rk 2) s m args below meth c H locs 0 0 Q (F0 m 60 ls [.int t0]) := by
  have hx := hC.1
  have hb := hC.2.1
  intro x1 x2 x3 x4 x5 t0 w H locs ls hp hS hl
  unfold pX10_samplesWith_60 at hp
  refine lv_istore (lv' := [(6, .int t0), (0, .ref (g.2.2 0)), (1, .int x1), (2, .int x2), (3, .int x3), (4, .int x4), (5, .int x5)]) hx hb dX10_samplesWith_60 hl (by decide) rfl (fun ls hl => ?_)
  refine lv_aload_n hx hb dX10_samplesWith_62 rfl (lv_at hl 1 rfl) ?_
  refine G_0_7 hC hS m46 dX10_samplesWith_63 ?_
  refine G_70_3 hC hS m1346 dX10_samplesWith_66 ?_
  refine lv_iload hx hb dX10_samplesWith_69 (lv_at hl 6 rfl) ?_
  refine La_74 hC hS hp.1 dX10_samplesWith_71 ?_
  have hp := hp.2
  refine lv_iload hx hb dX10_samplesWith_72 (lv_at hl 0 rfl) ?_
  refine lv_ishr hx hb dX10_samplesWith_74 ?_
  refine lv_iconst hx hb dX10_samplesWith_75 kI_1 ?_
  refine lv_iand hx hb dX10_samplesWith_76 ?_
  refine lv_if_eq (tgt := 84) hx hb dX10_samplesWith_77 (by decide) (fun c_1 => ?_) (fun c_1 => ?_)
  · have hp := hp.1 c_1
    refine lv_iconst hx hb dX10_samplesWith_84 kI_0 ?_
    exact bX10_samplesWith_85 hC hR hk6 x1 x2 x3 x4 x5 (0 : Int32) w _ _ _ hp hS (lv_sub hl [1, 2, 3, 4, 5, 6] rfl)
  · have hp := hp.2 c_1
    refine lv_iconst hx hb dX10_samplesWith_80 kI_1 ?_
    refine lv_goto (tgt := 85) hx hb dX10_samplesWith_81 (by decide) ?_
    exact bX10_samplesWith_85 hC hR hk6 x1 x2 x3 x4 x5 (1 : Int32) w _ _ _ hp hS (lv_sub hl [1, 2, 3, 4, 5, 6] rfl)
set_option maxHeartbeats 4000000 in
set_option maxRecDepth 100000 in
theorem bX10_samplesWith_6 {p : Program} {l : Launch} {e : Env} {s : State} {m : MethodId} {args : Array Value} {below : List Frame} {meth : Method} {c : Code} {Q : State → Prop} {A : Nat → Prop} {g : Gw} {post : Int32 → Wd → Prop}  (hC : Cx p s m args c cX10_samplesWith RX10 8 g) (hR : RtI tabX p l e (rk 2) s m args below meth c Q cX10_samplesWith A g post)  : ∀ (n : Nat) (x1 : Int32) (x2 : Int32) (x3 : Int32) (x4 : Int32) (x5 : Int32) (w : Wd) (H : Heap) (locs : List Loc) (ls : Array Slot), pX10_samplesWith_6 post n x1 x2 x3 x4 x5 w → St tabX A s.heap g w H locs → lv_has ls 8 [(0, .ref (g.2.2 0)), (1, .int x1), (2, .int x2), (3, .int x3), (4, .int x4), (5, .int x5)] → W p l e (rk 2) s m args below meth c H locs 0 0 Q (F0 m 6 ls []) := by
  have hx := hC.1
  have hb := hC.2.1
  intro n
  induction n with
  | zero =>
    intro x1 x2 x3 x4 x5 w H locs ls hp hS hl
    exact False.elim hp
  | succ n ih =>
    intro x1 x2 x3 x4 x5 w H locs ls hp hS hl
    unfold pX10_samplesWith_6 at hp
    refine lv_iload hx hb dX10_samplesWith_6 (lv_at hl 5 rfl) ?_
    refine lv_aload_n hx hb dX10_samplesWith_8 rfl (lv_at hl 0 rfl) ?_
    refine G_0_7 hC hS m46 dX10_samplesWith_9 ?_
    refine G_70_0 hC hS m223 dX10_samplesWith_12 ?_
    refine lv_icmp_ge (tgt := 109) hx hb dX10_samplesWith_15 (by decide) (fun c_1 => ?_) (fun c_1 => ?_)
    · have hp := hp.1 c_1
      refine lv_iload hx hb dX10_samplesWith_109 (lv_at hl 4 rfl) ?_
      exact hR _ _ _ _ _ _ dX10_samplesWith_111 hp hS
    · have hp := hp.2 c_1
      refine lv_aload_n hx hb dX10_samplesWith_18 rfl (lv_at hl 0 rfl) ?_
      refine G_0_7 hC hS m46 dX10_samplesWith_19 ?_
      refine lv_iload hx hb dX10_samplesWith_22 (lv_at hl 5 rfl) ?_
      refine lv_iconst hx hb dX10_samplesWith_24 kI_0 ?_
      refine lv_iload_n hx hb dX10_samplesWith_25 rfl (lv_at hl 3 rfl) ?_
      refine q_cvI (As := [.int x5, .int (0 : Int32), .int x3]) (rest := []) hC hS hl.1 (rX3_counts hp) cwX10_335 yvX3_counts (rcv_70 hC hS) rfl rfl (Nat.le_of_ble_eq_true rfl) (rmk (by decide) (by decide)) dX10_samplesWith_26 (fun r_2 w_3 H locs hp hS => ?_)
      refine lv_if_eq (tgt := 103) hx hb dX10_samplesWith_29 (by decide) (fun c_4 => ?_) (fun c_4 => ?_)
      · have hp := hp.1 c_4
        exact bX10_samplesWith_103 hC hR ih x1 x2 x3 x4 x5 w_3 _ _ _ hp hS (lv_sub hl [0, 1, 2, 3, 4, 5] rfl)
      · have hp := hp.2 c_4
        refine lv_aload_n hx hb dX10_samplesWith_32 rfl (lv_at hl 0 rfl) ?_
        refine G_0_7 hC hS m46 dX10_samplesWith_33 ?_
        refine G_70_5 hC hS m1345 dX10_samplesWith_36 ?_
        refine lv_iload hx hb dX10_samplesWith_39 (lv_at hl 5 rfl) ?_
        refine La_76 hC hS hp.1 dX10_samplesWith_41 ?_
        have hp := hp.2
        refine lv_if_eq (tgt := 59) hx hb dX10_samplesWith_42 (by decide) (fun c_5 => ?_) (fun c_5 => ?_)
        · have hp := hp.1 c_5
          refine lv_iload_n hx hb dX10_samplesWith_59 rfl (lv_at hl 1 rfl) ?_
          exact bX10_samplesWith_60 hC hR ih x1 x2 x3 x4 x5 x1 w_3 _ _ _ hp hS (lv_sub hl [0, 1, 2, 3, 4, 5] rfl)
        · have hp := hp.2 c_5
          refine lv_aload_n hx hb dX10_samplesWith_45 rfl (lv_at hl 0 rfl) ?_
          refine G_0_16 hC hS m21 dX10_samplesWith_46 ?_
          refine GR_0 hC hS m678 dX10_samplesWith_49 ?_
          refine lv_iconst hx hb dX10_samplesWith_52 kI_1 ?_
          refine lv_isub hx hb dX10_samplesWith_53 ?_
          refine lv_iload_n hx hb dX10_samplesWith_54 rfl (lv_at hl 1 rfl) ?_
          refine lv_isub hx hb dX10_samplesWith_55 ?_
          refine lv_goto (tgt := 60) hx hb dX10_samplesWith_56 (by decide) ?_
          exact bX10_samplesWith_60 hC hR ih x1 x2 x3 x4 x5 (((w_3.1 (rl (w_3.2.2.2.2 0)) 0) - (1 : Int32)) - x1) w_3 _ _ _ hp hS (lv_sub hl [0, 1, 2, 3, 4, 5] rfl)
set_option maxHeartbeats 4000000 in
set_option maxRecDepth 100000 in
theorem rX10_samplesWith {l : Launch} {g : Gw} {w : Wd} {post : Int32 → Wd → Prop}   {x1 : Int32} {x2 : Int32} {x3 : Int32} (hp : pX10_samplesWith post x1 x2 x3 w) : MtI tabX l yX10_samplesWith cX10_samplesWith 8 (some .int) 2 g w [.ref (g.2.2 0), .int x1, .int x2, .int x3] post := by
  refine q_entI tabX_nd (by decide) rfl (Nat.le_of_ble_eq_true rfl) ?_
  intro p e s m args below meth c A Q ls hC hR hS hl
  have hx := hC.1
  have hb := hC.2.1
  have hl : lv_has ls 8 [(0, .ref (g.2.2 0)), (1, .int x1), (2, .int x2), (3, .int x3)] := hl
  unfold pX10_samplesWith at hp
  refine lv_iconst hx hb dX10_samplesWith_0 kI_0 ?_
  refine lv_istore (lv' := [(4, .int (0 : Int32)), (0, .ref (g.2.2 0)), (1, .int x1), (2, .int x2), (3, .int x3)]) hx hb dX10_samplesWith_1 hl (by decide) rfl (fun ls hl => ?_)
  refine lv_iconst hx hb dX10_samplesWith_3 kI_0 ?_
  refine lv_istore (lv' := [(5, .int (0 : Int32)), (4, .int (0 : Int32)), (0, .ref (g.2.2 0)), (1, .int x1), (2, .int x2), (3, .int x3)]) hx hb dX10_samplesWith_4 hl (by decide) rfl (fun ls hl => ?_)
  obtain ⟨n9, hp⟩ := hp
  exact bX10_samplesWith_6 hC hR n9 x1 x2 x3 (0 : Int32) (0 : Int32) w _ _ _ hp hS (lv_sub hl [2, 3, 4, 5, 1, 0] rfl)
def pX10_origin_67 (k19 : Int32 → Int32 → Int32 → Int32 → Int32 → Wd → Prop) (post : Int32 → Wd → Prop) (x1 : Int32) (x2 : Int32) (x3 : Int32) (x4 : Int32) (x5 : Int32) (x6 : Int32) (x7 : Int32) (w : Wd) : Prop := ∀ x4_1, x4_1 = (x4 + (if ((2 : Int32) * x7) < x6 then ((2 : Int32) * x7) else x6)) → ∀ x5_2, x5_2 = x5 + (1 : Int32) → k19 x1 x2 x3 x4_1 x5_2 w
def pX10_origin_19 (post : Int32 → Wd → Prop) : Nat → Int32 → Int32 → Int32 → Int32 → Int32 → Wd → Prop
  | 0, _, _, _, _, _, _ => False
  | n + 1, x1, x2, x3, x4, x5, w => ((w.1 (rl (w.2.2.2.2 0)) 0) ≤ x5 → ((¬ x1 = 0 → (post x4 w)) ∧ (x1 = 0 → (post x3 w)))) ∧ (¬ (w.1 (rl (w.2.2.2.2 0)) 0) ≤ x5 → (pX10_samplesWith (fun r_3 w_4 => pX10_samplesWith (fun r_5 w_6 => (((2 : Int32) * r_5) ≤ r_3 → (pX10_origin_67 (pX10_origin_19 post n) post x1 x2 x3 x4 x5 r_3 r_5 w_6)) ∧ (¬ ((2 : Int32) * r_5) ≤ r_3 → (∀ x3_8, x3_8 = (x3 ||| ((1 : Int32) <<< (x5 &&& 31))) → pX10_origin_67 (pX10_origin_19 post n) post x1 x2 x3_8 x4 x5 r_3 r_5 w_6))) x5 (1 : Int32) x2 w_4) x5 (0 : Int32) x2 w))
def pX10_origin (post : Int32 → Wd → Prop) (x1 : Int32) (x2 : Int32) (w : Wd) : Prop := (x1 < 0 → (post (-1 : Int32) w)) ∧ (¬ x1 < 0 → ((x1 ≤ (1 : Int32) → (∃ n9, pX10_origin_19 post n9 x1 x2 (0 : Int32) (0 : Int32) (0 : Int32) w)) ∧ (¬ x1 ≤ (1 : Int32) → (post (-1 : Int32) w))))
set_option maxHeartbeats 4000000 in
set_option maxRecDepth 100000 in
theorem bX10_origin_67 {p : Program} {l : Launch} {e : Env} {s : State} {m : MethodId} {args : Array Value} {below : List Frame} {meth : Method} {c : Code} {Q : State → Prop} {A : Nat → Prop} {g : Gw} {post : Int32 → Wd → Prop}  (hC : Cx p s m args c cX10_origin RX10 8 g) (hR : RtI tabX p l e (rk 3) s m args below meth c Q cX10_origin A g post)  {k19 : Int32 → Int32 → Int32 → Int32 → Int32 → Wd → Prop} (hk19 : ∀ (x1 : Int32) (x2 : Int32) (x3 : Int32) (x4 : Int32) (x5 : Int32) (w : Wd) (H : Heap) (locs : List Loc) (ls : Array Slot), k19 x1 x2 x3 x4 x5 w → St tabX A s.heap g w H locs → lv_has ls 8 [(0, .ref (g.2.2 0)), (1, .int x1), (2, .int x2), (3, .int x3), (4, .int x4), (5, .int x5)] → W p l e (rk 3) s m args below meth c H locs 0 0 Q (F0 m 19 ls [])) : ∀ (x1 : Int32) (x2 : Int32) (x3 : Int32) (x4 : Int32) (x5 : Int32) (x6 : Int32) (x7 : Int32) (w : Wd) (H : Heap) (locs : List Loc) (ls : Array Slot), pX10_origin_67 k19 post x1 x2 x3 x4 x5 x6 x7 w → St tabX A s.heap g w H locs → lv_has ls 8 [(0, .ref (g.2.2 0)), (1, .int x1), (2, .int x2), (3, .int x3), (4, .int x4), (5, .int x5), (6, .int x6), (7, .int x7)] → W p l e (rk 3) s m args below meth c H locs 0 0 Q (F0 m 67 ls []) := by
  have hx := hC.1
  have hb := hC.2.1
  intro x1 x2 x3 x4 x5 x6 x7 w H locs ls hp hS hl
  unfold pX10_origin_67 at hp
  refine lv_iload hx hb dX10_origin_67 (lv_at hl 4 rfl) ?_
  refine lv_iload hx hb dX10_origin_69 (lv_at hl 6 rfl) ?_
  refine lv_iconst hx hb dX10_origin_71 kI_2 ?_
  refine lv_iload hx hb dX10_origin_72 (lv_at hl 7 rfl) ?_
  refine lv_imul hx hb dX10_origin_74 ?_
  refine q_min hC hl.1 m1340 m347 m348 m349 (rmm (by decide) (Nat.le_of_ble_eq_true rfl)) dX10_origin_75 ?_
  refine lv_iadd hx hb dX10_origin_78 ?_
  refine lv_topi (fun x4_1 ex4_1 => ?_)
  have hp := hp x4_1 ex4_1
  refine lv_istore (lv' := [(4, .int x4_1), (0, .ref (g.2.2 0)), (1, .int x1), (2, .int x2), (3, .int x3), (5, .int x5), (6, .int x6), (7, .int x7)]) hx hb dX10_origin_79 hl (by decide) rfl (fun ls hl => ?_)
  obtain ⟨x5_2, ex5_2⟩ : ∃ y : Int32, y = x5 + (1 : Int32) := ⟨_, rfl⟩
  have hp := hp x5_2 ex5_2
  refine lv_iinc (v := x5_2) (lv' := [(5, .int x5_2), (4, .int x4_1), (0, .ref (g.2.2 0)), (1, .int x1), (2, .int x2), (3, .int x3), (6, .int x6), (7, .int x7)]) hx hb dX10_origin_81 hl (k := 5) rfl (by rw [ex5_2]; rfl) (by decide) rfl (fun ls hl => ?_)
  refine lv_goto (tgt := 19) hx hb dX10_origin_84 (by decide) ?_
  exact hk19 x1 x2 x3 x4_1 x5_2 w _ _ _ hp hS (lv_sub hl [2, 3, 4, 5, 1, 0] rfl)
set_option maxHeartbeats 4000000 in
set_option maxRecDepth 100000 in
theorem bX10_origin_19 {p : Program} {l : Launch} {e : Env} {s : State} {m : MethodId} {args : Array Value} {below : List Frame} {meth : Method} {c : Code} {Q : State → Prop} {A : Nat → Prop} {g : Gw} {post : Int32 → Wd → Prop}  (hC : Cx p s m args c cX10_origin RX10 8 g) (hR : RtI tabX p l e (rk 3) s m args below meth c Q cX10_origin A g post)  : ∀ (n : Nat) (x1 : Int32) (x2 : Int32) (x3 : Int32) (x4 : Int32) (x5 : Int32) (w : Wd) (H : Heap) (locs : List Loc) (ls : Array Slot), pX10_origin_19 post n x1 x2 x3 x4 x5 w → St tabX A s.heap g w H locs → lv_has ls 8 [(0, .ref (g.2.2 0)), (1, .int x1), (2, .int x2), (3, .int x3), (4, .int x4), (5, .int x5)] → W p l e (rk 3) s m args below meth c H locs 0 0 Q (F0 m 19 ls []) := by
  have hx := hC.1
  have hb := hC.2.1
  intro n
  induction n with
  | zero =>
    intro x1 x2 x3 x4 x5 w H locs ls hp hS hl
    exact False.elim hp
  | succ n ih =>
    intro x1 x2 x3 x4 x5 w H locs ls hp hS hl
    unfold pX10_origin_19 at hp
    refine lv_iload hx hb dX10_origin_19 (lv_at hl 5 rfl) ?_
    refine lv_aload_n hx hb dX10_origin_21 rfl (lv_at hl 0 rfl) ?_
    refine G_0_16 hC hS m21 dX10_origin_22 ?_
    refine GR_0 hC hS m678 dX10_origin_25 ?_
    refine lv_icmp_ge (tgt := 87) hx hb dX10_origin_28 (by decide) (fun c_1 => ?_) (fun c_1 => ?_)
    · have hp := hp.1 c_1
      refine lv_iload_n hx hb dX10_origin_87 rfl (lv_at hl 1 rfl) ?_
      refine lv_if_ne (tgt := 95) hx hb dX10_origin_88 (by decide) (fun c_2 => ?_) (fun c_2 => ?_)
      · have hp := hp.1 c_2
        refine lv_iload hx hb dX10_origin_95 (lv_at hl 4 rfl) ?_
        exact hR _ _ _ _ _ _ dX10_origin_97 hp hS
      · have hp := hp.2 c_2
        refine lv_iload_n hx hb dX10_origin_91 rfl (lv_at hl 3 rfl) ?_
        refine lv_goto (tgt := 97) hx hb dX10_origin_92 (by decide) ?_
        exact hR _ _ _ _ _ _ dX10_origin_97 hp hS
    · have hp := hp.2 c_1
      refine lv_aload_n hx hb dX10_origin_31 rfl (lv_at hl 0 rfl) ?_
      refine lv_iload hx hb dX10_origin_32 (lv_at hl 5 rfl) ?_
      refine lv_iconst hx hb dX10_origin_34 kI_0 ?_
      refine lv_iload_n hx hb dX10_origin_35 rfl (lv_at hl 2 rfl) ?_
      refine q_cvI (As := [.int x5, .int (0 : Int32), .int x2]) (rest := []) hC hS hl.1 (rX10_samplesWith hp) cwX10_328 yvX10_samplesWith (rcv_0 hC hS) rfl rfl (Nat.le_of_ble_eq_true rfl) (rmk (by decide) (by decide)) dX10_origin_36 (fun r_3 w_4 H locs hp hS => ?_)
      refine lv_istore (lv' := [(6, .int r_3), (0, .ref (g.2.2 0)), (1, .int x1), (2, .int x2), (3, .int x3), (4, .int x4), (5, .int x5)]) hx hb dX10_origin_39 hl (by decide) rfl (fun ls hl => ?_)
      refine lv_aload_n hx hb dX10_origin_41 rfl (lv_at hl 1 rfl) ?_
      refine lv_iload hx hb dX10_origin_42 (lv_at hl 6 rfl) ?_
      refine lv_iconst hx hb dX10_origin_44 kI_1 ?_
      refine lv_iload_n hx hb dX10_origin_45 rfl (lv_at hl 3 rfl) ?_
      refine q_cvI (As := [.int x5, .int (1 : Int32), .int x2]) (rest := []) hC hS hl.1 (rX10_samplesWith hp) cwX10_328 yvX10_samplesWith (rcv_0 hC hS) rfl rfl (Nat.le_of_ble_eq_true rfl) (rmk (by decide) (by decide)) dX10_origin_46 (fun r_5 w_6 H locs hp hS => ?_)
      refine lv_istore (lv' := [(7, .int r_5), (6, .int r_3), (0, .ref (g.2.2 0)), (1, .int x1), (2, .int x2), (3, .int x3), (4, .int x4), (5, .int x5)]) hx hb dX10_origin_49 hl (by decide) rfl (fun ls hl => ?_)
      refine lv_iload hx hb dX10_origin_51 (lv_at hl 1 rfl) ?_
      refine lv_iconst hx hb dX10_origin_53 kI_2 ?_
      refine lv_iload hx hb dX10_origin_54 (lv_at hl 0 rfl) ?_
      refine lv_imul hx hb dX10_origin_56 ?_
      refine lv_icmp_ge (tgt := 67) hx hb dX10_origin_57 (by decide) (fun c_7 => ?_) (fun c_7 => ?_)
      · have hp := hp.1 c_7
        exact bX10_origin_67 hC hR ih x1 x2 x3 x4 x5 r_3 r_5 w_6 _ _ _ hp hS (lv_sub hl [2, 3, 4, 5, 6, 7, 1, 0] rfl)
      · have hp := hp.2 c_7
        refine lv_iload_n hx hb dX10_origin_60 rfl (lv_at hl 5 rfl) ?_
        refine lv_iconst hx hb dX10_origin_61 kI_1 ?_
        refine lv_iload hx hb dX10_origin_62 (lv_at hl 7 rfl) ?_
        refine lv_ishl hx hb dX10_origin_64 ?_
        refine lv_ior hx hb dX10_origin_65 ?_
        refine lv_topi (fun x3_8 ex3_8 => ?_)
        have hp := hp x3_8 ex3_8
        refine lv_istore_n (lv' := [(3, .int x3_8), (7, .int r_5), (6, .int r_3), (0, .ref (g.2.2 0)), (1, .int x1), (2, .int x2), (4, .int x4), (5, .int x5)]) hx hb dX10_origin_66 rfl hl (by decide) rfl (fun ls hl => ?_)
        exact bX10_origin_67 hC hR ih x1 x2 x3_8 x4 x5 r_3 r_5 w_6 _ _ _ hp hS (lv_sub hl [3, 4, 5, 0, 6, 7, 2, 1] rfl)
set_option maxHeartbeats 4000000 in
set_option maxRecDepth 100000 in
theorem rX10_origin {l : Launch} {g : Gw} {w : Wd} {post : Int32 → Wd → Prop}   {x1 : Int32} {x2 : Int32} (hp : pX10_origin post x1 x2 w) : MtI tabX l yX10_origin cX10_origin 8 (some .int) 3 g w [.ref (g.2.2 0), .int x1, .int x2] post := by
  refine q_entI tabX_nd (by decide) rfl (Nat.le_of_ble_eq_true rfl) ?_
  intro p e s m args below meth c A Q ls hC hR hS hl
  have hx := hC.1
  have hb := hC.2.1
  have hl : lv_has ls 8 [(0, .ref (g.2.2 0)), (1, .int x1), (2, .int x2)] := hl
  unfold pX10_origin at hp
  refine lv_iload_n hx hb dX10_origin_0 rfl (lv_at hl 1 rfl) ?_
  refine lv_if_lt (tgt := 9) hx hb dX10_origin_1 (by decide) (fun c_1 => ?_) (fun c_1 => ?_)
  · have hp := hp.1 c_1
    refine lv_iconst hx hb dX10_origin_9 kI_m1 ?_
    exact hR _ _ _ _ _ _ dX10_origin_10 hp hS
  · have hp := hp.2 c_1
    refine lv_iload_n hx hb dX10_origin_4 rfl (lv_at hl 1 rfl) ?_
    refine lv_iconst hx hb dX10_origin_5 kI_1 ?_
    refine lv_icmp_le (tgt := 11) hx hb dX10_origin_6 (by decide) (fun c_2 => ?_) (fun c_2 => ?_)
    · have hp := hp.1 c_2
      refine lv_iconst hx hb dX10_origin_11 kI_0 ?_
      refine lv_istore_n (lv' := [(3, .int (0 : Int32)), (0, .ref (g.2.2 0)), (1, .int x1), (2, .int x2)]) hx hb dX10_origin_12 rfl hl (by decide) rfl (fun ls hl => ?_)
      refine lv_iconst hx hb dX10_origin_13 kI_0 ?_
      refine lv_istore (lv' := [(4, .int (0 : Int32)), (3, .int (0 : Int32)), (0, .ref (g.2.2 0)), (1, .int x1), (2, .int x2)]) hx hb dX10_origin_14 hl (by decide) rfl (fun ls hl => ?_)
      refine lv_iconst hx hb dX10_origin_16 kI_0 ?_
      refine lv_istore (lv' := [(5, .int (0 : Int32)), (4, .int (0 : Int32)), (3, .int (0 : Int32)), (0, .ref (g.2.2 0)), (1, .int x1), (2, .int x2)]) hx hb dX10_origin_17 hl (by decide) rfl (fun ls hl => ?_)
      obtain ⟨n9, hp⟩ := hp
      exact bX10_origin_19 hC hR n9 x1 x2 (0 : Int32) (0 : Int32) (0 : Int32) w _ _ _ hp hS (lv_sub hl [3, 4, 5, 2, 1, 0] rfl)
    · have hp := hp.2 c_2
      refine lv_iconst hx hb dX10_origin_9 kI_m1 ?_
      exact hR _ _ _ _ _ _ dX10_origin_10 hp hS
def pX10_isFalse (post : Int32 → Wd → Prop) (x1 : Int32) (w : Wd) : Prop := vp_in x1 40 ∧ ∀ x2_1, x2_1 = (w.2.1 75 x1.toNatClampNeg) → pX10_isSeal (fun r_2 w_3 => (r_2 = 0 → (post (1 : Int32) w_3)) ∧ (¬ r_2 = 0 → (vp_in x1 40 ∧ pX10_printOf (fun r_5 w_6 => (¬ ((w_3.2.1 74 x1.toNatClampNeg) &&& (r_5 ^^^ (-1 : Int32))) = 0 → (post (1 : Int32) w_6)) ∧ (((w_3.2.1 74 x1.toNatClampNeg) &&& (r_5 ^^^ (-1 : Int32))) = 0 → (vp_in x1 40 ∧ vp_in x2_1 24 ∧ ((w_6.2.1 165 x2_1.toNatClampNeg) ≤ (w_6.2.1 76 x1.toNatClampNeg) → (post (0 : Int32) w_6)) ∧ (¬ (w_6.2.1 165 x2_1.toNatClampNeg) ≤ (w_6.2.1 76 x1.toNatClampNeg) → (post (1 : Int32) w_6))))) x2_1 w_3))) x2_1 w
set_option maxHeartbeats 4000000 in
set_option maxRecDepth 100000 in
theorem rX10_isFalse {l : Launch} {g : Gw} {w : Wd} {post : Int32 → Wd → Prop}   {x1 : Int32} (hp : pX10_isFalse post x1 w) : MtI tabX l yX10_isFalse cX10_isFalse 3 (some .boolean) 3 g w [.ref (g.2.2 0), .int x1] post := by
  refine q_entZ tabX_nd (by decide) rfl (Nat.le_of_ble_eq_true rfl) ?_
  intro p e s m args below meth c A Q ls hC hR hS hl
  have hx := hC.1
  have hb := hC.2.1
  have hl : lv_has ls 3 [(0, .ref (g.2.2 0)), (1, .int x1)] := hl
  unfold pX10_isFalse at hp
  refine lv_aload_n hx hb dX10_isFalse_0 rfl (lv_at hl 0 rfl) ?_
  refine G_0_7 hC hS m46 dX10_isFalse_1 ?_
  refine G_70_4 hC hS m1360 dX10_isFalse_4 ?_
  refine lv_iload_n hx hb dX10_isFalse_7 rfl (lv_at hl 1 rfl) ?_
  refine La_75 hC hS hp.1 dX10_isFalse_8 ?_
  have hp := hp.2
  refine lv_topi (fun x2_1 ex2_1 => ?_)
  have hp := hp x2_1 ex2_1
  refine lv_istore_n (lv' := [(2, .int x2_1), (0, .ref (g.2.2 0)), (1, .int x1)]) hx hb dX10_isFalse_9 rfl hl (by decide) rfl (fun ls hl => ?_)
  refine lv_aload_n hx hb dX10_isFalse_10 rfl (lv_at hl 1 rfl) ?_
  refine lv_iload_n hx hb dX10_isFalse_11 rfl (lv_at hl 0 rfl) ?_
  refine q_cvI (As := [.int x2_1]) (rest := []) hC hS hl.1 (rX10_isSeal hp) cwX10_149 yvX10_isSeal (rcv_0 hC hS) rfl rfl (Nat.le_of_ble_eq_true rfl) (rmk (by decide) (by decide)) dX10_isFalse_12 (fun r_2 w_3 H locs hp hS => ?_)
  refine lv_if_eq (tgt := 59) hx hb dX10_isFalse_15 (by decide) (fun c_4 => ?_) (fun c_4 => ?_)
  · have hp := hp.1 c_4
    refine lv_iconst hx hb dX10_isFalse_59 kI_1 ?_
    refine lv_goto (tgt := 64) hx hb dX10_isFalse_60 (by decide) ?_
    exact hR _ _ _ _ _ _ dX10_isFalse_64 (by decide) hp hS
  · have hp := hp.2 c_4
    refine lv_aload_n hx hb dX10_isFalse_18 rfl (lv_at hl 1 rfl) ?_
    refine G_0_7 hC hS m46 dX10_isFalse_19 ?_
    refine G_70_3 hC hS m1346 dX10_isFalse_22 ?_
    refine lv_iload_n hx hb dX10_isFalse_25 rfl (lv_at hl 2 rfl) ?_
    refine La_74 hC hS hp.1 dX10_isFalse_26 ?_
    have hp := hp.2
    refine lv_aload_n hx hb dX10_isFalse_27 rfl (lv_at hl 1 rfl) ?_
    refine lv_iload_n hx hb dX10_isFalse_28 rfl (lv_at hl 0 rfl) ?_
    refine q_cvI (As := [.int x2_1]) (rest := [.int (w_3.2.1 74 x1.toNatClampNeg)]) hC hS hl.1 (rX10_printOf hp) cwX10_228 yvX10_printOf (rcv_0 hC hS) rfl rfl (Nat.le_of_ble_eq_true rfl) (rmk (by decide) (by decide)) dX10_isFalse_29 (fun r_5 w_6 H locs hp hS => ?_)
    refine lv_iconst hx hb dX10_isFalse_32 kI_m1 ?_
    refine lv_ixor hx hb dX10_isFalse_33 ?_
    refine lv_iand hx hb dX10_isFalse_34 ?_
    refine lv_if_ne (tgt := 59) hx hb dX10_isFalse_35 (by decide) (fun c_7 => ?_) (fun c_7 => ?_)
    · have hp := hp.1 c_7
      refine lv_iconst hx hb dX10_isFalse_59 kI_1 ?_
      refine lv_goto (tgt := 64) hx hb dX10_isFalse_60 (by decide) ?_
      exact hR _ _ _ _ _ _ dX10_isFalse_64 (by decide) hp hS
    · have hp := hp.2 c_7
      refine lv_aload_n hx hb dX10_isFalse_38 rfl (lv_at hl 1 rfl) ?_
      refine G_0_7 hC hS m46 dX10_isFalse_39 ?_
      refine G_70_5 hC hS m1345 dX10_isFalse_42 ?_
      refine lv_iload_n hx hb dX10_isFalse_45 rfl (lv_at hl 2 rfl) ?_
      refine La_76 hC hS hp.1 dX10_isFalse_46 ?_
      have hp := hp.2
      refine lv_aload_n hx hb dX10_isFalse_47 rfl (lv_at hl 1 rfl) ?_
      refine G_0_3 hC hS m30 dX10_isFalse_48 ?_
      refine G_160_4 hC hS m616 dX10_isFalse_51 ?_
      refine lv_iload_n hx hb dX10_isFalse_54 rfl (lv_at hl 0 rfl) ?_
      refine La_165 hC hS hp.1 dX10_isFalse_55 ?_
      have hp := hp.2
      refine lv_icmp_ge (tgt := 63) hx hb dX10_isFalse_56 (by decide) (fun c_8 => ?_) (fun c_8 => ?_)
      · have hp := hp.1 c_8
        refine lv_iconst hx hb dX10_isFalse_63 kI_0 ?_
        exact hR _ _ _ _ _ _ dX10_isFalse_64 (by decide) hp hS
      · have hp := hp.2 c_8
        refine lv_iconst hx hb dX10_isFalse_59 kI_1 ?_
        refine lv_goto (tgt := 64) hx hb dX10_isFalse_60 (by decide) ?_
        exact hR _ _ _ _ _ _ dX10_isFalse_64 (by decide) hp hS
def pX10_falses_61 (k12 : Int32 → Int32 → Int32 → Wd → Prop) (post : Int32 → Wd → Prop) (x1 : Int32) (x2 : Int32) (x3 : Int32) (w : Wd) : Prop := ∀ x3_1, x3_1 = x3 + (1 : Int32) → k12 x1 x2 x3_1 w
def pX10_falses_58 (k12 : Int32 → Int32 → Int32 → Wd → Prop) (post : Int32 → Wd → Prop) (x1 : Int32) (x2 : Int32) (x3 : Int32) (w : Wd) : Prop := ∀ x2_1, x2_1 = x2 + (1 : Int32) → pX10_falses_61 k12 post x1 x2_1 x3 w
def pX10_falses_12 (post : Int32 → Wd → Prop) : Nat → Int32 → Int32 → Int32 → Wd → Prop
  | 0, _, _, _, _ => False
  | n + 1, x1, x2, x3, w => ((w.1 70 0) ≤ x3 → (post x2 w)) ∧ (¬ (w.1 70 0) ≤ x3 → (pX3_counts (fun r_2 w_3 => (r_2 = 0 → (pX10_falses_61 (pX10_falses_12 post n) post x1 x2 x3 w_3)) ∧ (¬ r_2 = 0 → (pX10_isFalse (fun r_5 w_6 => (r_5 = 0 → (pX10_falses_61 (pX10_falses_12 post n) post x1 x2 x3 w_6)) ∧ (¬ r_5 = 0 → (((8 : Int32) ≤ x2 → (pX10_falses_58 (pX10_falses_12 post n) post x1 x2 x3 w_6)) ∧ (¬ (8 : Int32) ≤ x2 → (pX4_lay (fun w_9 => pX10_falses_58 (pX10_falses_12 post n) post x1 x2 x3 w_9) x3 w_6))))) x3 w_3))) x3 (1 : Int32) x1 w))
def pX10_falses (post : Int32 → Wd → Prop) (x1 : Int32) (w : Wd) : Prop := ∀ w_1, w_1 = sI w 110 1 (0 : Int32) → ∃ n9, pX10_falses_12 post n9 x1 (0 : Int32) (0 : Int32) w_1
set_option maxHeartbeats 4000000 in
set_option maxRecDepth 100000 in
theorem bX10_falses_61 {p : Program} {l : Launch} {e : Env} {s : State} {m : MethodId} {args : Array Value} {below : List Frame} {meth : Method} {c : Code} {Q : State → Prop} {A : Nat → Prop} {g : Gw} {post : Int32 → Wd → Prop}  (hC : Cx p s m args c cX10_falses RX10 4 g) (hR : RtI tabX p l e (rk 4) s m args below meth c Q cX10_falses A g post)  {k12 : Int32 → Int32 → Int32 → Wd → Prop} (hk12 : ∀ (x1 : Int32) (x2 : Int32) (x3 : Int32) (w : Wd) (H : Heap) (locs : List Loc) (ls : Array Slot), k12 x1 x2 x3 w → St tabX A s.heap g w H locs → lv_has ls 4 [(0, .ref (g.2.2 0)), (1, .int x1), (2, .int x2), (3, .int x3)] → W p l e (rk 4) s m args below meth c H locs 0 0 Q (F0 m 12 ls [])) : ∀ (x1 : Int32) (x2 : Int32) (x3 : Int32) (w : Wd) (H : Heap) (locs : List Loc) (ls : Array Slot), pX10_falses_61 k12 post x1 x2 x3 w → St tabX A s.heap g w H locs → lv_has ls 4 [(0, .ref (g.2.2 0)), (1, .int x1), (2, .int x2), (3, .int x3)] → W p l e (rk 4) s m args below meth c H locs 0 0 Q (F0 m 61 ls []) := by
  have hx := hC.1
  have hb := hC.2.1
  intro x1 x2 x3 w H locs ls hp hS hl
  unfold pX10_falses_61 at hp
  obtain ⟨x3_1, ex3_1⟩ : ∃ y : Int32, y = x3 + (1 : Int32) := ⟨_, rfl⟩
  have hp := hp x3_1 ex3_1
  refine lv_iinc (v := x3_1) (lv' := [(3, .int x3_1), (0, .ref (g.2.2 0)), (1, .int x1), (2, .int x2)]) hx hb dX10_falses_61 hl (k := 3) rfl (by rw [ex3_1]; rfl) (by decide) rfl (fun ls hl => ?_)
  refine lv_goto (tgt := 12) hx hb dX10_falses_64 (by decide) ?_
  exact hk12 x1 x2 x3_1 w _ _ _ hp hS (lv_sub hl [1, 2, 3, 0] rfl)
set_option maxHeartbeats 4000000 in
set_option maxRecDepth 100000 in
theorem bX10_falses_58 {p : Program} {l : Launch} {e : Env} {s : State} {m : MethodId} {args : Array Value} {below : List Frame} {meth : Method} {c : Code} {Q : State → Prop} {A : Nat → Prop} {g : Gw} {post : Int32 → Wd → Prop}  (hC : Cx p s m args c cX10_falses RX10 4 g) (hR : RtI tabX p l e (rk 4) s m args below meth c Q cX10_falses A g post)  {k12 : Int32 → Int32 → Int32 → Wd → Prop} (hk12 : ∀ (x1 : Int32) (x2 : Int32) (x3 : Int32) (w : Wd) (H : Heap) (locs : List Loc) (ls : Array Slot), k12 x1 x2 x3 w → St tabX A s.heap g w H locs → lv_has ls 4 [(0, .ref (g.2.2 0)), (1, .int x1), (2, .int x2), (3, .int x3)] → W p l e (rk 4) s m args below meth c H locs 0 0 Q (F0 m 12 ls [])) : ∀ (x1 : Int32) (x2 : Int32) (x3 : Int32) (w : Wd) (H : Heap) (locs : List Loc) (ls : Array Slot), pX10_falses_58 k12 post x1 x2 x3 w → St tabX A s.heap g w H locs → lv_has ls 4 [(0, .ref (g.2.2 0)), (1, .int x1), (2, .int x2), (3, .int x3)] → W p l e (rk 4) s m args below meth c H locs 0 0 Q (F0 m 58 ls []) := by
  have hx := hC.1
  have hb := hC.2.1
  intro x1 x2 x3 w H locs ls hp hS hl
  unfold pX10_falses_58 at hp
  obtain ⟨x2_1, ex2_1⟩ : ∃ y : Int32, y = x2 + (1 : Int32) := ⟨_, rfl⟩
  have hp := hp x2_1 ex2_1
  refine lv_iinc (v := x2_1) (lv' := [(2, .int x2_1), (0, .ref (g.2.2 0)), (1, .int x1), (3, .int x3)]) hx hb dX10_falses_58 hl (k := 2) rfl (by rw [ex2_1]; rfl) (by decide) rfl (fun ls hl => ?_)
  exact bX10_falses_61 hC hR hk12 x1 x2_1 x3 w _ _ _ hp hS (lv_sub hl [1, 2, 0, 3] rfl)
set_option maxHeartbeats 4000000 in
set_option maxRecDepth 100000 in
theorem bX10_falses_12 {p : Program} {l : Launch} {e : Env} {s : State} {m : MethodId} {args : Array Value} {below : List Frame} {meth : Method} {c : Code} {Q : State → Prop} {A : Nat → Prop} {g : Gw} {post : Int32 → Wd → Prop}  (hC : Cx p s m args c cX10_falses RX10 4 g) (hR : RtI tabX p l e (rk 4) s m args below meth c Q cX10_falses A g post)  : ∀ (n : Nat) (x1 : Int32) (x2 : Int32) (x3 : Int32) (w : Wd) (H : Heap) (locs : List Loc) (ls : Array Slot), pX10_falses_12 post n x1 x2 x3 w → St tabX A s.heap g w H locs → lv_has ls 4 [(0, .ref (g.2.2 0)), (1, .int x1), (2, .int x2), (3, .int x3)] → W p l e (rk 4) s m args below meth c H locs 0 0 Q (F0 m 12 ls []) := by
  have hx := hC.1
  have hb := hC.2.1
  intro n
  induction n with
  | zero =>
    intro x1 x2 x3 w H locs ls hp hS hl
    exact False.elim hp
  | succ n ih =>
    intro x1 x2 x3 w H locs ls hp hS hl
    unfold pX10_falses_12 at hp
    refine lv_iload_n hx hb dX10_falses_12 rfl (lv_at hl 3 rfl) ?_
    refine lv_aload_n hx hb dX10_falses_13 rfl (lv_at hl 0 rfl) ?_
    refine G_0_7 hC hS m46 dX10_falses_14 ?_
    refine G_70_0 hC hS m223 dX10_falses_17 ?_
    refine lv_icmp_ge (tgt := 67) hx hb dX10_falses_20 (by decide) (fun c_1 => ?_) (fun c_1 => ?_)
    · have hp := hp.1 c_1
      refine lv_iload_n hx hb dX10_falses_67 rfl (lv_at hl 2 rfl) ?_
      exact hR _ _ _ _ _ _ dX10_falses_68 hp hS
    · have hp := hp.2 c_1
      refine lv_aload_n hx hb dX10_falses_23 rfl (lv_at hl 0 rfl) ?_
      refine G_0_7 hC hS m46 dX10_falses_24 ?_
      refine lv_iload_n hx hb dX10_falses_27 rfl (lv_at hl 3 rfl) ?_
      refine lv_iconst hx hb dX10_falses_28 kI_1 ?_
      refine lv_iload_n hx hb dX10_falses_29 rfl (lv_at hl 1 rfl) ?_
      refine q_cvI (As := [.int x3, .int (1 : Int32), .int x1]) (rest := []) hC hS hl.1 (rX3_counts hp) cwX10_335 yvX3_counts (rcv_70 hC hS) rfl rfl (Nat.le_of_ble_eq_true rfl) (rmk (by decide) (by decide)) dX10_falses_30 (fun r_2 w_3 H locs hp hS => ?_)
      refine lv_if_eq (tgt := 61) hx hb dX10_falses_33 (by decide) (fun c_4 => ?_) (fun c_4 => ?_)
      · have hp := hp.1 c_4
        exact bX10_falses_61 hC hR ih x1 x2 x3 w_3 _ _ _ hp hS (lv_sub hl [0, 1, 2, 3] rfl)
      · have hp := hp.2 c_4
        refine lv_aload_n hx hb dX10_falses_36 rfl (lv_at hl 0 rfl) ?_
        refine lv_iload_n hx hb dX10_falses_37 rfl (lv_at hl 3 rfl) ?_
        refine q_cvI (As := [.int x3]) (rest := []) hC hS hl.1 (rX10_isFalse hp) cwX10_344 yvX10_isFalse (rcv_0 hC hS) rfl rfl (Nat.le_of_ble_eq_true rfl) (rmk (by decide) (by decide)) dX10_falses_38 (fun r_5 w_6 H locs hp hS => ?_)
        refine lv_if_eq (tgt := 61) hx hb dX10_falses_41 (by decide) (fun c_7 => ?_) (fun c_7 => ?_)
        · have hp := hp.1 c_7
          exact bX10_falses_61 hC hR ih x1 x2 x3 w_6 _ _ _ hp hS (lv_sub hl [0, 1, 2, 3] rfl)
        · have hp := hp.2 c_7
          refine lv_iload_n hx hb dX10_falses_44 rfl (lv_at hl 2 rfl) ?_
          refine lv_bipush hx hb dX10_falses_45 kB_8 ?_
          refine lv_icmp_ge (tgt := 58) hx hb dX10_falses_47 (by decide) (fun c_8 => ?_) (fun c_8 => ?_)
          · have hp := hp.1 c_8
            exact bX10_falses_58 hC hR ih x1 x2 x3 w_6 _ _ _ hp hS (lv_sub hl [0, 1, 2, 3] rfl)
          · have hp := hp.2 c_8
            refine lv_aload_n hx hb dX10_falses_50 rfl (lv_at hl 0 rfl) ?_
            refine G_0_9 hC hS m54 dX10_falses_51 ?_
            refine lv_iload_n hx hb dX10_falses_54 rfl (lv_at hl 3 rfl) ?_
            refine q_cvV (As := [.int x3]) (rest := []) hC hS hl.1 (rX4_lay hp) cwX10_263 yvX4_lay (rcv_110 hC hS) rfl rfl (Nat.le_of_ble_eq_true rfl) (rmk (by decide) (by decide)) dX10_falses_55 (fun w_9 H locs hp hS => ?_)
            exact bX10_falses_58 hC hR ih x1 x2 x3 w_9 _ _ _ hp hS (lv_sub hl [0, 1, 2, 3] rfl)
set_option maxHeartbeats 4000000 in
set_option maxRecDepth 100000 in
theorem rX10_falses {l : Launch} {g : Gw} {w : Wd} {post : Int32 → Wd → Prop}   {x1 : Int32} (hp : pX10_falses post x1 w) : MtI tabX l yX10_falses cX10_falses 4 (some .int) 4 g w [.ref (g.2.2 0), .int x1] post := by
  refine q_entI tabX_nd (by decide) rfl (Nat.le_of_ble_eq_true rfl) ?_
  intro p e s m args below meth c A Q ls hC hR hS hl
  have hx := hC.1
  have hb := hC.2.1
  have hl : lv_has ls 4 [(0, .ref (g.2.2 0)), (1, .int x1)] := hl
  unfold pX10_falses at hp
  refine lv_aload_n hx hb dX10_falses_0 rfl (lv_at hl 0 rfl) ?_
  refine G_0_9 hC hS m54 dX10_falses_1 ?_
  refine lv_iconst hx hb dX10_falses_4 kI_0 ?_
  refine P_110_1 hC hS m224 dX10_falses_5 (fun w_1 H locs ew_1 hS => ?_)
  have hp := hp w_1 ew_1
  refine lv_iconst hx hb dX10_falses_8 kI_0 ?_
  refine lv_istore_n (lv' := [(2, .int (0 : Int32)), (0, .ref (g.2.2 0)), (1, .int x1)]) hx hb dX10_falses_9 rfl hl (by decide) rfl (fun ls hl => ?_)
  refine lv_iconst hx hb dX10_falses_10 kI_0 ?_
  refine lv_istore_n (lv' := [(3, .int (0 : Int32)), (2, .int (0 : Int32)), (0, .ref (g.2.2 0)), (1, .int x1)]) hx hb dX10_falses_11 rfl hl (by decide) rfl (fun ls hl => ?_)
  obtain ⟨n9, hp⟩ := hp
  exact bX10_falses_12 hC hR n9 x1 (0 : Int32) (0 : Int32) w_1 _ _ _ hp hS (lv_sub hl [2, 3, 1, 0] rfl)
def pX10_span_122 (k30 : Int32 → Int32 → Int32 → Int32 → Int32 → Int32 → Wd → Prop) (post : Int32 → Wd → Prop) (x1 : Int32) (x2 : Int32) (x3 : Int32) (x4 : Int32) (x5 : Int32) (x6 : Int32) (w : Wd) : Prop := ∀ x6_1, x6_1 = x6 + (1 : Int32) → k30 x1 x2 x3 x4 x5 x6_1 w
def pX10_span_30 (post : Int32 → Wd → Prop) : Nat → Int32 → Int32 → Int32 → Int32 → Int32 → Int32 → Wd → Prop
  | 0, _, _, _, _, _, _, _ => False
  | n + 1, x1, x2, x3, x4, x5, x6, w => ((w.1 70 0) ≤ x6 → ((¬ x2 = (2 : Int32) → ((x4 ≤ x5 → ((¬ x2 = 0 → (post x5 w)) ∧ (x2 = 0 → (post x4 w)))) ∧ (¬ x4 ≤ x5 → (post (-1 : Int32) w)))) ∧ (x2 = (2 : Int32) → (post (if (0 : Int32) < ((x5 - x4) + (1 : Int32)) then ((x5 - x4) + (1 : Int32)) else (0 : Int32)) w)))) ∧ (¬ (w.1 70 0) ≤ x6 → (pX3_counts (fun r_5 w_6 => (r_5 = 0 → (pX10_span_122 (pX10_span_30 post n) post x1 x2 x3 x4 x5 x6 w_6)) ∧ (¬ r_5 = 0 → (vp_in x6 40 ∧ (¬ (w_6.2.1 74 x6.toNatClampNeg) = x1 → (pX10_span_122 (pX10_span_30 post n) post x1 x2 x3 x4 x5 x6 w_6)) ∧ ((w_6.2.1 74 x6.toNatClampNeg) = x1 → (vp_in x6 40 ∧ ((w_6.2.1 76 x6.toNatClampNeg) = 0 → (vp_in x6 40 ∧ ∀ x5_10, x5_10 = (if (w_6.2.1 75 x6.toNatClampNeg) < x5 then (w_6.2.1 75 x6.toNatClampNeg) else x5) → pX10_span_122 (pX10_span_30 post n) post x1 x2 x3 x4 x5_10 x6 w_6)) ∧ (¬ (w_6.2.1 76 x6.toNatClampNeg) = 0 → (vp_in x6 40 ∧ ∀ x4_11, x4_11 = (if x4 < ((w_6.2.1 75 x6.toNatClampNeg) + (1 : Int32)) then ((w_6.2.1 75 x6.toNatClampNeg) + (1 : Int32)) else x4) → pX10_span_122 (pX10_span_30 post n) post x1 x2 x3 x4_11 x5 x6 w_6))))))) x6 (2 : Int32) x3 w))
def pX10_span (post : Int32 → Wd → Prop) (x1 : Int32) (x2 : Int32) (x3 : Int32) (w : Wd) : Prop := pX10_isMark (fun r_1 w_2 => (r_1 = 0 → (post (-1 : Int32) w_2)) ∧ (¬ r_1 = 0 → ((x2 < 0 → (post (-1 : Int32) w_2)) ∧ (¬ x2 < 0 → ((x2 ≤ (2 : Int32) → (∃ n9, pX10_span_30 post n9 x1 x2 x3 (0 : Int32) (999 : Int32) (0 : Int32) w_2)) ∧ (¬ x2 ≤ (2 : Int32) → (post (-1 : Int32) w_2))))))) x1 w
set_option maxHeartbeats 4000000 in
set_option maxRecDepth 100000 in
theorem bX10_span_122 {p : Program} {l : Launch} {e : Env} {s : State} {m : MethodId} {args : Array Value} {below : List Frame} {meth : Method} {c : Code} {Q : State → Prop} {A : Nat → Prop} {g : Gw} {post : Int32 → Wd → Prop}  (hC : Cx p s m args c cX10_span RX10 7 g) (hR : RtI tabX p l e (rk 2) s m args below meth c Q cX10_span A g post)  {k30 : Int32 → Int32 → Int32 → Int32 → Int32 → Int32 → Wd → Prop} (hk30 : ∀ (x1 : Int32) (x2 : Int32) (x3 : Int32) (x4 : Int32) (x5 : Int32) (x6 : Int32) (w : Wd) (H : Heap) (locs : List Loc) (ls : Array Slot), k30 x1 x2 x3 x4 x5 x6 w → St tabX A s.heap g w H locs → lv_has ls 7 [(0, .ref (g.2.2 0)), (1, .int x1), (2, .int x2), (3, .int x3), (4, .int x4), (5, .int x5), (6, .int x6)] → W p l e (rk 2) s m args below meth c H locs 0 0 Q (F0 m 30 ls [])) : ∀ (x1 : Int32) (x2 : Int32) (x3 : Int32) (x4 : Int32) (x5 : Int32) (x6 : Int32) (w : Wd) (H : Heap) (locs : List Loc) (ls : Array Slot), pX10_span_122 k30 post x1 x2 x3 x4 x5 x6 w → St tabX A s.heap g w H locs → lv_has ls 7 [(0, .ref (g.2.2 0)), (1, .int x1), (2, .int x2), (3, .int x3), (4, .int x4), (5, .int x5), (6, .int x6)] → W p l e (rk 2) s m args below meth c H locs 0 0 Q (F0 m 122 ls []) := by
  have hx := hC.1
  have hb := hC.2.1
  intro x1 x2 x3 x4 x5 x6 w H locs ls hp hS hl
  unfold pX10_span_122 at hp
  obtain ⟨x6_1, ex6_1⟩ : ∃ y : Int32, y = x6 + (1 : Int32) := ⟨_, rfl⟩
  have hp := hp x6_1 ex6_1
  refine lv_iinc (v := x6_1) (lv' := [(6, .int x6_1), (0, .ref (g.2.2 0)), (1, .int x1), (2, .int x2), (3, .int x3), (4, .int x4), (5, .int x5)]) hx hb dX10_span_122 hl (k := 6) rfl (by rw [ex6_1]; rfl) (by decide) rfl (fun ls hl => ?_)
  refine lv_goto (tgt := 30) hx hb dX10_span_125 (by decide) ?_
  exact hk30 x1 x2 x3 x4 x5 x6_1 w _ _ _ hp hS (lv_sub hl [1, 2, 3, 4, 5, 6, 0] rfl)
set_option maxHeartbeats 4000000 in
set_option maxRecDepth 100000 in
theorem bX10_span_30 {p : Program} {l : Launch} {e : Env} {s : State} {m : MethodId} {args : Array Value} {below : List Frame} {meth : Method} {c : Code} {Q : State → Prop} {A : Nat → Prop} {g : Gw} {post : Int32 → Wd → Prop}  (hC : Cx p s m args c cX10_span RX10 7 g) (hR : RtI tabX p l e (rk 2) s m args below meth c Q cX10_span A g post)  : ∀ (n : Nat) (x1 : Int32) (x2 : Int32) (x3 : Int32) (x4 : Int32) (x5 : Int32) (x6 : Int32) (w : Wd) (H : Heap) (locs : List Loc) (ls : Array Slot), pX10_span_30 post n x1 x2 x3 x4 x5 x6 w → St tabX A s.heap g w H locs → lv_has ls 7 [(0, .ref (g.2.2 0)), (1, .int x1), (2, .int x2), (3, .int x3), (4, .int x4), (5, .int x5), (6, .int x6)] → W p l e (rk 2) s m args below meth c H locs 0 0 Q (F0 m 30 ls []) := by
  have hx := hC.1
  have hb := hC.2.1
  intro n
  induction n with
  | zero =>
    intro x1 x2 x3 x4 x5 x6 w H locs ls hp hS hl
    exact False.elim hp
  | succ n ih =>
    intro x1 x2 x3 x4 x5 x6 w H locs ls hp hS hl
    unfold pX10_span_30 at hp
    refine lv_iload hx hb dX10_span_30 (lv_at hl 6 rfl) ?_
    refine lv_aload_n hx hb dX10_span_32 rfl (lv_at hl 0 rfl) ?_
    refine G_0_7 hC hS m46 dX10_span_33 ?_
    refine G_70_0 hC hS m223 dX10_span_36 ?_
    refine lv_icmp_ge (tgt := 128) hx hb dX10_span_39 (by decide) (fun c_1 => ?_) (fun c_1 => ?_)
    · have hp := hp.1 c_1
      refine lv_iload_n hx hb dX10_span_128 rfl (lv_at hl 2 rfl) ?_
      refine lv_iconst hx hb dX10_span_129 kI_2 ?_
      refine lv_icmp_ne (tgt := 145) hx hb dX10_span_130 (by decide) (fun c_2 => ?_) (fun c_2 => ?_)
      · have hp := hp.1 c_2
        refine lv_iload hx hb dX10_span_145 (lv_at hl 4 rfl) ?_
        refine lv_iload hx hb dX10_span_147 (lv_at hl 5 rfl) ?_
        refine lv_icmp_le (tgt := 154) hx hb dX10_span_149 (by decide) (fun c_3 => ?_) (fun c_3 => ?_)
        · have hp := hp.1 c_3
          refine lv_iload_n hx hb dX10_span_154 rfl (lv_at hl 2 rfl) ?_
          refine lv_if_ne (tgt := 163) hx hb dX10_span_155 (by decide) (fun c_4 => ?_) (fun c_4 => ?_)
          · have hp := hp.1 c_4
            refine lv_iload hx hb dX10_span_163 (lv_at hl 5 rfl) ?_
            exact hR _ _ _ _ _ _ dX10_span_165 hp hS
          · have hp := hp.2 c_4
            refine lv_iload hx hb dX10_span_158 (lv_at hl 4 rfl) ?_
            refine lv_goto (tgt := 165) hx hb dX10_span_160 (by decide) ?_
            exact hR _ _ _ _ _ _ dX10_span_165 hp hS
        · have hp := hp.2 c_3
          refine lv_iconst hx hb dX10_span_152 kI_m1 ?_
          exact hR _ _ _ _ _ _ dX10_span_153 hp hS
      · have hp := hp.2 c_2
        refine lv_iconst hx hb dX10_span_133 kI_0 ?_
        refine lv_iload hx hb dX10_span_134 (lv_at hl 5 rfl) ?_
        refine lv_iload hx hb dX10_span_136 (lv_at hl 4 rfl) ?_
        refine lv_isub hx hb dX10_span_138 ?_
        refine lv_iconst hx hb dX10_span_139 kI_1 ?_
        refine lv_iadd hx hb dX10_span_140 ?_
        refine q_max hC hl.1 m1084 m728 m348 m729 (rmm (by decide) (Nat.le_of_ble_eq_true rfl)) dX10_span_141 ?_
        exact hR _ _ _ _ _ _ dX10_span_144 hp hS
    · have hp := hp.2 c_1
      refine lv_aload_n hx hb dX10_span_42 rfl (lv_at hl 0 rfl) ?_
      refine G_0_7 hC hS m46 dX10_span_43 ?_
      refine lv_iload hx hb dX10_span_46 (lv_at hl 6 rfl) ?_
      refine lv_iconst hx hb dX10_span_48 kI_2 ?_
      refine lv_iload_n hx hb dX10_span_49 rfl (lv_at hl 3 rfl) ?_
      refine q_cvI (As := [.int x6, .int (2 : Int32), .int x3]) (rest := []) hC hS hl.1 (rX3_counts hp) cwX10_335 yvX3_counts (rcv_70 hC hS) rfl rfl (Nat.le_of_ble_eq_true rfl) (rmk (by decide) (by decide)) dX10_span_50 (fun r_5 w_6 H locs hp hS => ?_)
      refine lv_if_eq (tgt := 122) hx hb dX10_span_53 (by decide) (fun c_7 => ?_) (fun c_7 => ?_)
      · have hp := hp.1 c_7
        exact bX10_span_122 hC hR ih x1 x2 x3 x4 x5 x6 w_6 _ _ _ hp hS (lv_sub hl [0, 1, 2, 3, 4, 5, 6] rfl)
      · have hp := hp.2 c_7
        refine lv_aload_n hx hb dX10_span_56 rfl (lv_at hl 0 rfl) ?_
        refine G_0_7 hC hS m46 dX10_span_57 ?_
        refine G_70_3 hC hS m1346 dX10_span_60 ?_
        refine lv_iload hx hb dX10_span_63 (lv_at hl 6 rfl) ?_
        refine La_74 hC hS hp.1 dX10_span_65 ?_
        have hp := hp.2
        refine lv_iload_n hx hb dX10_span_66 rfl (lv_at hl 1 rfl) ?_
        refine lv_icmp_ne (tgt := 122) hx hb dX10_span_67 (by decide) (fun c_8 => ?_) (fun c_8 => ?_)
        · have hp := hp.1 c_8
          exact bX10_span_122 hC hR ih x1 x2 x3 x4 x5 x6 w_6 _ _ _ hp hS (lv_sub hl [0, 1, 2, 3, 4, 5, 6] rfl)
        · have hp := hp.2 c_8
          refine lv_aload_n hx hb dX10_span_70 rfl (lv_at hl 0 rfl) ?_
          refine G_0_7 hC hS m46 dX10_span_71 ?_
          refine G_70_5 hC hS m1345 dX10_span_74 ?_
          refine lv_iload hx hb dX10_span_77 (lv_at hl 6 rfl) ?_
          refine La_76 hC hS hp.1 dX10_span_79 ?_
          have hp := hp.2
          refine lv_if_eq (tgt := 105) hx hb dX10_span_80 (by decide) (fun c_9 => ?_) (fun c_9 => ?_)
          · have hp := hp.1 c_9
            refine lv_iload hx hb dX10_span_105 (lv_at hl 5 rfl) ?_
            refine lv_aload_n hx hb dX10_span_107 rfl (lv_at hl 0 rfl) ?_
            refine G_0_7 hC hS m46 dX10_span_108 ?_
            refine G_70_4 hC hS m1360 dX10_span_111 ?_
            refine lv_iload hx hb dX10_span_114 (lv_at hl 6 rfl) ?_
            refine La_75 hC hS hp.1 dX10_span_116 ?_
            have hp := hp.2
            refine q_min hC hl.1 m1340 m347 m348 m349 (rmm (by decide) (Nat.le_of_ble_eq_true rfl)) dX10_span_117 ?_
            refine lv_topi (fun x5_10 ex5_10 => ?_)
            have hp := hp x5_10 ex5_10
            refine lv_istore (lv' := [(5, .int x5_10), (0, .ref (g.2.2 0)), (1, .int x1), (2, .int x2), (3, .int x3), (4, .int x4), (6, .int x6)]) hx hb dX10_span_120 hl (by decide) rfl (fun ls hl => ?_)
            exact bX10_span_122 hC hR ih x1 x2 x3 x4 x5_10 x6 w_6 _ _ _ hp hS (lv_sub hl [1, 2, 3, 4, 5, 0, 6] rfl)
          · have hp := hp.2 c_9
            refine lv_iload hx hb dX10_span_83 (lv_at hl 4 rfl) ?_
            refine lv_aload_n hx hb dX10_span_85 rfl (lv_at hl 0 rfl) ?_
            refine G_0_7 hC hS m46 dX10_span_86 ?_
            refine G_70_4 hC hS m1360 dX10_span_89 ?_
            refine lv_iload hx hb dX10_span_92 (lv_at hl 6 rfl) ?_
            refine La_75 hC hS hp.1 dX10_span_94 ?_
            have hp := hp.2
            refine lv_iconst hx hb dX10_span_95 kI_1 ?_
            refine lv_iadd hx hb dX10_span_96 ?_
            refine q_max hC hl.1 m1084 m728 m348 m729 (rmm (by decide) (Nat.le_of_ble_eq_true rfl)) dX10_span_97 ?_
            refine lv_topi (fun x4_11 ex4_11 => ?_)
            have hp := hp x4_11 ex4_11
            refine lv_istore (lv' := [(4, .int x4_11), (0, .ref (g.2.2 0)), (1, .int x1), (2, .int x2), (3, .int x3), (5, .int x5), (6, .int x6)]) hx hb dX10_span_100 hl (by decide) rfl (fun ls hl => ?_)
            refine lv_goto (tgt := 122) hx hb dX10_span_102 (by decide) ?_
            exact bX10_span_122 hC hR ih x1 x2 x3 x4_11 x5 x6 w_6 _ _ _ hp hS (lv_sub hl [1, 2, 3, 4, 0, 5, 6] rfl)
set_option maxHeartbeats 4000000 in
set_option maxRecDepth 100000 in
theorem rX10_span {l : Launch} {g : Gw} {w : Wd} {post : Int32 → Wd → Prop}   {x1 : Int32} {x2 : Int32} {x3 : Int32} (hp : pX10_span post x1 x2 x3 w) : MtI tabX l yX10_span cX10_span 7 (some .int) 2 g w [.ref (g.2.2 0), .int x1, .int x2, .int x3] post := by
  refine q_entI tabX_nd (by decide) rfl (Nat.le_of_ble_eq_true rfl) ?_
  intro p e s m args below meth c A Q ls hC hR hS hl
  have hx := hC.1
  have hb := hC.2.1
  have hl : lv_has ls 7 [(0, .ref (g.2.2 0)), (1, .int x1), (2, .int x2), (3, .int x3)] := hl
  unfold pX10_span at hp
  refine lv_aload_n hx hb dX10_span_0 rfl (lv_at hl 0 rfl) ?_
  refine lv_iload_n hx hb dX10_span_1 rfl (lv_at hl 1 rfl) ?_
  refine q_cvI (As := [.int x1]) (rest := []) hC hS hl.1 (rX10_isMark hp) cwX10_286 yvX10_isMark (rcv_0 hC hS) rfl rfl (Nat.le_of_ble_eq_true rfl) (rmk (by decide) (by decide)) dX10_span_2 (fun r_1 w_2 H locs hp hS => ?_)
  refine lv_if_eq (tgt := 17) hx hb dX10_span_5 (by decide) (fun c_3 => ?_) (fun c_3 => ?_)
  · have hp := hp.1 c_3
    refine lv_iconst hx hb dX10_span_17 kI_m1 ?_
    exact hR _ _ _ _ _ _ dX10_span_18 hp hS
  · have hp := hp.2 c_3
    refine lv_iload_n hx hb dX10_span_8 rfl (lv_at hl 2 rfl) ?_
    refine lv_if_lt (tgt := 17) hx hb dX10_span_9 (by decide) (fun c_4 => ?_) (fun c_4 => ?_)
    · have hp := hp.1 c_4
      refine lv_iconst hx hb dX10_span_17 kI_m1 ?_
      exact hR _ _ _ _ _ _ dX10_span_18 hp hS
    · have hp := hp.2 c_4
      refine lv_iload_n hx hb dX10_span_12 rfl (lv_at hl 2 rfl) ?_
      refine lv_iconst hx hb dX10_span_13 kI_2 ?_
      refine lv_icmp_le (tgt := 19) hx hb dX10_span_14 (by decide) (fun c_5 => ?_) (fun c_5 => ?_)
      · have hp := hp.1 c_5
        refine lv_iconst hx hb dX10_span_19 kI_0 ?_
        refine lv_istore (lv' := [(4, .int (0 : Int32)), (0, .ref (g.2.2 0)), (1, .int x1), (2, .int x2), (3, .int x3)]) hx hb dX10_span_20 hl (by decide) rfl (fun ls hl => ?_)
        refine lv_sipush hx hb dX10_span_22 kS_999 ?_
        refine lv_istore (lv' := [(5, .int (999 : Int32)), (4, .int (0 : Int32)), (0, .ref (g.2.2 0)), (1, .int x1), (2, .int x2), (3, .int x3)]) hx hb dX10_span_25 hl (by decide) rfl (fun ls hl => ?_)
        refine lv_iconst hx hb dX10_span_27 kI_0 ?_
        refine lv_istore (lv' := [(6, .int (0 : Int32)), (5, .int (999 : Int32)), (4, .int (0 : Int32)), (0, .ref (g.2.2 0)), (1, .int x1), (2, .int x2), (3, .int x3)]) hx hb dX10_span_28 hl (by decide) rfl (fun ls hl => ?_)
        obtain ⟨n9, hp⟩ := hp
        exact bX10_span_30 hC hR n9 x1 x2 x3 (0 : Int32) (999 : Int32) (0 : Int32) w_2 _ _ _ hp hS (lv_sub hl [3, 4, 5, 6, 2, 1, 0] rfl)
      · have hp := hp.2 c_5
        refine lv_iconst hx hb dX10_span_17 kI_m1 ?_
        exact hR _ _ _ _ _ _ dX10_span_18 hp hS
def pX3_join_116 (k72 : Int32 → Int32 → Int32 → Int32 → Wd → Prop) (post : Int32 → Wd → Prop) (x1 : Int32) (x4 : Int32) (x5 : Int32) (x6 : Int32) (w : Wd) : Prop := ∀ x6_1, x6_1 = x6 + (1 : Int32) → k72 x1 x4 x5 x6_1 w
def pX3_join_72 (post : Int32 → Wd → Prop) : Nat → Int32 → Int32 → Int32 → Int32 → Wd → Prop
  | 0, _, _, _, _, _ => False
  | n + 1, x1, x4, x5, x6, w => ((8 : Int32) ≤ x6 → (post (1 : Int32) w)) ∧ (¬ (8 : Int32) ≤ x6 → (vp_in x6 8 ∧ (¬ (w.2.1 79 x6.toNatClampNeg) = x5 → (pX3_join_116 (pX3_join_72 post n) post x1 x4 x5 x6 w)) ∧ ((w.2.1 79 x6.toNatClampNeg) = x5 → (vp_in x1 8 ∧ vp_in x6 8 ∧ ∀ w_3, w_3 = sA w 79 x6.toNatClampNeg (w.2.1 79 x1.toNatClampNeg) → vp_in x6 8 ∧ vp_in x6 8 ∧ ∀ w_4, w_4 = sA w_3 80 x6.toNatClampNeg ((w_3.2.1 80 x6.toNatClampNeg) ^^^ x4) → pX3_join_116 (pX3_join_72 post n) post x1 x4 x5 x6 w_4))))
def pX3_join (post : Int32 → Wd → Prop) (x1 : Int32) (x2 : Int32) (x3 : Int32) (w : Wd) : Prop := (x1 < 0 → (post (0 : Int32) w)) ∧ (¬ x1 < 0 → (((8 : Int32) ≤ x1 → (post (0 : Int32) w)) ∧ (¬ (8 : Int32) ≤ x1 → ((x2 < 0 → (post (0 : Int32) w)) ∧ (¬ x2 < 0 → ((x2 < (8 : Int32) → (vp_in x1 8 ∧ vp_in x2 8 ∧ ∀ x4_5, x4_5 = (((w.2.1 80 x1.toNatClampNeg) ^^^ (w.2.1 80 x2.toNatClampNeg)) ^^^ x3) → vp_in x2 8 ∧ ∀ x5_6, x5_6 = (w.2.1 79 x2.toNatClampNeg) → vp_in x1 8 ∧ (¬ (w.2.1 79 x1.toNatClampNeg) = x5_6 → (∃ n9, pX3_join_72 post n9 x1 x4_5 x5_6 (0 : Int32) w)) ∧ ((w.2.1 79 x1.toNatClampNeg) = x5_6 → ((¬ x4_5 = 0 → (post (0 : Int32) w)) ∧ (x4_5 = 0 → (post (1 : Int32) w)))))) ∧ (¬ x2 < (8 : Int32) → (post (0 : Int32) w))))))))
set_option maxHeartbeats 4000000 in
set_option maxRecDepth 100000 in
theorem bX3_join_116 {p : Program} {l : Launch} {e : Env} {s : State} {m : MethodId} {args : Array Value} {below : List Frame} {meth : Method} {c : Code} {Q : State → Prop} {A : Nat → Prop} {g : Gw} {post : Int32 → Wd → Prop}  (hC : Cx p s m args c cX3_join RX3 7 g) (hR : RtZ tabX p l e (rk 1) s m args below meth c Q cX3_join A g post)  {k72 : Int32 → Int32 → Int32 → Int32 → Wd → Prop} (hk72 : ∀ (x1 : Int32) (x4 : Int32) (x5 : Int32) (x6 : Int32) (w : Wd) (H : Heap) (locs : List Loc) (ls : Array Slot), k72 x1 x4 x5 x6 w → St tabX A s.heap g w H locs → lv_has ls 7 [(0, .ref (g.2.2 70)), (1, .int x1), (4, .int x4), (5, .int x5), (6, .int x6)] → W p l e (rk 1) s m args below meth c H locs 0 0 Q (F0 m 72 ls [])) : ∀ (x1 : Int32) (x4 : Int32) (x5 : Int32) (x6 : Int32) (w : Wd) (H : Heap) (locs : List Loc) (ls : Array Slot), pX3_join_116 k72 post x1 x4 x5 x6 w → St tabX A s.heap g w H locs → lv_has ls 7 [(0, .ref (g.2.2 70)), (1, .int x1), (4, .int x4), (5, .int x5), (6, .int x6)] → W p l e (rk 1) s m args below meth c H locs 0 0 Q (F0 m 116 ls []) := by
  have hx := hC.1
  have hb := hC.2.1
  intro x1 x4 x5 x6 w H locs ls hp hS hl
  unfold pX3_join_116 at hp
  obtain ⟨x6_1, ex6_1⟩ : ∃ y : Int32, y = x6 + (1 : Int32) := ⟨_, rfl⟩
  have hp := hp x6_1 ex6_1
  refine lv_iinc (v := x6_1) (lv' := [(6, .int x6_1), (0, .ref (g.2.2 70)), (1, .int x1), (4, .int x4), (5, .int x5)]) hx hb dX3_join_116 hl (k := 4) rfl (by rw [ex6_1]; rfl) (by decide) rfl (fun ls hl => ?_)
  refine lv_goto (tgt := 72) hx hb dX3_join_119 (by decide) ?_
  exact hk72 x1 x4 x5 x6_1 w _ _ _ hp hS (lv_sub hl [1, 2, 3, 4, 0] rfl)
set_option maxHeartbeats 4000000 in
set_option maxRecDepth 100000 in
theorem bX3_join_72 {p : Program} {l : Launch} {e : Env} {s : State} {m : MethodId} {args : Array Value} {below : List Frame} {meth : Method} {c : Code} {Q : State → Prop} {A : Nat → Prop} {g : Gw} {post : Int32 → Wd → Prop}  (hC : Cx p s m args c cX3_join RX3 7 g) (hR : RtZ tabX p l e (rk 1) s m args below meth c Q cX3_join A g post)  : ∀ (n : Nat) (x1 : Int32) (x4 : Int32) (x5 : Int32) (x6 : Int32) (w : Wd) (H : Heap) (locs : List Loc) (ls : Array Slot), pX3_join_72 post n x1 x4 x5 x6 w → St tabX A s.heap g w H locs → lv_has ls 7 [(0, .ref (g.2.2 70)), (1, .int x1), (4, .int x4), (5, .int x5), (6, .int x6)] → W p l e (rk 1) s m args below meth c H locs 0 0 Q (F0 m 72 ls []) := by
  have hx := hC.1
  have hb := hC.2.1
  intro n
  induction n with
  | zero =>
    intro x1 x4 x5 x6 w H locs ls hp hS hl
    exact False.elim hp
  | succ n ih =>
    intro x1 x4 x5 x6 w H locs ls hp hS hl
    unfold pX3_join_72 at hp
    refine lv_iload hx hb dX3_join_72 (lv_at hl 4 rfl) ?_
    refine lv_bipush hx hb dX3_join_74 kB_8 ?_
    refine lv_icmp_ge (tgt := 122) hx hb dX3_join_76 (by decide) (fun c_1 => ?_) (fun c_1 => ?_)
    · have hp := hp.1 c_1
      refine lv_iconst hx hb dX3_join_122 kI_1 ?_
      exact hR _ _ _ _ _ _ dX3_join_123 (by decide) hp hS
    · have hp := hp.2 c_1
      refine lv_aload_n hx hb dX3_join_79 rfl (lv_at hl 0 rfl) ?_
      refine G_70_8 hC hS m201 dX3_join_80 ?_
      refine lv_iload hx hb dX3_join_83 (lv_at hl 4 rfl) ?_
      refine La_79 hC hS hp.1 dX3_join_85 ?_
      have hp := hp.2
      refine lv_iload hx hb dX3_join_86 (lv_at hl 3 rfl) ?_
      refine lv_icmp_ne (tgt := 116) hx hb dX3_join_88 (by decide) (fun c_2 => ?_) (fun c_2 => ?_)
      · have hp := hp.1 c_2
        exact bX3_join_116 hC hR ih x1 x4 x5 x6 w _ _ _ hp hS (lv_sub hl [0, 1, 2, 3, 4] rfl)
      · have hp := hp.2 c_2
        refine lv_aload_n hx hb dX3_join_91 rfl (lv_at hl 0 rfl) ?_
        refine G_70_8 hC hS m201 dX3_join_92 ?_
        refine lv_iload hx hb dX3_join_95 (lv_at hl 4 rfl) ?_
        refine lv_aload_n hx hb dX3_join_97 rfl (lv_at hl 0 rfl) ?_
        refine G_70_8 hC hS m201 dX3_join_98 ?_
        refine lv_iload_n hx hb dX3_join_101 rfl (lv_at hl 1 rfl) ?_
        refine La_79 hC hS hp.1 dX3_join_102 ?_
        have hp := hp.2
        refine Sa_79 hC hS hp.1 dX3_join_103 (fun w_3 H locs ew_3 hS => ?_)
        have hp := hp.2
        have hp := hp w_3 ew_3
        refine lv_aload_n hx hb dX3_join_104 rfl (lv_at hl 0 rfl) ?_
        refine G_70_9 hC hS m202 dX3_join_105 ?_
        refine lv_iload hx hb dX3_join_108 (lv_at hl 4 rfl) ?_
        refine lv_dup2_11 hx hb dX3_join_110 rfl rfl ?_
        refine La_80 hC hS hp.1 dX3_join_111 ?_
        have hp := hp.2
        refine lv_iload hx hb dX3_join_112 (lv_at hl 2 rfl) ?_
        refine lv_ixor hx hb dX3_join_114 ?_
        refine Sa_80 hC hS hp.1 dX3_join_115 (fun w_4 H locs ew_4 hS => ?_)
        have hp := hp.2
        have hp := hp w_4 ew_4
        exact bX3_join_116 hC hR ih x1 x4 x5 x6 w_4 _ _ _ hp hS (lv_sub hl [0, 1, 2, 3, 4] rfl)
set_option maxHeartbeats 4000000 in
set_option maxRecDepth 100000 in
theorem rX3_join {l : Launch} {g : Gw} {w : Wd} {post : Int32 → Wd → Prop}   {x1 : Int32} {x2 : Int32} {x3 : Int32} (hp : pX3_join post x1 x2 x3 w) : MtI tabX l yX3_join cX3_join 7 (some .boolean) 1 g w [.ref (g.2.2 70), .int x1, .int x2, .int x3] post := by
  refine q_entZ tabX_nd (by decide) rfl (Nat.le_of_ble_eq_true rfl) ?_
  intro p e s m args below meth c A Q ls hC hR hS hl
  have hx := hC.1
  have hb := hC.2.1
  have hl : lv_has ls 7 [(0, .ref (g.2.2 70)), (1, .int x1), (2, .int x2), (3, .int x3)] := hl
  unfold pX3_join at hp
  refine lv_iload_n hx hb dX3_join_0 rfl (lv_at hl 1 rfl) ?_
  refine lv_if_lt (tgt := 20) hx hb dX3_join_1 (by decide) (fun c_1 => ?_) (fun c_1 => ?_)
  · have hp := hp.1 c_1
    refine lv_iconst hx hb dX3_join_20 kI_0 ?_
    exact hR _ _ _ _ _ _ dX3_join_21 (by decide) hp hS
  · have hp := hp.2 c_1
    refine lv_iload_n hx hb dX3_join_4 rfl (lv_at hl 1 rfl) ?_
    refine lv_bipush hx hb dX3_join_5 kB_8 ?_
    refine lv_icmp_ge (tgt := 20) hx hb dX3_join_7 (by decide) (fun c_2 => ?_) (fun c_2 => ?_)
    · have hp := hp.1 c_2
      refine lv_iconst hx hb dX3_join_20 kI_0 ?_
      exact hR _ _ _ _ _ _ dX3_join_21 (by decide) hp hS
    · have hp := hp.2 c_2
      refine lv_iload_n hx hb dX3_join_10 rfl (lv_at hl 2 rfl) ?_
      refine lv_if_lt (tgt := 20) hx hb dX3_join_11 (by decide) (fun c_3 => ?_) (fun c_3 => ?_)
      · have hp := hp.1 c_3
        refine lv_iconst hx hb dX3_join_20 kI_0 ?_
        exact hR _ _ _ _ _ _ dX3_join_21 (by decide) hp hS
      · have hp := hp.2 c_3
        refine lv_iload_n hx hb dX3_join_14 rfl (lv_at hl 2 rfl) ?_
        refine lv_bipush hx hb dX3_join_15 kB_8 ?_
        refine lv_icmp_lt (tgt := 22) hx hb dX3_join_17 (by decide) (fun c_4 => ?_) (fun c_4 => ?_)
        · have hp := hp.1 c_4
          refine lv_aload_n hx hb dX3_join_22 rfl (lv_at hl 0 rfl) ?_
          refine G_70_9 hC hS m202 dX3_join_23 ?_
          refine lv_iload_n hx hb dX3_join_26 rfl (lv_at hl 1 rfl) ?_
          refine La_80 hC hS hp.1 dX3_join_27 ?_
          have hp := hp.2
          refine lv_aload_n hx hb dX3_join_28 rfl (lv_at hl 0 rfl) ?_
          refine G_70_9 hC hS m202 dX3_join_29 ?_
          refine lv_iload_n hx hb dX3_join_32 rfl (lv_at hl 2 rfl) ?_
          refine La_80 hC hS hp.1 dX3_join_33 ?_
          have hp := hp.2
          refine lv_ixor hx hb dX3_join_34 ?_
          refine lv_iload_n hx hb dX3_join_35 rfl (lv_at hl 3 rfl) ?_
          refine lv_ixor hx hb dX3_join_36 ?_
          refine lv_topi (fun x4_5 ex4_5 => ?_)
          have hp := hp x4_5 ex4_5
          refine lv_istore (lv' := [(4, .int x4_5), (0, .ref (g.2.2 70)), (1, .int x1), (2, .int x2), (3, .int x3)]) hx hb dX3_join_37 hl (by decide) rfl (fun ls hl => ?_)
          refine lv_aload_n hx hb dX3_join_39 rfl (lv_at hl 1 rfl) ?_
          refine G_70_8 hC hS m201 dX3_join_40 ?_
          refine lv_iload_n hx hb dX3_join_43 rfl (lv_at hl 3 rfl) ?_
          refine La_79 hC hS hp.1 dX3_join_44 ?_
          have hp := hp.2
          refine lv_topi (fun x5_6 ex5_6 => ?_)
          have hp := hp x5_6 ex5_6
          refine lv_istore (lv' := [(5, .int x5_6), (4, .int x4_5), (0, .ref (g.2.2 70)), (1, .int x1), (2, .int x2), (3, .int x3)]) hx hb dX3_join_45 hl (by decide) rfl (fun ls hl => ?_)
          refine lv_aload_n hx hb dX3_join_47 rfl (lv_at hl 2 rfl) ?_
          refine G_70_8 hC hS m201 dX3_join_48 ?_
          refine lv_iload_n hx hb dX3_join_51 rfl (lv_at hl 3 rfl) ?_
          refine La_79 hC hS hp.1 dX3_join_52 ?_
          have hp := hp.2
          refine lv_iload hx hb dX3_join_53 (lv_at hl 0 rfl) ?_
          refine lv_icmp_ne (tgt := 69) hx hb dX3_join_55 (by decide) (fun c_7 => ?_) (fun c_7 => ?_)
          · have hp := hp.1 c_7
            refine lv_iconst hx hb dX3_join_69 kI_0 ?_
            refine lv_istore (lv' := [(6, .int (0 : Int32)), (5, .int x5_6), (4, .int x4_5), (0, .ref (g.2.2 70)), (1, .int x1), (2, .int x2), (3, .int x3)]) hx hb dX3_join_70 hl (by decide) rfl (fun ls hl => ?_)
            obtain ⟨n9, hp⟩ := hp
            exact bX3_join_72 hC hR n9 x1 x4_5 x5_6 (0 : Int32) w _ _ _ hp hS (lv_sub hl [3, 4, 2, 1, 0] rfl)
          · have hp := hp.2 c_7
            refine lv_iload hx hb dX3_join_58 (lv_at hl 1 rfl) ?_
            refine lv_if_ne (tgt := 67) hx hb dX3_join_60 (by decide) (fun c_8 => ?_) (fun c_8 => ?_)
            · have hp := hp.1 c_8
              refine lv_iconst hx hb dX3_join_67 kI_0 ?_
              exact hR _ _ _ _ _ _ dX3_join_68 (by decide) hp hS
            · have hp := hp.2 c_8
              refine lv_iconst hx hb dX3_join_63 kI_1 ?_
              refine lv_goto (tgt := 68) hx hb dX3_join_64 (by decide) ?_
              exact hR _ _ _ _ _ _ dX3_join_68 (by decide) hp hS
        · have hp := hp.2 c_4
          refine lv_iconst hx hb dX3_join_20 kI_0 ?_
          exact hR _ _ _ _ _ _ dX3_join_21 (by decide) hp hS
def pX3_sideOf_88 (k42 : Int32 → Int32 → Int32 → Wd → Prop) (post : Int32 → Wd → Prop) (x1 : Int32) (x2 : Int32) (x3 : Int32) (w : Wd) : Prop := ∀ x3_1, x3_1 = x3 + (1 : Int32) → k42 x1 x2 x3_1 w
def pX3_sideOf_42 (post : Int32 → Wd → Prop) : Nat → Int32 → Int32 → Int32 → Wd → Prop
  | 0, _, _, _, _ => False
  | n + 1, x1, x2, x3, w => ((w.1 70 0) ≤ x3 → (vp_in x1 8 ∧ (¬ (w.2.1 79 x1.toNatClampNeg) = (w.2.1 79 (0 : Int32).toNatClampNeg) → (post (-1 : Int32) w)) ∧ ((w.2.1 79 x1.toNatClampNeg) = (w.2.1 79 (0 : Int32).toNatClampNeg) → (vp_in x1 8 ∧ post ((w.2.1 80 x1.toNatClampNeg) ^^^ (w.2.1 80 (0 : Int32).toNatClampNeg)) w)))) ∧ (¬ (w.1 70 0) ≤ x3 → (pX3_counts (fun r_3 w_4 => (r_3 = 0 → (pX3_sideOf_88 (pX3_sideOf_42 post n) post x1 x2 x3 w_4)) ∧ (¬ r_3 = 0 → (vp_in x3 40 ∧ vp_in x3 40 ∧ vp_in x3 40 ∧ pX3_join (fun r_6 w_7 => (¬ r_6 = 0 → (pX3_sideOf_88 (pX3_sideOf_42 post n) post x1 x2 x3 w_7)) ∧ (r_6 = 0 → (post (-2 : Int32) w_7))) (w_4.2.1 74 x3.toNatClampNeg) (w_4.2.1 75 x3.toNatClampNeg) (w_4.2.1 76 x3.toNatClampNeg) w_4))) x3 (3 : Int32) x2 w))
def pX3_sideOf_14 (post : Int32 → Wd → Prop) : Nat → Int32 → Int32 → Int32 → Wd → Prop
  | 0, _, _, _, _ => False
  | n + 1, x1, x2, x3, w => ((8 : Int32) ≤ x3 → (∃ n9, pX3_sideOf_42 post n9 x1 x2 (0 : Int32) w)) ∧ (¬ (8 : Int32) ≤ x3 → (vp_in x3 8 ∧ ∀ w_2, w_2 = sA w 79 x3.toNatClampNeg x3 → vp_in x3 8 ∧ ∀ w_3, w_3 = sA w_2 80 x3.toNatClampNeg (0 : Int32) → ∀ x3_4, x3_4 = x3 + (1 : Int32) → pX3_sideOf_14 post n x1 x2 x3_4 w_3))
def pX3_sideOf (post : Int32 → Wd → Prop) (x1 : Int32) (x2 : Int32) (w : Wd) : Prop := (x1 < 0 → (post (-1 : Int32) w)) ∧ (¬ x1 < 0 → ((x1 < (8 : Int32) → (∃ n9, pX3_sideOf_14 post n9 x1 x2 (0 : Int32) w)) ∧ (¬ x1 < (8 : Int32) → (post (-1 : Int32) w))))
set_option maxHeartbeats 4000000 in
set_option maxRecDepth 100000 in
theorem bX3_sideOf_88 {p : Program} {l : Launch} {e : Env} {s : State} {m : MethodId} {args : Array Value} {below : List Frame} {meth : Method} {c : Code} {Q : State → Prop} {A : Nat → Prop} {g : Gw} {post : Int32 → Wd → Prop}  (hC : Cx p s m args c cX3_sideOf RX3 4 g) (hR : RtI tabX p l e (rk 2) s m args below meth c Q cX3_sideOf A g post)  {k42 : Int32 → Int32 → Int32 → Wd → Prop} (hk42 : ∀ (x1 : Int32) (x2 : Int32) (x3 : Int32) (w : Wd) (H : Heap) (locs : List Loc) (ls : Array Slot), k42 x1 x2 x3 w → St tabX A s.heap g w H locs → lv_has ls 4 [(0, .ref (g.2.2 70)), (1, .int x1), (2, .int x2), (3, .int x3)] → W p l e (rk 2) s m args below meth c H locs 0 0 Q (F0 m 42 ls [])) : ∀ (x1 : Int32) (x2 : Int32) (x3 : Int32) (w : Wd) (H : Heap) (locs : List Loc) (ls : Array Slot), pX3_sideOf_88 k42 post x1 x2 x3 w → St tabX A s.heap g w H locs → lv_has ls 4 [(0, .ref (g.2.2 70)), (1, .int x1), (2, .int x2), (3, .int x3)] → W p l e (rk 2) s m args below meth c H locs 0 0 Q (F0 m 88 ls []) := by
  have hx := hC.1
  have hb := hC.2.1
  intro x1 x2 x3 w H locs ls hp hS hl
  unfold pX3_sideOf_88 at hp
  obtain ⟨x3_1, ex3_1⟩ : ∃ y : Int32, y = x3 + (1 : Int32) := ⟨_, rfl⟩
  have hp := hp x3_1 ex3_1
  refine lv_iinc (v := x3_1) (lv' := [(3, .int x3_1), (0, .ref (g.2.2 70)), (1, .int x1), (2, .int x2)]) hx hb dX3_sideOf_88 hl (k := 3) rfl (by rw [ex3_1]; rfl) (by decide) rfl (fun ls hl => ?_)
  refine lv_goto (tgt := 42) hx hb dX3_sideOf_91 (by decide) ?_
  exact hk42 x1 x2 x3_1 w _ _ _ hp hS (lv_sub hl [1, 2, 3, 0] rfl)
set_option maxHeartbeats 4000000 in
set_option maxRecDepth 100000 in
theorem bX3_sideOf_42 {p : Program} {l : Launch} {e : Env} {s : State} {m : MethodId} {args : Array Value} {below : List Frame} {meth : Method} {c : Code} {Q : State → Prop} {A : Nat → Prop} {g : Gw} {post : Int32 → Wd → Prop}  (hC : Cx p s m args c cX3_sideOf RX3 4 g) (hR : RtI tabX p l e (rk 2) s m args below meth c Q cX3_sideOf A g post)  : ∀ (n : Nat) (x1 : Int32) (x2 : Int32) (x3 : Int32) (w : Wd) (H : Heap) (locs : List Loc) (ls : Array Slot), pX3_sideOf_42 post n x1 x2 x3 w → St tabX A s.heap g w H locs → lv_has ls 4 [(0, .ref (g.2.2 70)), (1, .int x1), (2, .int x2), (3, .int x3)] → W p l e (rk 2) s m args below meth c H locs 0 0 Q (F0 m 42 ls []) := by
  have hx := hC.1
  have hb := hC.2.1
  intro n
  induction n with
  | zero =>
    intro x1 x2 x3 w H locs ls hp hS hl
    exact False.elim hp
  | succ n ih =>
    intro x1 x2 x3 w H locs ls hp hS hl
    unfold pX3_sideOf_42 at hp
    refine lv_iload_n hx hb dX3_sideOf_42 rfl (lv_at hl 3 rfl) ?_
    refine lv_aload_n hx hb dX3_sideOf_43 rfl (lv_at hl 0 rfl) ?_
    refine G_70_0 hC hS m1167 dX3_sideOf_44 ?_
    refine lv_icmp_ge (tgt := 94) hx hb dX3_sideOf_47 (by decide) (fun c_1 => ?_) (fun c_1 => ?_)
    · have hp := hp.1 c_1
      refine lv_aload_n hx hb dX3_sideOf_94 rfl (lv_at hl 0 rfl) ?_
      refine G_70_8 hC hS m201 dX3_sideOf_95 ?_
      refine lv_iload_n hx hb dX3_sideOf_98 rfl (lv_at hl 1 rfl) ?_
      refine La_79 hC hS hp.1 dX3_sideOf_99 ?_
      have hp := hp.2
      refine lv_aload_n hx hb dX3_sideOf_100 rfl (lv_at hl 0 rfl) ?_
      refine G_70_8 hC hS m201 dX3_sideOf_101 ?_
      refine lv_iconst hx hb dX3_sideOf_104 kI_0 ?_
      refine La_79 hC hS (by unfold vp_in; decide) dX3_sideOf_105 ?_
      refine lv_icmp_ne (tgt := 125) hx hb dX3_sideOf_106 (by decide) (fun c_2 => ?_) (fun c_2 => ?_)
      · have hp := hp.1 c_2
        refine lv_iconst hx hb dX3_sideOf_125 kI_m1 ?_
        exact hR _ _ _ _ _ _ dX3_sideOf_126 hp hS
      · have hp := hp.2 c_2
        refine lv_aload_n hx hb dX3_sideOf_109 rfl (lv_at hl 0 rfl) ?_
        refine G_70_9 hC hS m202 dX3_sideOf_110 ?_
        refine lv_iload_n hx hb dX3_sideOf_113 rfl (lv_at hl 1 rfl) ?_
        refine La_80 hC hS hp.1 dX3_sideOf_114 ?_
        have hp := hp.2
        refine lv_aload_n hx hb dX3_sideOf_115 rfl (lv_at hl 0 rfl) ?_
        refine G_70_9 hC hS m202 dX3_sideOf_116 ?_
        refine lv_iconst hx hb dX3_sideOf_119 kI_0 ?_
        refine La_80 hC hS (by unfold vp_in; decide) dX3_sideOf_120 ?_
        refine lv_ixor hx hb dX3_sideOf_121 ?_
        refine lv_goto (tgt := 126) hx hb dX3_sideOf_122 (by decide) ?_
        exact hR _ _ _ _ _ _ dX3_sideOf_126 hp hS
    · have hp := hp.2 c_1
      refine lv_aload_n hx hb dX3_sideOf_50 rfl (lv_at hl 0 rfl) ?_
      refine lv_iload_n hx hb dX3_sideOf_51 rfl (lv_at hl 3 rfl) ?_
      refine lv_iconst hx hb dX3_sideOf_52 kI_3 ?_
      refine lv_iload_n hx hb dX3_sideOf_53 rfl (lv_at hl 2 rfl) ?_
      refine q_cvI (As := [.int x3, .int (3 : Int32), .int x2]) (rest := []) hC hS hl.1 (rX3_counts hp) cwX3_43 yvX3_counts (rcv_70 hC hS) rfl rfl (Nat.le_of_ble_eq_true rfl) (rmk (by decide) (by decide)) dX3_sideOf_54 (fun r_3 w_4 H locs hp hS => ?_)
      refine lv_if_eq (tgt := 88) hx hb dX3_sideOf_57 (by decide) (fun c_5 => ?_) (fun c_5 => ?_)
      · have hp := hp.1 c_5
        exact bX3_sideOf_88 hC hR ih x1 x2 x3 w_4 _ _ _ hp hS (lv_sub hl [0, 1, 2, 3] rfl)
      · have hp := hp.2 c_5
        refine lv_aload_n hx hb dX3_sideOf_60 rfl (lv_at hl 0 rfl) ?_
        refine lv_aload_n hx hb dX3_sideOf_61 rfl (lv_at hl 0 rfl) ?_
        refine G_70_3 hC hS m196 dX3_sideOf_62 ?_
        refine lv_iload_n hx hb dX3_sideOf_65 rfl (lv_at hl 3 rfl) ?_
        refine La_74 hC hS hp.1 dX3_sideOf_66 ?_
        have hp := hp.2
        refine lv_aload_n hx hb dX3_sideOf_67 rfl (lv_at hl 0 rfl) ?_
        refine G_70_4 hC hS m197 dX3_sideOf_68 ?_
        refine lv_iload_n hx hb dX3_sideOf_71 rfl (lv_at hl 3 rfl) ?_
        refine La_75 hC hS hp.1 dX3_sideOf_72 ?_
        have hp := hp.2
        refine lv_aload_n hx hb dX3_sideOf_73 rfl (lv_at hl 0 rfl) ?_
        refine G_70_5 hC hS m198 dX3_sideOf_74 ?_
        refine lv_iload_n hx hb dX3_sideOf_77 rfl (lv_at hl 3 rfl) ?_
        refine La_76 hC hS hp.1 dX3_sideOf_78 ?_
        have hp := hp.2
        refine q_cvI (As := [.int (w_4.2.1 74 x3.toNatClampNeg), .int (w_4.2.1 75 x3.toNatClampNeg), .int (w_4.2.1 76 x3.toNatClampNeg)]) (rest := []) hC hS hl.1 (rX3_join hp) cwX3_47 yvX3_join (rcv_70 hC hS) rfl rfl (Nat.le_of_ble_eq_true rfl) (rmk (by decide) (by decide)) dX3_sideOf_79 (fun r_6 w_7 H locs hp hS => ?_)
        refine lv_if_ne (tgt := 88) hx hb dX3_sideOf_82 (by decide) (fun c_8 => ?_) (fun c_8 => ?_)
        · have hp := hp.1 c_8
          exact bX3_sideOf_88 hC hR ih x1 x2 x3 w_7 _ _ _ hp hS (lv_sub hl [0, 1, 2, 3] rfl)
        · have hp := hp.2 c_8
          refine lv_bipush hx hb dX3_sideOf_85 kB_m2 ?_
          exact hR _ _ _ _ _ _ dX3_sideOf_87 hp hS
set_option maxHeartbeats 4000000 in
set_option maxRecDepth 100000 in
theorem bX3_sideOf_14 {p : Program} {l : Launch} {e : Env} {s : State} {m : MethodId} {args : Array Value} {below : List Frame} {meth : Method} {c : Code} {Q : State → Prop} {A : Nat → Prop} {g : Gw} {post : Int32 → Wd → Prop}  (hC : Cx p s m args c cX3_sideOf RX3 4 g) (hR : RtI tabX p l e (rk 2) s m args below meth c Q cX3_sideOf A g post)  : ∀ (n : Nat) (x1 : Int32) (x2 : Int32) (x3 : Int32) (w : Wd) (H : Heap) (locs : List Loc) (ls : Array Slot), pX3_sideOf_14 post n x1 x2 x3 w → St tabX A s.heap g w H locs → lv_has ls 4 [(0, .ref (g.2.2 70)), (1, .int x1), (2, .int x2), (3, .int x3)] → W p l e (rk 2) s m args below meth c H locs 0 0 Q (F0 m 14 ls []) := by
  have hx := hC.1
  have hb := hC.2.1
  intro n
  induction n with
  | zero =>
    intro x1 x2 x3 w H locs ls hp hS hl
    exact False.elim hp
  | succ n ih =>
    intro x1 x2 x3 w H locs ls hp hS hl
    unfold pX3_sideOf_14 at hp
    refine lv_iload_n hx hb dX3_sideOf_14 rfl (lv_at hl 3 rfl) ?_
    refine lv_bipush hx hb dX3_sideOf_15 kB_8 ?_
    refine lv_icmp_ge (tgt := 40) hx hb dX3_sideOf_17 (by decide) (fun c_1 => ?_) (fun c_1 => ?_)
    · have hp := hp.1 c_1
      refine lv_iconst hx hb dX3_sideOf_40 kI_0 ?_
      refine lv_istore_n (lv' := [(3, .int (0 : Int32)), (0, .ref (g.2.2 70)), (1, .int x1), (2, .int x2)]) hx hb dX3_sideOf_41 rfl hl (by decide) rfl (fun ls hl => ?_)
      obtain ⟨n9, hp⟩ := hp
      exact bX3_sideOf_42 hC hR n9 x1 x2 (0 : Int32) w _ _ _ hp hS (lv_sub hl [1, 2, 3, 0] rfl)
    · have hp := hp.2 c_1
      refine lv_aload_n hx hb dX3_sideOf_20 rfl (lv_at hl 0 rfl) ?_
      refine G_70_8 hC hS m201 dX3_sideOf_21 ?_
      refine lv_iload_n hx hb dX3_sideOf_24 rfl (lv_at hl 3 rfl) ?_
      refine lv_iload_n hx hb dX3_sideOf_25 rfl (lv_at hl 3 rfl) ?_
      refine Sa_79 hC hS hp.1 dX3_sideOf_26 (fun w_2 H locs ew_2 hS => ?_)
      have hp := hp.2
      have hp := hp w_2 ew_2
      refine lv_aload_n hx hb dX3_sideOf_27 rfl (lv_at hl 0 rfl) ?_
      refine G_70_9 hC hS m202 dX3_sideOf_28 ?_
      refine lv_iload_n hx hb dX3_sideOf_31 rfl (lv_at hl 3 rfl) ?_
      refine lv_iconst hx hb dX3_sideOf_32 kI_0 ?_
      refine Sa_80 hC hS hp.1 dX3_sideOf_33 (fun w_3 H locs ew_3 hS => ?_)
      have hp := hp.2
      have hp := hp w_3 ew_3
      obtain ⟨x3_4, ex3_4⟩ : ∃ y : Int32, y = x3 + (1 : Int32) := ⟨_, rfl⟩
      have hp := hp x3_4 ex3_4
      refine lv_iinc (v := x3_4) (lv' := [(3, .int x3_4), (0, .ref (g.2.2 70)), (1, .int x1), (2, .int x2)]) hx hb dX3_sideOf_34 hl (k := 3) rfl (by rw [ex3_4]; rfl) (by decide) rfl (fun ls hl => ?_)
      refine lv_goto (tgt := 14) hx hb dX3_sideOf_37 (by decide) ?_
      exact ih x1 x2 x3_4 w_3 _ _ _ hp hS (lv_sub hl [1, 2, 3, 0] rfl)
set_option maxHeartbeats 4000000 in
set_option maxRecDepth 100000 in
theorem rX3_sideOf {l : Launch} {g : Gw} {w : Wd} {post : Int32 → Wd → Prop}   {x1 : Int32} {x2 : Int32} (hp : pX3_sideOf post x1 x2 w) : MtI tabX l yX3_sideOf cX3_sideOf 4 (some .int) 2 g w [.ref (g.2.2 70), .int x1, .int x2] post := by
  refine q_entI tabX_nd (by decide) rfl (Nat.le_of_ble_eq_true rfl) ?_
  intro p e s m args below meth c A Q ls hC hR hS hl
  have hx := hC.1
  have hb := hC.2.1
  have hl : lv_has ls 4 [(0, .ref (g.2.2 70)), (1, .int x1), (2, .int x2)] := hl
  unfold pX3_sideOf at hp
  refine lv_iload_n hx hb dX3_sideOf_0 rfl (lv_at hl 1 rfl) ?_
  refine lv_if_lt (tgt := 10) hx hb dX3_sideOf_1 (by decide) (fun c_1 => ?_) (fun c_1 => ?_)
  · have hp := hp.1 c_1
    refine lv_iconst hx hb dX3_sideOf_10 kI_m1 ?_
    exact hR _ _ _ _ _ _ dX3_sideOf_11 hp hS
  · have hp := hp.2 c_1
    refine lv_iload_n hx hb dX3_sideOf_4 rfl (lv_at hl 1 rfl) ?_
    refine lv_bipush hx hb dX3_sideOf_5 kB_8 ?_
    refine lv_icmp_lt (tgt := 12) hx hb dX3_sideOf_7 (by decide) (fun c_2 => ?_) (fun c_2 => ?_)
    · have hp := hp.1 c_2
      refine lv_iconst hx hb dX3_sideOf_12 kI_0 ?_
      refine lv_istore_n (lv' := [(3, .int (0 : Int32)), (0, .ref (g.2.2 70)), (1, .int x1), (2, .int x2)]) hx hb dX3_sideOf_13 rfl hl (by decide) rfl (fun ls hl => ?_)
      obtain ⟨n9, hp⟩ := hp
      exact bX3_sideOf_14 hC hR n9 x1 x2 (0 : Int32) w _ _ _ hp hS (lv_sub hl [1, 2, 3, 0] rfl)
    · have hp := hp.2 c_2
      refine lv_iconst hx hb dX3_sideOf_10 kI_m1 ?_
      exact hR _ _ _ _ _ _ dX3_sideOf_11 hp hS
def pX10_backward (post : Int32 → Wd → Prop) (x1 : Int32) (x2 : Int32) (w : Wd) : Prop := pX10_isPaper (fun r_1 w_2 => (r_1 = 0 → (post (-1 : Int32) w_2)) ∧ (¬ r_1 = 0 → (pX3_sideOf (fun r_4 w_5 => post r_4 w_5) x1 x2 w_2))) x1 w
set_option maxHeartbeats 4000000 in
set_option maxRecDepth 100000 in
theorem rX10_backward {l : Launch} {g : Gw} {w : Wd} {post : Int32 → Wd → Prop}   {x1 : Int32} {x2 : Int32} (hp : pX10_backward post x1 x2 w) : MtI tabX l yX10_backward cX10_backward 3 (some .int) 3 g w [.ref (g.2.2 0), .int x1, .int x2] post := by
  refine q_entI tabX_nd (by decide) rfl (Nat.le_of_ble_eq_true rfl) ?_
  intro p e s m args below meth c A Q ls hC hR hS hl
  have hx := hC.1
  have hb := hC.2.1
  have hl : lv_has ls 3 [(0, .ref (g.2.2 0)), (1, .int x1), (2, .int x2)] := hl
  unfold pX10_backward at hp
  refine lv_iload_n hx hb dX10_backward_0 rfl (lv_at hl 1 rfl) ?_
  refine q_csI (As := [.int x1]) (rest := []) hC hS hl.1 (rX10_isPaper hp) cwX10_289 ysX10_isPaper rfl rfl (Nat.le_of_ble_eq_true rfl) (rmk (by decide) (by decide)) dX10_backward_1 (fun r_1 w_2 H locs hp hS => ?_)
  refine lv_if_eq (tgt := 19) hx hb dX10_backward_4 (by decide) (fun c_3 => ?_) (fun c_3 => ?_)
  · have hp := hp.1 c_3
    refine lv_iconst hx hb dX10_backward_19 kI_m1 ?_
    exact hR _ _ _ _ _ _ dX10_backward_20 hp hS
  · have hp := hp.2 c_3
    refine lv_aload_n hx hb dX10_backward_7 rfl (lv_at hl 0 rfl) ?_
    refine G_0_7 hC hS m46 dX10_backward_8 ?_
    refine lv_iload_n hx hb dX10_backward_11 rfl (lv_at hl 1 rfl) ?_
    refine lv_iload_n hx hb dX10_backward_12 rfl (lv_at hl 2 rfl) ?_
    refine q_cvI (As := [.int x1, .int x2]) (rest := []) hC hS hl.1 (rX3_sideOf hp) cwX10_350 yvX3_sideOf (rcv_70 hC hS) rfl rfl (Nat.le_of_ble_eq_true rfl) (rmk (by decide) (by decide)) dX10_backward_13 (fun r_4 w_5 H locs hp hS => ?_)
    refine lv_goto (tgt := 20) hx hb dX10_backward_16 (by decide) ?_
    exact hR _ _ _ _ _ _ dX10_backward_20 hp hS
def pX10_lies (post : Int32 → Wd → Prop) (x1 : Int32) (w : Wd) : Prop := (x1 < 0 → (post (-2 : Int32) w)) ∧ (¬ x1 < 0 → ((x1 < (w.1 110 1) → (vp_in x1 16 ∧ post (w.2.1 111 x1.toNatClampNeg) w)) ∧ (¬ x1 < (w.1 110 1) → (post (-2 : Int32) w))))
set_option maxHeartbeats 4000000 in
set_option maxRecDepth 100000 in
theorem rX10_lies {l : Launch} {g : Gw} {w : Wd} {post : Int32 → Wd → Prop}   {x1 : Int32} (hp : pX10_lies post x1 w) : MtI tabX l yX10_lies cX10_lies 2 (some .int) 1 g w [.ref (g.2.2 0), .int x1] post := by
  refine q_entI tabX_nd (by decide) rfl (Nat.le_of_ble_eq_true rfl) ?_
  intro p e s m args below meth c A Q ls hC hR hS hl
  have hx := hC.1
  have hb := hC.2.1
  have hl : lv_has ls 2 [(0, .ref (g.2.2 0)), (1, .int x1)] := hl
  unfold pX10_lies at hp
  refine lv_iload_n hx hb dX10_lies_0 rfl (lv_at hl 1 rfl) ?_
  refine lv_if_lt (tgt := 15) hx hb dX10_lies_1 (by decide) (fun c_1 => ?_) (fun c_1 => ?_)
  · have hp := hp.1 c_1
    refine lv_bipush hx hb dX10_lies_15 kB_m2 ?_
    refine lv_goto (tgt := 29) hx hb dX10_lies_17 (by decide) ?_
    exact hR _ _ _ _ _ _ dX10_lies_29 hp hS
  · have hp := hp.2 c_1
    refine lv_iload_n hx hb dX10_lies_4 rfl (lv_at hl 1 rfl) ?_
    refine lv_aload_n hx hb dX10_lies_5 rfl (lv_at hl 0 rfl) ?_
    refine G_0_9 hC hS m54 dX10_lies_6 ?_
    refine G_110_1 hC hS m224 dX10_lies_9 ?_
    refine lv_icmp_lt (tgt := 20) hx hb dX10_lies_12 (by decide) (fun c_2 => ?_) (fun c_2 => ?_)
    · have hp := hp.1 c_2
      refine lv_aload_n hx hb dX10_lies_20 rfl (lv_at hl 0 rfl) ?_
      refine G_0_9 hC hS m54 dX10_lies_21 ?_
      refine G_110_0 hC hS m1402 dX10_lies_24 ?_
      refine lv_iload_n hx hb dX10_lies_27 rfl (lv_at hl 1 rfl) ?_
      refine La_111 hC hS hp.1 dX10_lies_28 ?_
      have hp := hp.2
      exact hR _ _ _ _ _ _ dX10_lies_29 hp hS
    · have hp := hp.2 c_2
      refine lv_bipush hx hb dX10_lies_15 kB_m2 ?_
      refine lv_goto (tgt := 29) hx hb dX10_lies_17 (by decide) ?_
      exact hR _ _ _ _ _ _ dX10_lies_29 hp hS
def pX2_copyPrints (post : Wd → Prop) (o : Nat) (o1 : Nat)  (w : Wd) : Prop := ∀ w_1, w_1 = sI w o 6 (w.1 o1 6) → ∀ w_2, w_2 = sC w_1 (o + 8) (va_cpy (w_1.2.1 (o1 + 8)) (w_1.2.1 (o + 8)) 0 0 40) → ∀ w_3, w_3 = sC w_2 (o + 9) (va_cpy (w_2.2.1 (o1 + 9)) (w_2.2.1 (o + 9)) 0 0 40) → ∀ w_4, w_4 = sC w_3 (o + 10) (va_cpy (w_3.2.1 (o1 + 10)) (w_3.2.1 (o + 10)) 0 0 40) → post w_4
set_option maxHeartbeats 4000000 in
set_option maxRecDepth 100000 in
theorem rX2_copyPrints {l : Launch} {g : Gw} {w : Wd} {post : Wd → Prop} {o : Nat} {o1 : Nat} (ho : cOk o) (ho1 : cOk o1)  (hp : pX2_copyPrints post o o1  w) : MtV tabX l yX2_copyPrints cX2_copyPrints 2 none 1 g w [.ref (g.2.2 o), .ref (g.2.2 o1)] post := by
  refine q_entV tabX_nd (by decide) rfl (Nat.le_of_ble_eq_true rfl) ?_
  intro p e s m args below meth c A Q ls hC hR hS hl
  have hx := hC.1
  have hb := hC.2.1
  have hl : lv_has ls 2 [(0, .ref (g.2.2 o)), (1, .ref (g.2.2 o1))] := hl
  unfold pX2_copyPrints at hp
  refine lv_aload_n hx hb dX2_copyPrints_0 rfl (lv_at hl 0 rfl) ?_
  refine lv_aload_n hx hb dX2_copyPrints_1 rfl (lv_at hl 1 rfl) ?_
  refine GC_6 ho1 hC hS m235 dX2_copyPrints_2 ?_
  refine PC_6 ho hC hS m235 dX2_copyPrints_5 (fun w_1 H locs ew_1 hS => ?_)
  have hp := hp w_1 ew_1
  refine lv_aload_n hx hb dX2_copyPrints_8 rfl (lv_at hl 1 rfl) ?_
  refine GC_7 ho1 hC hS m160 dX2_copyPrints_9 ?_
  refine lv_iconst hx hb dX2_copyPrints_12 kI_0 ?_
  refine lv_aload_n hx hb dX2_copyPrints_13 rfl (lv_at hl 0 rfl) ?_
  refine GC_7 ho hC hS m160 dX2_copyPrints_14 ?_
  refine lv_iconst hx hb dX2_copyPrints_17 kI_0 ?_
  refine lv_bipush hx hb dX2_copyPrints_18 kB_40 ?_
  refine CpC_7 ho1 ho hC hS hl.1 m1419 m796 m797 m798 (by decide) (by decide) (by decide) (by decide) (by decide) (rmc (by decide) (Nat.le_of_ble_eq_true rfl)) dX2_copyPrints_20 (fun w_2 H locs ew_2 hS => ?_)
  have hp := hp w_2 ew_2
  refine lv_aload_n hx hb dX2_copyPrints_23 rfl (lv_at hl 1 rfl) ?_
  refine GC_8 ho1 hC hS m161 dX2_copyPrints_24 ?_
  refine lv_iconst hx hb dX2_copyPrints_27 kI_0 ?_
  refine lv_aload_n hx hb dX2_copyPrints_28 rfl (lv_at hl 0 rfl) ?_
  refine GC_8 ho hC hS m161 dX2_copyPrints_29 ?_
  refine lv_iconst hx hb dX2_copyPrints_32 kI_0 ?_
  refine lv_bipush hx hb dX2_copyPrints_33 kB_40 ?_
  refine CpC_8 ho1 ho hC hS hl.1 m1419 m796 m797 m798 (by decide) (by decide) (by decide) (by decide) (by decide) (rmc (by decide) (Nat.le_of_ble_eq_true rfl)) dX2_copyPrints_35 (fun w_3 H locs ew_3 hS => ?_)
  have hp := hp w_3 ew_3
  refine lv_aload_n hx hb dX2_copyPrints_38 rfl (lv_at hl 1 rfl) ?_
  refine GC_9 ho1 hC hS m162 dX2_copyPrints_39 ?_
  refine lv_iconst hx hb dX2_copyPrints_42 kI_0 ?_
  refine lv_aload_n hx hb dX2_copyPrints_43 rfl (lv_at hl 0 rfl) ?_
  refine GC_9 ho hC hS m162 dX2_copyPrints_44 ?_
  refine lv_iconst hx hb dX2_copyPrints_47 kI_0 ?_
  refine lv_bipush hx hb dX2_copyPrints_48 kB_40 ?_
  refine CpC_9 ho1 ho hC hS hl.1 m1419 m796 m797 m798 (by decide) (by decide) (by decide) (by decide) (by decide) (rmc (by decide) (Nat.le_of_ble_eq_true rfl)) dX2_copyPrints_50 (fun w_4 H locs ew_4 hS => ?_)
  have hp := hp w_4 ew_4
  exact hR _ _ _ _ _ dX2_copyPrints_53 hp hS
def pX2_copySeals (post : Wd → Prop) (o : Nat) (o1 : Nat)  (w : Wd) : Prop := ∀ w_1, w_1 = sI w o 0 (w.1 o1 0) → ∀ w_2, w_2 = sC w_1 (o + 2) (va_cpy (w_1.2.1 (o1 + 2)) (w_1.2.1 (o + 2)) 0 0 24) → ∀ w_3, w_3 = sC w_2 (o + 3) (va_cpy (w_2.2.1 (o1 + 3)) (w_2.2.1 (o + 3)) 0 0 24) → ∀ w_4, w_4 = sC w_3 (o + 4) (va_cpy (w_3.2.1 (o1 + 4)) (w_3.2.1 (o + 4)) 0 0 24) → ∀ w_5, w_5 = sC w_4 (o + 5) (va_cpy (w_4.2.1 (o1 + 5)) (w_4.2.1 (o + 5)) 0 0 24) → ∀ w_6, w_6 = sC w_5 (o + 6) (va_cpy (w_5.2.1 (o1 + 6)) (w_5.2.1 (o + 6)) 0 0 24) → post w_6
set_option maxHeartbeats 4000000 in
set_option maxRecDepth 100000 in
theorem rX2_copySeals {l : Launch} {g : Gw} {w : Wd} {post : Wd → Prop} {o : Nat} {o1 : Nat} (ho : cOk o) (ho1 : cOk o1)  (hp : pX2_copySeals post o o1  w) : MtV tabX l yX2_copySeals cX2_copySeals 2 none 1 g w [.ref (g.2.2 o), .ref (g.2.2 o1)] post := by
  refine q_entV tabX_nd (by decide) rfl (Nat.le_of_ble_eq_true rfl) ?_
  intro p e s m args below meth c A Q ls hC hR hS hl
  have hx := hC.1
  have hb := hC.2.1
  have hl : lv_has ls 2 [(0, .ref (g.2.2 o)), (1, .ref (g.2.2 o1))] := hl
  unfold pX2_copySeals at hp
  refine lv_aload_n hx hb dX2_copySeals_0 rfl (lv_at hl 0 rfl) ?_
  refine lv_aload_n hx hb dX2_copySeals_1 rfl (lv_at hl 1 rfl) ?_
  refine GC_0 ho1 hC hS m234 dX2_copySeals_2 ?_
  refine PC_0 ho hC hS m234 dX2_copySeals_5 (fun w_1 H locs ew_1 hS => ?_)
  have hp := hp w_1 ew_1
  refine lv_aload_n hx hb dX2_copySeals_8 rfl (lv_at hl 1 rfl) ?_
  refine GC_1 ho1 hC hS m155 dX2_copySeals_9 ?_
  refine lv_iconst hx hb dX2_copySeals_12 kI_0 ?_
  refine lv_aload_n hx hb dX2_copySeals_13 rfl (lv_at hl 0 rfl) ?_
  refine GC_1 ho hC hS m155 dX2_copySeals_14 ?_
  refine lv_iconst hx hb dX2_copySeals_17 kI_0 ?_
  refine lv_bipush hx hb dX2_copySeals_18 kB_24 ?_
  refine CpC_1 ho1 ho hC hS hl.1 m1419 m796 m797 m798 (by decide) (by decide) (by decide) (by decide) (by decide) (rmc (by decide) (Nat.le_of_ble_eq_true rfl)) dX2_copySeals_20 (fun w_2 H locs ew_2 hS => ?_)
  have hp := hp w_2 ew_2
  refine lv_aload_n hx hb dX2_copySeals_23 rfl (lv_at hl 1 rfl) ?_
  refine GC_2 ho1 hC hS m156 dX2_copySeals_24 ?_
  refine lv_iconst hx hb dX2_copySeals_27 kI_0 ?_
  refine lv_aload_n hx hb dX2_copySeals_28 rfl (lv_at hl 0 rfl) ?_
  refine GC_2 ho hC hS m156 dX2_copySeals_29 ?_
  refine lv_iconst hx hb dX2_copySeals_32 kI_0 ?_
  refine lv_bipush hx hb dX2_copySeals_33 kB_24 ?_
  refine CpC_2 ho1 ho hC hS hl.1 m1419 m796 m797 m798 (by decide) (by decide) (by decide) (by decide) (by decide) (rmc (by decide) (Nat.le_of_ble_eq_true rfl)) dX2_copySeals_35 (fun w_3 H locs ew_3 hS => ?_)
  have hp := hp w_3 ew_3
  refine lv_aload_n hx hb dX2_copySeals_38 rfl (lv_at hl 1 rfl) ?_
  refine GC_3 ho1 hC hS m157 dX2_copySeals_39 ?_
  refine lv_iconst hx hb dX2_copySeals_42 kI_0 ?_
  refine lv_aload_n hx hb dX2_copySeals_43 rfl (lv_at hl 0 rfl) ?_
  refine GC_3 ho hC hS m157 dX2_copySeals_44 ?_
  refine lv_iconst hx hb dX2_copySeals_47 kI_0 ?_
  refine lv_bipush hx hb dX2_copySeals_48 kB_24 ?_
  refine CpC_3 ho1 ho hC hS hl.1 m1419 m796 m797 m798 (by decide) (by decide) (by decide) (by decide) (by decide) (rmc (by decide) (Nat.le_of_ble_eq_true rfl)) dX2_copySeals_50 (fun w_4 H locs ew_4 hS => ?_)
  have hp := hp w_4 ew_4
  refine lv_aload_n hx hb dX2_copySeals_53 rfl (lv_at hl 1 rfl) ?_
  refine GC_4 ho1 hC hS m158 dX2_copySeals_54 ?_
  refine lv_iconst hx hb dX2_copySeals_57 kI_0 ?_
  refine lv_aload_n hx hb dX2_copySeals_58 rfl (lv_at hl 0 rfl) ?_
  refine GC_4 ho hC hS m158 dX2_copySeals_59 ?_
  refine lv_iconst hx hb dX2_copySeals_62 kI_0 ?_
  refine lv_bipush hx hb dX2_copySeals_63 kB_24 ?_
  refine CpC_4 ho1 ho hC hS hl.1 m1419 m796 m797 m798 (by decide) (by decide) (by decide) (by decide) (by decide) (rmc (by decide) (Nat.le_of_ble_eq_true rfl)) dX2_copySeals_65 (fun w_5 H locs ew_5 hS => ?_)
  have hp := hp w_5 ew_5
  refine lv_aload_n hx hb dX2_copySeals_68 rfl (lv_at hl 1 rfl) ?_
  refine GC_5 ho1 hC hS m159 dX2_copySeals_69 ?_
  refine lv_iconst hx hb dX2_copySeals_72 kI_0 ?_
  refine lv_aload_n hx hb dX2_copySeals_73 rfl (lv_at hl 0 rfl) ?_
  refine GC_5 ho hC hS m159 dX2_copySeals_74 ?_
  refine lv_iconst hx hb dX2_copySeals_77 kI_0 ?_
  refine lv_bipush hx hb dX2_copySeals_78 kB_24 ?_
  refine CpC_5 ho1 ho hC hS hl.1 m1419 m796 m797 m798 (by decide) (by decide) (by decide) (by decide) (by decide) (rmc (by decide) (Nat.le_of_ble_eq_true rfl)) dX2_copySeals_80 (fun w_6 H locs ew_6 hS => ?_)
  have hp := hp w_6 ew_6
  exact hR _ _ _ _ _ dX2_copySeals_83 hp hS
def pX2_copyFrom (post : Wd → Prop) (o : Nat) (o1 : Nat)  (w : Wd) : Prop := pX2_copySeals (fun w_1 => pX2_copyPrints (fun w_2 => ∀ w_3, w_3 = sI w_2 o 11 (w_2.1 o1 11) → ∀ w_4, w_4 = sI w_3 o 12 (w_3.1 o1 12) → ∀ w_5, w_5 = sI w_4 o 13 (w_4.1 o1 13) → post w_5) o o1 w_1) o o1 w
set_option maxHeartbeats 4000000 in
set_option maxRecDepth 100000 in
theorem rX2_copyFrom {l : Launch} {g : Gw} {w : Wd} {post : Wd → Prop} {o : Nat} {o1 : Nat} (ho : cOk o) (ho1 : cOk o1)  (hp : pX2_copyFrom post o o1  w) : MtV tabX l yX2_copyFrom cX2_copyFrom 2 none 2 g w [.ref (g.2.2 o), .ref (g.2.2 o1)] post := by
  refine q_entV tabX_nd (by decide) rfl (Nat.le_of_ble_eq_true rfl) ?_
  intro p e s m args below meth c A Q ls hC hR hS hl
  have hx := hC.1
  have hb := hC.2.1
  have hl : lv_has ls 2 [(0, .ref (g.2.2 o)), (1, .ref (g.2.2 o1))] := hl
  unfold pX2_copyFrom at hp
  refine lv_aload_n hx hb dX2_copyFrom_0 rfl (lv_at hl 0 rfl) ?_
  refine lv_aload_n hx hb dX2_copyFrom_1 rfl (lv_at hl 1 rfl) ?_
  refine q_cvV (As := [.ref (g.2.2 o1)]) (rest := []) hC hS hl.1 (rX2_copySeals ho ho1 hp) cwX2_67 yvX2_copySeals (rcvC ho hC hS) rfl rfl (Nat.le_of_ble_eq_true rfl) (rmk (by decide) (by decide)) dX2_copyFrom_2 (fun w_1 H locs hp hS => ?_)
  refine lv_aload_n hx hb dX2_copyFrom_5 rfl (lv_at hl 0 rfl) ?_
  refine lv_aload_n hx hb dX2_copyFrom_6 rfl (lv_at hl 1 rfl) ?_
  refine q_cvV (As := [.ref (g.2.2 o1)]) (rest := []) hC hS hl.1 (rX2_copyPrints ho ho1 hp) cwX2_71 yvX2_copyPrints (rcvC ho hC hS) rfl rfl (Nat.le_of_ble_eq_true rfl) (rmk (by decide) (by decide)) dX2_copyFrom_7 (fun w_2 H locs hp hS => ?_)
  refine lv_aload_n hx hb dX2_copyFrom_10 rfl (lv_at hl 0 rfl) ?_
  refine lv_aload_n hx hb dX2_copyFrom_11 rfl (lv_at hl 1 rfl) ?_
  refine GC_11 ho1 hC hS m239 dX2_copyFrom_12 ?_
  refine PC_11 ho hC hS m239 dX2_copyFrom_15 (fun w_3 H locs ew_3 hS => ?_)
  have hp := hp w_3 ew_3
  refine lv_aload_n hx hb dX2_copyFrom_18 rfl (lv_at hl 0 rfl) ?_
  refine lv_aload_n hx hb dX2_copyFrom_19 rfl (lv_at hl 1 rfl) ?_
  refine GC_12 ho1 hC hS m240 dX2_copyFrom_20 ?_
  refine PC_12 ho hC hS m240 dX2_copyFrom_23 (fun w_4 H locs ew_4 hS => ?_)
  have hp := hp w_4 ew_4
  refine lv_aload_n hx hb dX2_copyFrom_26 rfl (lv_at hl 0 rfl) ?_
  refine lv_aload_n hx hb dX2_copyFrom_27 rfl (lv_at hl 1 rfl) ?_
  refine GC_13 ho1 hC hS m242 dX2_copyFrom_28 ?_
  refine PC_13 ho hC hS m242 dX2_copyFrom_31 (fun w_5 H locs ew_5 hS => ?_)
  have hp := hp w_5 ew_5
  exact hR _ _ _ _ _ dX2_copyFrom_34 hp hS
def pX10_image (post : Int32 → Wd → Prop) (x1 : Int32) (w : Wd) : Prop := (x1 < 0 → (post (-1 : Int32) w)) ∧ (¬ x1 < 0 → ((x1 < (3 : Int32) → (vp_in x1 3 ∧ cOk (180 + 20 * x1.toNatClampNeg) ∧ pX2_copyFrom (fun w_3 => vp_in x1 3 ∧ ∀ w_4, w_4 = sA w_3 12 x1.toNatClampNeg (vp_nar .boolean (1 : Int32)) → post (w_4.1 160 0) w_4) (180 + 20 * x1.toNatClampNeg) 160 w)) ∧ (¬ x1 < (3 : Int32) → (post (-1 : Int32) w))))
set_option maxHeartbeats 4000000 in
set_option maxRecDepth 100000 in
theorem rX10_image {l : Launch} {g : Gw} {w : Wd} {post : Int32 → Wd → Prop}   {x1 : Int32} (hp : pX10_image post x1 w) : MtI tabX l yX10_image cX10_image 2 (some .int) 3 g w [.ref (g.2.2 0), .int x1] post := by
  refine q_entI tabX_nd (by decide) rfl (Nat.le_of_ble_eq_true rfl) ?_
  intro p e s m args below meth c A Q ls hC hR hS hl
  have hx := hC.1
  have hb := hC.2.1
  have hl : lv_has ls 2 [(0, .ref (g.2.2 0)), (1, .int x1)] := hl
  unfold pX10_image at hp
  refine lv_iload_n hx hb dX10_image_0 rfl (lv_at hl 1 rfl) ?_
  refine lv_if_lt (tgt := 9) hx hb dX10_image_1 (by decide) (fun c_1 => ?_) (fun c_1 => ?_)
  · have hp := hp.1 c_1
    refine lv_iconst hx hb dX10_image_9 kI_m1 ?_
    exact hR _ _ _ _ _ _ dX10_image_10 hp hS
  · have hp := hp.2 c_1
    refine lv_iload_n hx hb dX10_image_4 rfl (lv_at hl 1 rfl) ?_
    refine lv_iconst hx hb dX10_image_5 kI_3 ?_
    refine lv_icmp_lt (tgt := 11) hx hb dX10_image_6 (by decide) (fun c_2 => ?_) (fun c_2 => ?_)
    · have hp := hp.1 c_2
      refine lv_aload_n hx hb dX10_image_11 rfl (lv_at hl 0 rfl) ?_
      refine G_0_10 hC hS m55 dX10_image_12 ?_
      refine lv_iload_n hx hb dX10_image_15 rfl (lv_at hl 1 rfl) ?_
      refine La_11 hC hS hp.1 dX10_image_16 ?_
      have hp := hp.2
      refine lv_aload_n hx hb dX10_image_17 rfl (lv_at hl 0 rfl) ?_
      refine G_0_3 hC hS m30 dX10_image_18 ?_
      have hok := hp.1
      have hp := hp.2
      refine q_cvV (As := [.ref (g.2.2 160)]) (rest := []) hC hS hl.1 (rX2_copyFrom hok (by unfold cOk; decide) hp) cwX10_356 yvX2_copyFrom (rcvC hok hC hS) rfl rfl (Nat.le_of_ble_eq_true rfl) (rmk (by decide) (by decide)) dX10_image_21 (fun w_3 H locs hp hS => ?_)
      refine lv_aload_n hx hb dX10_image_24 rfl (lv_at hl 0 rfl) ?_
      refine G_0_11 hC hS m57 dX10_image_25 ?_
      refine lv_iload_n hx hb dX10_image_28 rfl (lv_at hl 1 rfl) ?_
      refine lv_iconst hx hb dX10_image_29 kI_1 ?_
      refine Sa_12 hC hS hp.1 dX10_image_30 (fun w_4 H locs ew_4 hS => ?_)
      have hp := hp.2
      have hp := hp w_4 ew_4
      refine lv_aload_n hx hb dX10_image_31 rfl (lv_at hl 0 rfl) ?_
      refine G_0_3 hC hS m30 dX10_image_32 ?_
      refine G_160_0 hC hS m622 dX10_image_35 ?_
      exact hR _ _ _ _ _ _ dX10_image_38 hp hS
    · have hp := hp.2 c_2
      refine lv_iconst hx hb dX10_image_9 kI_m1 ?_
      exact hR _ _ _ _ _ _ dX10_image_10 hp hS
def pX10_back (post : Int32 → Wd → Prop) (x1 : Int32) (w : Wd) : Prop := (x1 < 0 → (post (-1 : Int32) w)) ∧ (¬ x1 < 0 → (((3 : Int32) ≤ x1 → (post (-1 : Int32) w)) ∧ (¬ (3 : Int32) ≤ x1 → (vp_in x1 3 ∧ (¬ (w.2.1 12 x1.toNatClampNeg) = 0 → (vp_in x1 3 ∧ cOk (180 + 20 * x1.toNatClampNeg) ∧ pX2_copyFrom (fun w_4 => pX0_forget (fun w_5 => post (w_5.1 160 0) w_5) w_4) 160 (180 + 20 * x1.toNatClampNeg) w)) ∧ ((w.2.1 12 x1.toNatClampNeg) = 0 → (post (-1 : Int32) w))))))
set_option maxHeartbeats 4000000 in
set_option maxRecDepth 100000 in
theorem rX10_back {l : Launch} {g : Gw} {w : Wd} {post : Int32 → Wd → Prop}   {x1 : Int32} (hp : pX10_back post x1 w) : MtI tabX l yX10_back cX10_back 2 (some .int) 3 g w [.ref (g.2.2 0), .int x1] post := by
  refine q_entI tabX_nd (by decide) rfl (Nat.le_of_ble_eq_true rfl) ?_
  intro p e s m args below meth c A Q ls hC hR hS hl
  have hx := hC.1
  have hb := hC.2.1
  have hl : lv_has ls 2 [(0, .ref (g.2.2 0)), (1, .int x1)] := hl
  unfold pX10_back at hp
  refine lv_iload_n hx hb dX10_back_0 rfl (lv_at hl 1 rfl) ?_
  refine lv_if_lt (tgt := 18) hx hb dX10_back_1 (by decide) (fun c_1 => ?_) (fun c_1 => ?_)
  · have hp := hp.1 c_1
    refine lv_iconst hx hb dX10_back_18 kI_m1 ?_
    exact hR _ _ _ _ _ _ dX10_back_19 hp hS
  · have hp := hp.2 c_1
    refine lv_iload_n hx hb dX10_back_4 rfl (lv_at hl 1 rfl) ?_
    refine lv_iconst hx hb dX10_back_5 kI_3 ?_
    refine lv_icmp_ge (tgt := 18) hx hb dX10_back_6 (by decide) (fun c_2 => ?_) (fun c_2 => ?_)
    · have hp := hp.1 c_2
      refine lv_iconst hx hb dX10_back_18 kI_m1 ?_
      exact hR _ _ _ _ _ _ dX10_back_19 hp hS
    · have hp := hp.2 c_2
      refine lv_aload_n hx hb dX10_back_9 rfl (lv_at hl 0 rfl) ?_
      refine G_0_11 hC hS m57 dX10_back_10 ?_
      refine lv_iload_n hx hb dX10_back_13 rfl (lv_at hl 1 rfl) ?_
      refine La_12 hC hS hp.1 dX10_back_14 ?_
      have hp := hp.2
      refine lv_if_ne (tgt := 20) hx hb dX10_back_15 (by decide) (fun c_3 => ?_) (fun c_3 => ?_)
      · have hp := hp.1 c_3
        refine lv_aload_n hx hb dX10_back_20 rfl (lv_at hl 0 rfl) ?_
        refine G_0_3 hC hS m30 dX10_back_21 ?_
        refine lv_aload_n hx hb dX10_back_24 rfl (lv_at hl 0 rfl) ?_
        refine G_0_10 hC hS m55 dX10_back_25 ?_
        refine lv_iload_n hx hb dX10_back_28 rfl (lv_at hl 1 rfl) ?_
        refine La_11 hC hS hp.1 dX10_back_29 ?_
        have hp := hp.2
        have hok := hp.1
        have hp := hp.2
        refine q_cvV (As := [.ref (g.2.2 (180 + 20 * x1.toNatClampNeg))]) (rest := []) hC hS hl.1 (rX2_copyFrom (by unfold cOk; decide) hok hp) cwX10_356 yvX2_copyFrom (rcv_160 hC hS) rfl rfl (Nat.le_of_ble_eq_true rfl) (rmk (by decide) (by decide)) dX10_back_30 (fun w_4 H locs hp hS => ?_)
        refine lv_aload_n hx hb dX10_back_33 rfl (lv_at hl 0 rfl) ?_
        refine G_0_5 hC hS m38 dX10_back_34 ?_
        refine q_cvV (As := []) (rest := []) hC hS hl.1 (rX0_forget hp) cwX10_142 yvX0_forget (rcv_50 hC hS) rfl rfl (Nat.le_of_ble_eq_true rfl) (rmk (by decide) (by decide)) dX10_back_37 (fun w_5 H locs hp hS => ?_)
        refine lv_aload_n hx hb dX10_back_40 rfl (lv_at hl 0 rfl) ?_
        refine G_0_3 hC hS m30 dX10_back_41 ?_
        refine G_160_0 hC hS m622 dX10_back_44 ?_
        exact hR _ _ _ _ _ _ dX10_back_47 hp hS
      · have hp := hp.2 c_3
        refine lv_iconst hx hb dX10_back_18 kI_m1 ?_
        exact hR _ _ _ _ _ _ dX10_back_19 hp hS
def pX10_about (post : Int32 → Wd → Prop) (x1 : Int32) (w : Wd) : Prop := (x1.toInt < 0 ∨ 13 < x1.toInt → (post (-1 : Int32) w)) ∧ (x1.toInt = 0 → (post (w.1 (rl (w.2.2.2.2 0)) 2) w)) ∧ (x1.toInt = 1 → (post (w.1 (rl (w.2.2.2.2 0)) 0) w)) ∧ (x1.toInt = 2 → (post (w.1 160 0) w)) ∧ (x1.toInt = 3 → (post (w.1 160 6) w)) ∧ (x1.toInt = 4 → (post (w.1 160 11) w)) ∧ (x1.toInt = 5 → (post (w.1 160 12) w)) ∧ (x1.toInt = 6 → (post (w.1 160 13) w)) ∧ (x1.toInt = 7 → (post (w.1 50 7) w)) ∧ (x1.toInt = 8 → (post (w.1 50 8) w)) ∧ (x1.toInt = 9 → (post (w.1 70 0) w)) ∧ (x1.toInt = 10 → (post (w.1 70 1) w)) ∧ (x1.toInt = 11 → (post (w.1 0 13) w)) ∧ (x1.toInt = 12 → (post (w.1 (rl (w.2.2.2.2 0)) 5) w)) ∧ (x1.toInt = 13 → (post (w.1 110 1) w))
set_option maxHeartbeats 4000000 in
set_option maxRecDepth 100000 in
theorem rX10_about {l : Launch} {g : Gw} {w : Wd} {post : Int32 → Wd → Prop}   {x1 : Int32} (hp : pX10_about post x1 w) : MtI tabX l yX10_about cX10_about 2 (some .int) 1 g w [.ref (g.2.2 0), .int x1] post := by
  refine q_entI tabX_nd (by decide) rfl (Nat.le_of_ble_eq_true rfl) ?_
  intro p e s m args below meth c A Q ls hC hR hS hl
  have hx := hC.1
  have hb := hC.2.1
  have hl : lv_has ls 2 [(0, .ref (g.2.2 0)), (1, .int x1)] := hl
  unfold pX10_about at hp
  refine lv_iload_n hx hb dX10_about_0 rfl (lv_at hl 1 rfl) ?_
  by_cases c_1 : x1.toInt < 0 ∨ 13 < x1.toInt
  · have hp := hp.1 c_1
    refine lv_tableOut (tgt := 181) hx hb dX10_about_1 c_1 (by decide) ?_
    refine lv_iconst hx hb dX10_about_181 kI_m1 ?_
    exact hR _ _ _ _ _ _ dX10_about_182 hp hS
  · have hp := hp.2
    have c_11 : ¬ x1.toInt < 0 := fun z => c_1 (Or.inl z)
    have c_12 : ¬ 13 < x1.toInt := fun z => c_1 (Or.inr z)
    rcases (show x1.toInt = 0 ∨ x1.toInt = 1 ∨ x1.toInt = 2 ∨ x1.toInt = 3 ∨ x1.toInt = 4 ∨ x1.toInt = 5 ∨ x1.toInt = 6 ∨ x1.toInt = 7 ∨ x1.toInt = 8 ∨ x1.toInt = 9 ∨ x1.toInt = 10 ∨ x1.toInt = 11 ∨ x1.toInt = 12 ∨ x1.toInt = 13 by omega) with c_13 | c_13 | c_13 | c_13 | c_13 | c_13 | c_13 | c_13 | c_13 | c_13 | c_13 | c_13 | c_13 | c_13
    · have hp := hp.1 c_13
      refine lv_tableIn (tgt := 72) hx hb dX10_about_1 c_11 c_12 (by rw [c_13]; rfl) (by decide) ?_
      refine lv_aload_n hx hb dX10_about_72 rfl (lv_at hl 0 rfl) ?_
      refine G_0_16 hC hS m21 dX10_about_73 ?_
      refine GR_2 hC hS m340 dX10_about_76 ?_
      exact hR _ _ _ _ _ _ dX10_about_79 hp hS
    · have hp := hp.2.1 c_13
      refine lv_tableIn (tgt := 80) hx hb dX10_about_1 c_11 c_12 (by rw [c_13]; rfl) (by decide) ?_
      refine lv_aload_n hx hb dX10_about_80 rfl (lv_at hl 0 rfl) ?_
      refine G_0_16 hC hS m21 dX10_about_81 ?_
      refine GR_0 hC hS m678 dX10_about_84 ?_
      exact hR _ _ _ _ _ _ dX10_about_87 hp hS
    · have hp := hp.2.2.1 c_13
      refine lv_tableIn (tgt := 88) hx hb dX10_about_1 c_11 c_12 (by rw [c_13]; rfl) (by decide) ?_
      refine lv_aload_n hx hb dX10_about_88 rfl (lv_at hl 0 rfl) ?_
      refine G_0_3 hC hS m30 dX10_about_89 ?_
      refine G_160_0 hC hS m622 dX10_about_92 ?_
      exact hR _ _ _ _ _ _ dX10_about_95 hp hS
    · have hp := hp.2.2.2.1 c_13
      refine lv_tableIn (tgt := 96) hx hb dX10_about_1 c_11 c_12 (by rw [c_13]; rfl) (by decide) ?_
      refine lv_aload_n hx hb dX10_about_96 rfl (lv_at hl 0 rfl) ?_
      refine G_0_3 hC hS m30 dX10_about_97 ?_
      refine G_160_6 hC hS m642 dX10_about_100 ?_
      exact hR _ _ _ _ _ _ dX10_about_103 hp hS
    · have hp := hp.2.2.2.2.1 c_13
      refine lv_tableIn (tgt := 104) hx hb dX10_about_1 c_11 c_12 (by rw [c_13]; rfl) (by decide) ?_
      refine lv_aload_n hx hb dX10_about_104 rfl (lv_at hl 0 rfl) ?_
      refine G_0_3 hC hS m30 dX10_about_105 ?_
      refine G_160_11 hC hS m781 dX10_about_108 ?_
      exact hR _ _ _ _ _ _ dX10_about_111 hp hS
    · have hp := hp.2.2.2.2.2.1 c_13
      refine lv_tableIn (tgt := 112) hx hb dX10_about_1 c_11 c_12 (by rw [c_13]; rfl) (by decide) ?_
      refine lv_aload_n hx hb dX10_about_112 rfl (lv_at hl 0 rfl) ?_
      refine G_0_3 hC hS m30 dX10_about_113 ?_
      refine G_160_12 hC hS m864 dX10_about_116 ?_
      exact hR _ _ _ _ _ _ dX10_about_119 hp hS
    · have hp := hp.2.2.2.2.2.2.1 c_13
      refine lv_tableIn (tgt := 120) hx hb dX10_about_1 c_11 c_12 (by rw [c_13]; rfl) (by decide) ?_
      refine lv_aload_n hx hb dX10_about_120 rfl (lv_at hl 0 rfl) ?_
      refine G_0_3 hC hS m30 dX10_about_121 ?_
      refine G_160_13 hC hS m1440 dX10_about_124 ?_
      exact hR _ _ _ _ _ _ dX10_about_127 hp hS
    · have hp := hp.2.2.2.2.2.2.2.1 c_13
      refine lv_tableIn (tgt := 128) hx hb dX10_about_1 c_11 c_12 (by rw [c_13]; rfl) (by decide) ?_
      refine lv_aload_n hx hb dX10_about_128 rfl (lv_at hl 0 rfl) ?_
      refine G_0_5 hC hS m38 dX10_about_129 ?_
      refine G_50_7 hC hS m1441 dX10_about_132 ?_
      exact hR _ _ _ _ _ _ dX10_about_135 hp hS
    · have hp := hp.2.2.2.2.2.2.2.2.1 c_13
      refine lv_tableIn (tgt := 136) hx hb dX10_about_1 c_11 c_12 (by rw [c_13]; rfl) (by decide) ?_
      refine lv_aload_n hx hb dX10_about_136 rfl (lv_at hl 0 rfl) ?_
      refine G_0_5 hC hS m38 dX10_about_137 ?_
      refine G_50_8 hC hS m1442 dX10_about_140 ?_
      exact hR _ _ _ _ _ _ dX10_about_143 hp hS
    · have hp := hp.2.2.2.2.2.2.2.2.2.1 c_13
      refine lv_tableIn (tgt := 144) hx hb dX10_about_1 c_11 c_12 (by rw [c_13]; rfl) (by decide) ?_
      refine lv_aload_n hx hb dX10_about_144 rfl (lv_at hl 0 rfl) ?_
      refine G_0_7 hC hS m46 dX10_about_145 ?_
      refine G_70_0 hC hS m223 dX10_about_148 ?_
      exact hR _ _ _ _ _ _ dX10_about_151 hp hS
    · have hp := hp.2.2.2.2.2.2.2.2.2.2.1 c_13
      refine lv_tableIn (tgt := 152) hx hb dX10_about_1 c_11 c_12 (by rw [c_13]; rfl) (by decide) ?_
      refine lv_aload_n hx hb dX10_about_152 rfl (lv_at hl 0 rfl) ?_
      refine G_0_7 hC hS m46 dX10_about_153 ?_
      refine G_70_1 hC hS m1213 dX10_about_156 ?_
      exact hR _ _ _ _ _ _ dX10_about_159 hp hS
    · have hp := hp.2.2.2.2.2.2.2.2.2.2.2.1 c_13
      refine lv_tableIn (tgt := 160) hx hb dX10_about_1 c_11 c_12 (by rw [c_13]; rfl) (by decide) ?_
      refine lv_aload_n hx hb dX10_about_160 rfl (lv_at hl 0 rfl) ?_
      refine G_0_13 hC hS m222 dX10_about_161 ?_
      exact hR _ _ _ _ _ _ dX10_about_164 hp hS
    · have hp := hp.2.2.2.2.2.2.2.2.2.2.2.2.1 c_13
      refine lv_tableIn (tgt := 165) hx hb dX10_about_1 c_11 c_12 (by rw [c_13]; rfl) (by decide) ?_
      refine lv_aload_n hx hb dX10_about_165 rfl (lv_at hl 0 rfl) ?_
      refine G_0_16 hC hS m21 dX10_about_166 ?_
      refine GR_5 hC hS m1443 dX10_about_169 ?_
      exact hR _ _ _ _ _ _ dX10_about_172 hp hS
    · have hp := hp.2.2.2.2.2.2.2.2.2.2.2.2.2 c_13
      refine lv_tableIn (tgt := 173) hx hb dX10_about_1 c_11 c_12 (by rw [c_13]; rfl) (by decide) ?_
      refine lv_aload_n hx hb dX10_about_173 rfl (lv_at hl 0 rfl) ?_
      refine G_0_9 hC hS m54 dX10_about_174 ?_
      refine G_110_1 hC hS m224 dX10_about_177 ?_
      exact hR _ _ _ _ _ _ dX10_about_180 hp hS
