def pX10_link (post : Int32 → Wd → Prop) (x1 : Int32) (x2 : Int32) (x3 : Int32) (w : Wd) : Prop := pX10_isPaper (fun r_1 w_2 => (r_1 = 0 → (post (-1 : Int32) w_2)) ∧ (¬ r_1 = 0 → (pX10_isPaper (fun r_4 w_5 => (r_4 = 0 → (post (-1 : Int32) w_5)) ∧ (¬ r_4 = 0 → ((¬ x1 = x2 → ((x3 = 0 → (pX3_add (fun r_9 w_10 => post r_9 w_10) (3 : Int32) x1 x2 (0 : Int32) w_5)) ∧ (¬ x3 = 0 → (pX3_add (fun r_11 w_12 => post r_11 w_12) (3 : Int32) x1 x2 (1 : Int32) w_5)))) ∧ (x1 = x2 → (post (-1 : Int32) w_5))))) x2 w_2))) x1 w
set_option maxHeartbeats 4000000 in
set_option maxRecDepth 100000 in
theorem rX10_link {l : Launch} {g : Gw} {w : Wd} {post : Int32 → Wd → Prop}   {x1 : Int32} {x2 : Int32} {x3 : Int32} (hp : pX10_link post x1 x2 x3 w) : MtI tabX l yX10_link cX10_link 4 (some .int) 2 g w [.ref (g.2.2 0), .int x1, .int x2, .int x3] post := by
  refine q_entI tabX_nd (by decide) rfl (Nat.le_of_ble_eq_true rfl) ?_
  intro p e s m args below meth c A Q ls hC hR hS hl
  have hx := hC.1
  have hb := hC.2.1
  have hl : lv_has ls 4 [(0, .ref (g.2.2 0)), (1, .int x1), (2, .int x2), (3, .int x3)] := hl
  unfold pX10_link at hp
  refine lv_iload_n hx hb dX10_link_0 rfl (lv_at hl 1 rfl) ?_
  refine q_csI (As := [.int x1]) (rest := []) hC hS hl.1 (rX10_isPaper hp) cwX10_289 ysX10_isPaper rfl rfl (Nat.le_of_ble_eq_true rfl) (rmk (by decide) (by decide)) dX10_link_1 (fun r_1 w_2 H locs hp hS => ?_)
  refine lv_if_eq (tgt := 19) hx hb dX10_link_4 (by decide) (fun c_3 => ?_) (fun c_3 => ?_)
  · have hp := hp.1 c_3
    refine lv_iconst hx hb dX10_link_19 kI_m1 ?_
    exact hR _ _ _ _ _ _ dX10_link_20 hp hS
  · have hp := hp.2 c_3
    refine lv_iload_n hx hb dX10_link_7 rfl (lv_at hl 2 rfl) ?_
    refine q_csI (As := [.int x2]) (rest := []) hC hS hl.1 (rX10_isPaper hp) cwX10_289 ysX10_isPaper rfl rfl (Nat.le_of_ble_eq_true rfl) (rmk (by decide) (by decide)) dX10_link_8 (fun r_4 w_5 H locs hp hS => ?_)
    refine lv_if_eq (tgt := 19) hx hb dX10_link_11 (by decide) (fun c_6 => ?_) (fun c_6 => ?_)
    · have hp := hp.1 c_6
      refine lv_iconst hx hb dX10_link_19 kI_m1 ?_
      exact hR _ _ _ _ _ _ dX10_link_20 hp hS
    · have hp := hp.2 c_6
      refine lv_iload_n hx hb dX10_link_14 rfl (lv_at hl 1 rfl) ?_
      refine lv_iload_n hx hb dX10_link_15 rfl (lv_at hl 2 rfl) ?_
      refine lv_icmp_ne (tgt := 21) hx hb dX10_link_16 (by decide) (fun c_7 => ?_) (fun c_7 => ?_)
      · have hp := hp.1 c_7
        refine lv_aload_n hx hb dX10_link_21 rfl (lv_at hl 0 rfl) ?_
        refine G_0_7 hC hS m46 dX10_link_22 ?_
        refine lv_iconst hx hb dX10_link_25 kI_3 ?_
        refine lv_iload_n hx hb dX10_link_26 rfl (lv_at hl 1 rfl) ?_
        refine lv_iload_n hx hb dX10_link_27 rfl (lv_at hl 2 rfl) ?_
        refine lv_iload_n hx hb dX10_link_28 rfl (lv_at hl 3 rfl) ?_
        refine lv_if_eq (tgt := 36) hx hb dX10_link_29 (by decide) (fun c_8 => ?_) (fun c_8 => ?_)
        · have hp := hp.1 c_8
          refine lv_iconst hx hb dX10_link_36 kI_0 ?_
          refine q_cvI (As := [.int (3 : Int32), .int x1, .int x2, .int (0 : Int32)]) (rest := []) hC hS hl.1 (rX3_add hp) cwX10_281 yvX3_add (rcv_70 hC hS) rfl rfl (Nat.le_of_ble_eq_true rfl) (rmk (by decide) (by decide)) dX10_link_37 (fun r_9 w_10 H locs hp hS => ?_)
          exact hR _ _ _ _ _ _ dX10_link_40 hp hS
        · have hp := hp.2 c_8
          refine lv_iconst hx hb dX10_link_32 kI_1 ?_
          refine lv_goto (tgt := 37) hx hb dX10_link_33 (by decide) ?_
          refine q_cvI (As := [.int (3 : Int32), .int x1, .int x2, .int (1 : Int32)]) (rest := []) hC hS hl.1 (rX3_add hp) cwX10_281 yvX3_add (rcv_70 hC hS) rfl rfl (Nat.le_of_ble_eq_true rfl) (rmk (by decide) (by decide)) dX10_link_37 (fun r_11 w_12 H locs hp hS => ?_)
          exact hR _ _ _ _ _ _ dX10_link_40 hp hS
      · have hp := hp.2 c_7
        refine lv_iconst hx hb dX10_link_19 kI_m1 ?_
        exact hR _ _ _ _ _ _ dX10_link_20 hp hS
def pX10_untell (post : Int32 → Wd → Prop) (x1 : Int32) (w : Wd) : Prop := (x1 < 0 → (post (0 : Int32) w)) ∧ (¬ x1 < 0 → (((w.1 70 0) ≤ x1 → (post (0 : Int32) w)) ∧ (¬ (w.1 70 0) ≤ x1 → (vp_in x1 40 ∧ ((w.2.1 78 x1.toNatClampNeg) = (-1 : Int32) → (vp_in x1 40 ∧ ∀ w_4, w_4 = sA w 78 x1.toNatClampNeg (w.1 70 1) → post (1 : Int32) w_4)) ∧ (¬ (w.2.1 78 x1.toNatClampNeg) = (-1 : Int32) → (post (0 : Int32) w))))))
set_option maxHeartbeats 4000000 in
set_option maxRecDepth 100000 in
theorem rX10_untell {l : Launch} {g : Gw} {w : Wd} {post : Int32 → Wd → Prop}   {x1 : Int32} (hp : pX10_untell post x1 w) : MtI tabX l yX10_untell cX10_untell 2 (some .boolean) 1 g w [.ref (g.2.2 0), .int x1] post := by
  refine q_entZ tabX_nd (by decide) rfl (Nat.le_of_ble_eq_true rfl) ?_
  intro p e s m args below meth c A Q ls hC hR hS hl
  have hx := hC.1
  have hb := hC.2.1
  have hl : lv_has ls 2 [(0, .ref (g.2.2 0)), (1, .int x1)] := hl
  unfold pX10_untell at hp
  refine lv_iload_n hx hb dX10_untell_0 rfl (lv_at hl 1 rfl) ?_
  refine lv_if_lt (tgt := 28) hx hb dX10_untell_1 (by decide) (fun c_1 => ?_) (fun c_1 => ?_)
  · have hp := hp.1 c_1
    refine lv_iconst hx hb dX10_untell_28 kI_0 ?_
    exact hR _ _ _ _ _ _ dX10_untell_29 (by decide) hp hS
  · have hp := hp.2 c_1
    refine lv_iload_n hx hb dX10_untell_4 rfl (lv_at hl 1 rfl) ?_
    refine lv_aload_n hx hb dX10_untell_5 rfl (lv_at hl 0 rfl) ?_
    refine G_0_7 hC hS m46 dX10_untell_6 ?_
    refine G_70_0 hC hS m223 dX10_untell_9 ?_
    refine lv_icmp_ge (tgt := 28) hx hb dX10_untell_12 (by decide) (fun c_2 => ?_) (fun c_2 => ?_)
    · have hp := hp.1 c_2
      refine lv_iconst hx hb dX10_untell_28 kI_0 ?_
      exact hR _ _ _ _ _ _ dX10_untell_29 (by decide) hp hS
    · have hp := hp.2 c_2
      refine lv_aload_n hx hb dX10_untell_15 rfl (lv_at hl 0 rfl) ?_
      refine G_0_7 hC hS m46 dX10_untell_16 ?_
      refine G_70_7 hC hS m1212 dX10_untell_19 ?_
      refine lv_iload_n hx hb dX10_untell_22 rfl (lv_at hl 1 rfl) ?_
      refine La_78 hC hS hp.1 dX10_untell_23 ?_
      have hp := hp.2
      refine lv_iconst hx hb dX10_untell_24 kI_m1 ?_
      refine lv_icmp_eq (tgt := 30) hx hb dX10_untell_25 (by decide) (fun c_3 => ?_) (fun c_3 => ?_)
      · have hp := hp.1 c_3
        refine lv_aload_n hx hb dX10_untell_30 rfl (lv_at hl 0 rfl) ?_
        refine G_0_7 hC hS m46 dX10_untell_31 ?_
        refine G_70_7 hC hS m1212 dX10_untell_34 ?_
        refine lv_iload_n hx hb dX10_untell_37 rfl (lv_at hl 1 rfl) ?_
        refine lv_aload_n hx hb dX10_untell_38 rfl (lv_at hl 0 rfl) ?_
        refine G_0_7 hC hS m46 dX10_untell_39 ?_
        refine G_70_1 hC hS m1213 dX10_untell_42 ?_
        refine Sa_78 hC hS hp.1 dX10_untell_45 (fun w_4 H locs ew_4 hS => ?_)
        have hp := hp.2
        have hp := hp w_4 ew_4
        refine lv_iconst hx hb dX10_untell_46 kI_1 ?_
        exact hR _ _ _ _ _ _ dX10_untell_47 (by decide) hp hS
      · have hp := hp.2 c_3
        refine lv_iconst hx hb dX10_untell_28 kI_0 ?_
        exact hR _ _ _ _ _ _ dX10_untell_29 (by decide) hp hS
def pX10_later (post : Int32 → Wd → Prop) (x1 : Int32) (w : Wd) : Prop := (x1 < 0 → (post (-1 : Int32) w)) ∧ (¬ x1 < 0 → (((1000 : Int32) < x1 → (post (-1 : Int32) w)) ∧ (¬ (1000 : Int32) < x1 → ((((w.1 70 1) + x1) ≤ (100000 : Int32) → (∀ w_4, w_4 = sI w 70 1 ((w.1 70 1) + x1) → post (w_4.1 70 1) w_4)) ∧ (¬ ((w.1 70 1) + x1) ≤ (100000 : Int32) → (post (-1 : Int32) w))))))
set_option maxHeartbeats 4000000 in
set_option maxRecDepth 100000 in
theorem rX10_later {l : Launch} {g : Gw} {w : Wd} {post : Int32 → Wd → Prop}   {x1 : Int32} (hp : pX10_later post x1 w) : MtI tabX l yX10_later cX10_later 2 (some .int) 1 g w [.ref (g.2.2 0), .int x1] post := by
  refine q_entI tabX_nd (by decide) rfl (Nat.le_of_ble_eq_true rfl) ?_
  intro p e s m args below meth c A Q ls hC hR hS hl
  have hx := hC.1
  have hb := hC.2.1
  have hl : lv_has ls 2 [(0, .ref (g.2.2 0)), (1, .int x1)] := hl
  unfold pX10_later at hp
  refine lv_iload_n hx hb dX10_later_0 rfl (lv_at hl 1 rfl) ?_
  refine lv_if_lt (tgt := 26) hx hb dX10_later_1 (by decide) (fun c_1 => ?_) (fun c_1 => ?_)
  · have hp := hp.1 c_1
    refine lv_iconst hx hb dX10_later_26 kI_m1 ?_
    exact hR _ _ _ _ _ _ dX10_later_27 hp hS
  · have hp := hp.2 c_1
    refine lv_iload_n hx hb dX10_later_4 rfl (lv_at hl 1 rfl) ?_
    refine lv_sipush hx hb dX10_later_5 kS_1000 ?_
    refine lv_icmp_gt (tgt := 26) hx hb dX10_later_8 (by decide) (fun c_2 => ?_) (fun c_2 => ?_)
    · have hp := hp.1 c_2
      refine lv_iconst hx hb dX10_later_26 kI_m1 ?_
      exact hR _ _ _ _ _ _ dX10_later_27 hp hS
    · have hp := hp.2 c_2
      refine lv_aload_n hx hb dX10_later_11 rfl (lv_at hl 0 rfl) ?_
      refine G_0_7 hC hS m46 dX10_later_12 ?_
      refine G_70_1 hC hS m1213 dX10_later_15 ?_
      refine lv_iload_n hx hb dX10_later_18 rfl (lv_at hl 1 rfl) ?_
      refine lv_iadd hx hb dX10_later_19 ?_
      refine lv_ldcw hx hb hC.2.2.2.1 (hC.2.2.2.2.1 _ m1222) dX10_later_20 ?_
      refine lv_icmp_le (tgt := 28) hx hb dX10_later_23 (by decide) (fun c_3 => ?_) (fun c_3 => ?_)
      · have hp := hp.1 c_3
        refine lv_aload_n hx hb dX10_later_28 rfl (lv_at hl 0 rfl) ?_
        refine G_0_7 hC hS m46 dX10_later_29 ?_
        refine lv_dup hx hb dX10_later_32 rfl ?_
        refine G_70_1 hC hS m1213 dX10_later_33 ?_
        refine lv_iload_n hx hb dX10_later_36 rfl (lv_at hl 1 rfl) ?_
        refine lv_iadd hx hb dX10_later_37 ?_
        refine P_70_1 hC hS m1213 dX10_later_38 (fun w_4 H locs ew_4 hS => ?_)
        have hp := hp w_4 ew_4
        refine lv_aload_n hx hb dX10_later_41 rfl (lv_at hl 0 rfl) ?_
        refine G_0_7 hC hS m46 dX10_later_42 ?_
        refine G_70_1 hC hS m1213 dX10_later_45 ?_
        exact hR _ _ _ _ _ _ dX10_later_48 hp hS
      · have hp := hp.2 c_3
        refine lv_iconst hx hb dX10_later_26 kI_m1 ?_
        exact hR _ _ _ _ _ _ dX10_later_27 hp hS
def pX10_changes (post : Int32 → Wd → Prop) (x0 : Int32) (x1 : Int32) (x2 : Int32) (w : Wd) : Prop := pX10_turn (fun r_1 w_2 => pJ6_bitCount_0f7a4 (fun r_3 w_4 => pJ6_bitCount_0f7a4 (fun r_5 w_6 => post (r_3 + ((2 : Int32) * r_5)) w_6) (x1 &&& (r_1 ^^^ (-1 : Int32))) w_4) (r_1 &&& (x1 ^^^ (-1 : Int32))) w_2) x0 x2 w
set_option maxHeartbeats 4000000 in
set_option maxRecDepth 100000 in
theorem rX10_changes {l : Launch} {g : Gw} {w : Wd} {post : Int32 → Wd → Prop}   {x0 : Int32} {x1 : Int32} {x2 : Int32} (hp : pX10_changes post x0 x1 x2 w) : MtI tabX l yX10_changes cX10_changes 4 (some .int) 2 g w [.int x0, .int x1, .int x2] post := by
  refine q_entI tabX_nd (by decide) rfl (Nat.le_of_ble_eq_true rfl) ?_
  intro p e s m args below meth c A Q ls hC hR hS hl
  have hx := hC.1
  have hb := hC.2.1
  have hl : lv_has ls 4 [(0, .int x0), (1, .int x1), (2, .int x2)] := hl
  unfold pX10_changes at hp
  refine lv_iload_n hx hb dX10_changes_0 rfl (lv_at hl 0 rfl) ?_
  refine lv_iload_n hx hb dX10_changes_1 rfl (lv_at hl 2 rfl) ?_
  refine q_csI (As := [.int x0, .int x2]) (rest := []) hC hS hl.1 (rX10_turn hp) cwX10_186 ysX10_turn rfl rfl (Nat.le_of_ble_eq_true rfl) (rmk (by decide) (by decide)) dX10_changes_2 (fun r_1 w_2 H locs hp hS => ?_)
  refine lv_istore_n (lv' := [(3, .int r_1), (0, .int x0), (1, .int x1), (2, .int x2)]) hx hb dX10_changes_5 rfl hl (by decide) rfl (fun ls hl => ?_)
  refine lv_iload_n hx hb dX10_changes_6 rfl (lv_at hl 0 rfl) ?_
  refine lv_iload_n hx hb dX10_changes_7 rfl (lv_at hl 2 rfl) ?_
  refine lv_iconst hx hb dX10_changes_8 kI_m1 ?_
  refine lv_ixor hx hb dX10_changes_9 ?_
  refine lv_iand hx hb dX10_changes_10 ?_
  refine q_csI (As := [.int (r_1 &&& (x1 ^^^ (-1 : Int32)))]) (rest := []) hC hS hl.1 (rJ6_bitCount_0f7a4 hp) cwX10_232 ysJ6_bitCount_0f7a4 rfl rfl (Nat.le_of_ble_eq_true rfl) (rmk (by decide) (by decide)) dX10_changes_11 (fun r_3 w_4 H locs hp hS => ?_)
  refine lv_iconst hx hb dX10_changes_14 kI_2 ?_
  refine lv_iload_n hx hb dX10_changes_15 rfl (lv_at hl 2 rfl) ?_
  refine lv_iload_n hx hb dX10_changes_16 rfl (lv_at hl 0 rfl) ?_
  refine lv_iconst hx hb dX10_changes_17 kI_m1 ?_
  refine lv_ixor hx hb dX10_changes_18 ?_
  refine lv_iand hx hb dX10_changes_19 ?_
  refine q_csI (As := [.int (x1 &&& (r_1 ^^^ (-1 : Int32)))]) (rest := [.int (2 : Int32), .int r_3]) hC hS hl.1 (rJ6_bitCount_0f7a4 hp) cwX10_232 ysJ6_bitCount_0f7a4 rfl rfl (Nat.le_of_ble_eq_true rfl) (rmk (by decide) (by decide)) dX10_changes_20 (fun r_5 w_6 H locs hp hS => ?_)
  refine lv_imul hx hb dX10_changes_23 ?_
  refine lv_iadd hx hb dX10_changes_24 ?_
  exact hR _ _ _ _ _ _ dX10_changes_25 hp hS
def pX3_counts (post : Int32 → Wd → Prop) (x1 : Int32) (x2 : Int32) (x3 : Int32) (w : Wd) : Prop := (x1 < 0 → (post (0 : Int32) w)) ∧ (¬ x1 < 0 → (((w.1 70 0) ≤ x1 → (post (0 : Int32) w)) ∧ (¬ (w.1 70 0) ≤ x1 → (vp_in x1 40 ∧ (¬ (w.2.1 73 x1.toNatClampNeg) = x2 → (post (0 : Int32) w)) ∧ ((w.2.1 73 x1.toNatClampNeg) = x2 → (vp_in x1 40 ∧ (x3 < (w.2.1 77 x1.toNatClampNeg) → (post (0 : Int32) w)) ∧ (¬ x3 < (w.2.1 77 x1.toNatClampNeg) → (vp_in x1 40 ∧ ((w.2.1 78 x1.toNatClampNeg) = (-1 : Int32) → (post (1 : Int32) w)) ∧ (¬ (w.2.1 78 x1.toNatClampNeg) = (-1 : Int32) → (vp_in x1 40 ∧ ((w.2.1 78 x1.toNatClampNeg) ≤ x3 → (post (0 : Int32) w)) ∧ (¬ (w.2.1 78 x1.toNatClampNeg) ≤ x3 → (post (1 : Int32) w))))))))))))
set_option maxHeartbeats 4000000 in
set_option maxRecDepth 100000 in
theorem rX3_counts {l : Launch} {g : Gw} {w : Wd} {post : Int32 → Wd → Prop}   {x1 : Int32} {x2 : Int32} {x3 : Int32} (hp : pX3_counts post x1 x2 x3 w) : MtI tabX l yX3_counts cX3_counts 4 (some .boolean) 1 g w [.ref (g.2.2 70), .int x1, .int x2, .int x3] post := by
  refine q_entZ tabX_nd (by decide) rfl (Nat.le_of_ble_eq_true rfl) ?_
  intro p e s m args below meth c A Q ls hC hR hS hl
  have hx := hC.1
  have hb := hC.2.1
  have hl : lv_has ls 4 [(0, .ref (g.2.2 70)), (1, .int x1), (2, .int x2), (3, .int x3)] := hl
  unfold pX3_counts at hp
  refine lv_iload_n hx hb dX3_counts_0 rfl (lv_at hl 1 rfl) ?_
  refine lv_if_lt (tgt := 56) hx hb dX3_counts_1 (by decide) (fun c_1 => ?_) (fun c_1 => ?_)
  · have hp := hp.1 c_1
    refine lv_iconst hx hb dX3_counts_56 kI_0 ?_
    exact hR _ _ _ _ _ _ dX3_counts_57 (by decide) hp hS
  · have hp := hp.2 c_1
    refine lv_iload_n hx hb dX3_counts_4 rfl (lv_at hl 1 rfl) ?_
    refine lv_aload_n hx hb dX3_counts_5 rfl (lv_at hl 0 rfl) ?_
    refine G_70_0 hC hS m1167 dX3_counts_6 ?_
    refine lv_icmp_ge (tgt := 56) hx hb dX3_counts_9 (by decide) (fun c_2 => ?_) (fun c_2 => ?_)
    · have hp := hp.1 c_2
      refine lv_iconst hx hb dX3_counts_56 kI_0 ?_
      exact hR _ _ _ _ _ _ dX3_counts_57 (by decide) hp hS
    · have hp := hp.2 c_2
      refine lv_aload_n hx hb dX3_counts_12 rfl (lv_at hl 0 rfl) ?_
      refine G_70_2 hC hS m195 dX3_counts_13 ?_
      refine lv_iload_n hx hb dX3_counts_16 rfl (lv_at hl 1 rfl) ?_
      refine La_73 hC hS hp.1 dX3_counts_17 ?_
      have hp := hp.2
      refine lv_iload_n hx hb dX3_counts_18 rfl (lv_at hl 2 rfl) ?_
      refine lv_icmp_ne (tgt := 56) hx hb dX3_counts_19 (by decide) (fun c_3 => ?_) (fun c_3 => ?_)
      · have hp := hp.1 c_3
        refine lv_iconst hx hb dX3_counts_56 kI_0 ?_
        exact hR _ _ _ _ _ _ dX3_counts_57 (by decide) hp hS
      · have hp := hp.2 c_3
        refine lv_aload_n hx hb dX3_counts_22 rfl (lv_at hl 0 rfl) ?_
        refine G_70_6 hC hS m199 dX3_counts_23 ?_
        refine lv_iload_n hx hb dX3_counts_26 rfl (lv_at hl 1 rfl) ?_
        refine La_77 hC hS hp.1 dX3_counts_27 ?_
        have hp := hp.2
        refine lv_iload_n hx hb dX3_counts_28 rfl (lv_at hl 3 rfl) ?_
        refine lv_icmp_gt (tgt := 56) hx hb dX3_counts_29 (by decide) (fun c_4 => ?_) (fun c_4 => ?_)
        · have hp := hp.1 c_4
          refine lv_iconst hx hb dX3_counts_56 kI_0 ?_
          exact hR _ _ _ _ _ _ dX3_counts_57 (by decide) hp hS
        · have hp := hp.2 c_4
          refine lv_aload_n hx hb dX3_counts_32 rfl (lv_at hl 0 rfl) ?_
          refine G_70_7 hC hS m200 dX3_counts_33 ?_
          refine lv_iload_n hx hb dX3_counts_36 rfl (lv_at hl 1 rfl) ?_
          refine La_78 hC hS hp.1 dX3_counts_37 ?_
          have hp := hp.2
          refine lv_iconst hx hb dX3_counts_38 kI_m1 ?_
          refine lv_icmp_eq (tgt := 52) hx hb dX3_counts_39 (by decide) (fun c_5 => ?_) (fun c_5 => ?_)
          · have hp := hp.1 c_5
            refine lv_iconst hx hb dX3_counts_52 kI_1 ?_
            refine lv_goto (tgt := 57) hx hb dX3_counts_53 (by decide) ?_
            exact hR _ _ _ _ _ _ dX3_counts_57 (by decide) hp hS
          · have hp := hp.2 c_5
            refine lv_aload_n hx hb dX3_counts_42 rfl (lv_at hl 0 rfl) ?_
            refine G_70_7 hC hS m200 dX3_counts_43 ?_
            refine lv_iload_n hx hb dX3_counts_46 rfl (lv_at hl 1 rfl) ?_
            refine La_78 hC hS hp.1 dX3_counts_47 ?_
            have hp := hp.2
            refine lv_iload_n hx hb dX3_counts_48 rfl (lv_at hl 3 rfl) ?_
            refine lv_icmp_le (tgt := 56) hx hb dX3_counts_49 (by decide) (fun c_6 => ?_) (fun c_6 => ?_)
            · have hp := hp.1 c_6
              refine lv_iconst hx hb dX3_counts_56 kI_0 ?_
              exact hR _ _ _ _ _ _ dX3_counts_57 (by decide) hp hS
            · have hp := hp.2 c_6
              refine lv_iconst hx hb dX3_counts_52 kI_1 ?_
              refine lv_goto (tgt := 57) hx hb dX3_counts_53 (by decide) ?_
              exact hR _ _ _ _ _ _ dX3_counts_57 (by decide) hp hS
def pX5_gather_84 (k72 : Int32 → Int32 → Wd → Prop) (post : Wd → Prop) : Nat → Int32 → Int32 → Int32 → Wd → Prop
  | 0, _, _, _, _ => False
  | n + 1, x3, x4, x5, w => ((w.1 90 0) ≤ x5 → (∀ x4_2, x4_2 = x4 + (1 : Int32) → k72 x3 x4_2 w)) ∧ (¬ (w.1 90 0) ≤ x5 → (vp_in x4 7 ∧ vp_in x5 7 ∧ pX10_changes (fun r_3 w_4 => vp_in ((x4 * (7 : Int32)) + x5) 49 ∧ ∀ w_5, w_5 = sA w_4 96 ((x4 * (7 : Int32)) + x5).toNatClampNeg r_3 → ∀ x5_6, x5_6 = x5 + (1 : Int32) → pX5_gather_84 k72 post n x3 x4 x5_6 w_5) (w.2.1 95 x4.toNatClampNeg) (w.2.1 95 x5.toNatClampNeg) x3 w))
def pX5_gather_72 (post : Wd → Prop) : Nat → Int32 → Int32 → Wd → Prop
  | 0, _, _, _ => False
  | n + 1, x3, x4, w => ((w.1 90 0) ≤ x4 → (post w)) ∧ (¬ (w.1 90 0) ≤ x4 → (∃ n9, pX5_gather_84 (pX5_gather_72 post n) post n9 x3 x4 (0 : Int32) w))
def pX5_gather_69 (post : Wd → Prop) (x3 : Int32) (w : Wd) : Prop := ∃ n9, pX5_gather_72 post n9 x3 (0 : Int32) w
def pX5_gather_63 (k8 : Int32 → Int32 → Int32 → Wd → Prop) (post : Wd → Prop) (x2 : Int32) (x3 : Int32) (x4 : Int32) (w : Wd) : Prop := ∀ x4_1, x4_1 = x4 + (1 : Int32) → k8 x2 x3 x4_1 w
def pX5_gather_8 (post : Wd → Prop) : Nat → Int32 → Int32 → Int32 → Wd → Prop
  | 0, _, _, _, _ => False
  | n + 1, x2, x3, x4, w => ((w.1 70 0) ≤ x4 → (pX5_gather_69 post x3 w)) ∧ (¬ (w.1 70 0) ≤ x4 → (((7 : Int32) ≤ (w.1 90 0) → (pX5_gather_69 post x3 w)) ∧ (¬ (7 : Int32) ≤ (w.1 90 0) → (pX3_counts (fun r_3 w_4 => (r_3 = 0 → (pX5_gather_63 (pX5_gather_8 post n) post x2 x3 x4 w_4)) ∧ (¬ r_3 = 0 → (vp_in x4 40 ∧ vp_in (w_4.1 90 0) 7 ∧ ∀ w_6, w_6 = sA w_4 95 (w_4.1 90 0).toNatClampNeg (w_4.2.1 74 x4.toNatClampNeg) → ∀ w_7, w_7 = sI w_6 90 0 ((w_6.1 90 0) + (1 : Int32)) → pX5_gather_63 (pX5_gather_8 post n) post x2 x3 x4 w_7))) x4 (0 : Int32) x2 w))))
def pX5_gather (post : Wd → Prop) (x2 : Int32) (x3 : Int32) (w : Wd) : Prop := ∀ w_1, w_1 = sI w 90 0 (0 : Int32) → ∃ n9, pX5_gather_8 post n9 x2 x3 (0 : Int32) w_1
set_option maxHeartbeats 4000000 in
set_option maxRecDepth 100000 in
theorem bX5_gather_84 {p : Program} {l : Launch} {e : Env} {s : State} {m : MethodId} {args : Array Value} {below : List Frame} {meth : Method} {c : Code} {Q : State → Prop} {A : Nat → Prop} {g : Gw} {post : Wd → Prop}  (hC : Cx p s m args c cX5_gather RX5 6 g) (hR : RtV tabX p l e (rk 3) s m args below meth c Q cX5_gather A g post)  {k72 : Int32 → Int32 → Wd → Prop} (hk72 : ∀ (x3 : Int32) (x4 : Int32) (w : Wd) (H : Heap) (locs : List Loc) (ls : Array Slot), k72 x3 x4 w → St tabX A s.heap g w H locs → lv_has ls 6 [(0, .ref (g.2.2 90)), (1, .ref (g.2.2 70)), (3, .int x3), (4, .int x4)] → W p l e (rk 3) s m args below meth c H locs 0 0 Q (F0 m 72 ls [])) : ∀ (n : Nat) (x3 : Int32) (x4 : Int32) (x5 : Int32) (w : Wd) (H : Heap) (locs : List Loc) (ls : Array Slot), pX5_gather_84 k72 post n x3 x4 x5 w → St tabX A s.heap g w H locs → lv_has ls 6 [(0, .ref (g.2.2 90)), (1, .ref (g.2.2 70)), (3, .int x3), (4, .int x4), (5, .int x5)] → W p l e (rk 3) s m args below meth c H locs 0 0 Q (F0 m 84 ls []) := by
  have hx := hC.1
  have hb := hC.2.1
  intro n
  induction n with
  | zero =>
    intro x3 x4 x5 w H locs ls hp hS hl
    exact False.elim hp
  | succ n ih =>
    intro x3 x4 x5 w H locs ls hp hS hl
    unfold pX5_gather_84 at hp
    refine lv_iload hx hb dX5_gather_84 (lv_at hl 4 rfl) ?_
    refine lv_aload_n hx hb dX5_gather_86 rfl (lv_at hl 0 rfl) ?_
    refine G_90_0 hC hS m1240 dX5_gather_87 ?_
    refine lv_icmp_ge (tgt := 130) hx hb dX5_gather_90 (by decide) (fun c_1 => ?_) (fun c_1 => ?_)
    · have hp := hp.1 c_1
      obtain ⟨x4_2, ex4_2⟩ : ∃ y : Int32, y = x4 + (1 : Int32) := ⟨_, rfl⟩
      have hp := hp x4_2 ex4_2
      refine lv_iinc (v := x4_2) (lv' := [(4, .int x4_2), (0, .ref (g.2.2 90)), (1, .ref (g.2.2 70)), (3, .int x3), (5, .int x5)]) hx hb dX5_gather_130 hl (k := 3) rfl (by rw [ex4_2]; rfl) (by decide) rfl (fun ls hl => ?_)
      refine lv_goto (tgt := 72) hx hb dX5_gather_133 (by decide) ?_
      exact hk72 x3 x4_2 w _ _ _ hp hS (lv_sub hl [1, 2, 3, 0] rfl)
    · have hp := hp.2 c_1
      refine lv_aload_n hx hb dX5_gather_93 rfl (lv_at hl 0 rfl) ?_
      refine G_90_5 hC hS m209 dX5_gather_94 ?_
      refine lv_iload hx hb dX5_gather_97 (lv_at hl 3 rfl) ?_
      refine lv_bipush hx hb dX5_gather_99 kB_7 ?_
      refine lv_imul hx hb dX5_gather_101 ?_
      refine lv_iload hx hb dX5_gather_102 (lv_at hl 4 rfl) ?_
      refine lv_iadd hx hb dX5_gather_104 ?_
      refine lv_aload_n hx hb dX5_gather_105 rfl (lv_at hl 0 rfl) ?_
      refine G_90_4 hC hS m208 dX5_gather_106 ?_
      refine lv_iload hx hb dX5_gather_109 (lv_at hl 3 rfl) ?_
      refine La_95 hC hS hp.1 dX5_gather_111 ?_
      have hp := hp.2
      refine lv_aload_n hx hb dX5_gather_112 rfl (lv_at hl 0 rfl) ?_
      refine G_90_4 hC hS m208 dX5_gather_113 ?_
      refine lv_iload hx hb dX5_gather_116 (lv_at hl 4 rfl) ?_
      refine La_95 hC hS hp.1 dX5_gather_118 ?_
      have hp := hp.2
      refine lv_iload_n hx hb dX5_gather_119 rfl (lv_at hl 2 rfl) ?_
      refine q_cnI (As := [.int (w.2.1 95 x4.toNatClampNeg), .int (w.2.1 95 x5.toNatClampNeg), .int x3]) (rest := [.int ((x4 * (7 : Int32)) + x5), .ref (g.2.2 96)]) hC hS hl.1 (rX10_changes hp) m1248 m1247 m2 hC.2.2.2.2.2.2.2.2.2 ysX10_changes rfl rfl (Nat.le_of_ble_eq_true rfl) (rmk (by decide) (by decide)) dX5_gather_120 (fun r_3 w_4 H locs hp hS => ?_)
      refine Sa_96 hC hS hp.1 dX5_gather_123 (fun w_5 H locs ew_5 hS => ?_)
      have hp := hp.2
      have hp := hp w_5 ew_5
      obtain ⟨x5_6, ex5_6⟩ : ∃ y : Int32, y = x5 + (1 : Int32) := ⟨_, rfl⟩
      have hp := hp x5_6 ex5_6
      refine lv_iinc (v := x5_6) (lv' := [(5, .int x5_6), (0, .ref (g.2.2 90)), (1, .ref (g.2.2 70)), (3, .int x3), (4, .int x4)]) hx hb dX5_gather_124 hl (k := 4) rfl (by rw [ex5_6]; rfl) (by decide) rfl (fun ls hl => ?_)
      refine lv_goto (tgt := 84) hx hb dX5_gather_127 (by decide) ?_
      exact ih x3 x4 x5_6 w_5 _ _ _ hp hS (lv_sub hl [1, 2, 3, 4, 0] rfl)
set_option maxHeartbeats 4000000 in
set_option maxRecDepth 100000 in
theorem bX5_gather_72 {p : Program} {l : Launch} {e : Env} {s : State} {m : MethodId} {args : Array Value} {below : List Frame} {meth : Method} {c : Code} {Q : State → Prop} {A : Nat → Prop} {g : Gw} {post : Wd → Prop}  (hC : Cx p s m args c cX5_gather RX5 6 g) (hR : RtV tabX p l e (rk 3) s m args below meth c Q cX5_gather A g post)  : ∀ (n : Nat) (x3 : Int32) (x4 : Int32) (w : Wd) (H : Heap) (locs : List Loc) (ls : Array Slot), pX5_gather_72 post n x3 x4 w → St tabX A s.heap g w H locs → lv_has ls 6 [(0, .ref (g.2.2 90)), (1, .ref (g.2.2 70)), (3, .int x3), (4, .int x4)] → W p l e (rk 3) s m args below meth c H locs 0 0 Q (F0 m 72 ls []) := by
  have hx := hC.1
  have hb := hC.2.1
  intro n
  induction n with
  | zero =>
    intro x3 x4 w H locs ls hp hS hl
    exact False.elim hp
  | succ n ih =>
    intro x3 x4 w H locs ls hp hS hl
    unfold pX5_gather_72 at hp
    refine lv_iload hx hb dX5_gather_72 (lv_at hl 3 rfl) ?_
    refine lv_aload_n hx hb dX5_gather_74 rfl (lv_at hl 0 rfl) ?_
    refine G_90_0 hC hS m1240 dX5_gather_75 ?_
    refine lv_icmp_ge (tgt := 136) hx hb dX5_gather_78 (by decide) (fun c_1 => ?_) (fun c_1 => ?_)
    · have hp := hp.1 c_1
      exact hR _ _ _ _ _ dX5_gather_136 hp hS
    · have hp := hp.2 c_1
      refine lv_iconst hx hb dX5_gather_81 kI_0 ?_
      refine lv_istore (lv' := [(5, .int (0 : Int32)), (0, .ref (g.2.2 90)), (1, .ref (g.2.2 70)), (3, .int x3), (4, .int x4)]) hx hb dX5_gather_82 hl (by decide) rfl (fun ls hl => ?_)
      obtain ⟨n9, hp⟩ := hp
      exact bX5_gather_84 hC hR ih n9 x3 x4 (0 : Int32) w _ _ _ hp hS (lv_sub hl [1, 2, 3, 4, 0] rfl)
set_option maxHeartbeats 4000000 in
set_option maxRecDepth 100000 in
theorem bX5_gather_69 {p : Program} {l : Launch} {e : Env} {s : State} {m : MethodId} {args : Array Value} {below : List Frame} {meth : Method} {c : Code} {Q : State → Prop} {A : Nat → Prop} {g : Gw} {post : Wd → Prop}  (hC : Cx p s m args c cX5_gather RX5 6 g) (hR : RtV tabX p l e (rk 3) s m args below meth c Q cX5_gather A g post)  : ∀ (x3 : Int32) (w : Wd) (H : Heap) (locs : List Loc) (ls : Array Slot), pX5_gather_69 post x3 w → St tabX A s.heap g w H locs → lv_has ls 6 [(0, .ref (g.2.2 90)), (1, .ref (g.2.2 70)), (3, .int x3)] → W p l e (rk 3) s m args below meth c H locs 0 0 Q (F0 m 69 ls []) := by
  have hx := hC.1
  have hb := hC.2.1
  intro x3 w H locs ls hp hS hl
  unfold pX5_gather_69 at hp
  refine lv_iconst hx hb dX5_gather_69 kI_0 ?_
  refine lv_istore (lv' := [(4, .int (0 : Int32)), (0, .ref (g.2.2 90)), (1, .ref (g.2.2 70)), (3, .int x3)]) hx hb dX5_gather_70 hl (by decide) rfl (fun ls hl => ?_)
  obtain ⟨n9, hp⟩ := hp
  exact bX5_gather_72 hC hR n9 x3 (0 : Int32) w _ _ _ hp hS (lv_sub hl [1, 2, 3, 0] rfl)
set_option maxHeartbeats 4000000 in
set_option maxRecDepth 100000 in
theorem bX5_gather_63 {p : Program} {l : Launch} {e : Env} {s : State} {m : MethodId} {args : Array Value} {below : List Frame} {meth : Method} {c : Code} {Q : State → Prop} {A : Nat → Prop} {g : Gw} {post : Wd → Prop}  (hC : Cx p s m args c cX5_gather RX5 6 g) (hR : RtV tabX p l e (rk 3) s m args below meth c Q cX5_gather A g post)  {k8 : Int32 → Int32 → Int32 → Wd → Prop} (hk8 : ∀ (x2 : Int32) (x3 : Int32) (x4 : Int32) (w : Wd) (H : Heap) (locs : List Loc) (ls : Array Slot), k8 x2 x3 x4 w → St tabX A s.heap g w H locs → lv_has ls 6 [(0, .ref (g.2.2 90)), (1, .ref (g.2.2 70)), (2, .int x2), (3, .int x3), (4, .int x4)] → W p l e (rk 3) s m args below meth c H locs 0 0 Q (F0 m 8 ls [])) : ∀ (x2 : Int32) (x3 : Int32) (x4 : Int32) (w : Wd) (H : Heap) (locs : List Loc) (ls : Array Slot), pX5_gather_63 k8 post x2 x3 x4 w → St tabX A s.heap g w H locs → lv_has ls 6 [(0, .ref (g.2.2 90)), (1, .ref (g.2.2 70)), (2, .int x2), (3, .int x3), (4, .int x4)] → W p l e (rk 3) s m args below meth c H locs 0 0 Q (F0 m 63 ls []) := by
  have hx := hC.1
  have hb := hC.2.1
  intro x2 x3 x4 w H locs ls hp hS hl
  unfold pX5_gather_63 at hp
  obtain ⟨x4_1, ex4_1⟩ : ∃ y : Int32, y = x4 + (1 : Int32) := ⟨_, rfl⟩
  have hp := hp x4_1 ex4_1
  refine lv_iinc (v := x4_1) (lv' := [(4, .int x4_1), (0, .ref (g.2.2 90)), (1, .ref (g.2.2 70)), (2, .int x2), (3, .int x3)]) hx hb dX5_gather_63 hl (k := 4) rfl (by rw [ex4_1]; rfl) (by decide) rfl (fun ls hl => ?_)
  refine lv_goto (tgt := 8) hx hb dX5_gather_66 (by decide) ?_
  exact hk8 x2 x3 x4_1 w _ _ _ hp hS (lv_sub hl [1, 2, 3, 4, 0] rfl)
set_option maxHeartbeats 4000000 in
set_option maxRecDepth 100000 in
theorem bX5_gather_8 {p : Program} {l : Launch} {e : Env} {s : State} {m : MethodId} {args : Array Value} {below : List Frame} {meth : Method} {c : Code} {Q : State → Prop} {A : Nat → Prop} {g : Gw} {post : Wd → Prop}  (hC : Cx p s m args c cX5_gather RX5 6 g) (hR : RtV tabX p l e (rk 3) s m args below meth c Q cX5_gather A g post)  : ∀ (n : Nat) (x2 : Int32) (x3 : Int32) (x4 : Int32) (w : Wd) (H : Heap) (locs : List Loc) (ls : Array Slot), pX5_gather_8 post n x2 x3 x4 w → St tabX A s.heap g w H locs → lv_has ls 6 [(0, .ref (g.2.2 90)), (1, .ref (g.2.2 70)), (2, .int x2), (3, .int x3), (4, .int x4)] → W p l e (rk 3) s m args below meth c H locs 0 0 Q (F0 m 8 ls []) := by
  have hx := hC.1
  have hb := hC.2.1
  intro n
  induction n with
  | zero =>
    intro x2 x3 x4 w H locs ls hp hS hl
    exact False.elim hp
  | succ n ih =>
    intro x2 x3 x4 w H locs ls hp hS hl
    unfold pX5_gather_8 at hp
    refine lv_iload hx hb dX5_gather_8 (lv_at hl 4 rfl) ?_
    refine lv_aload_n hx hb dX5_gather_10 rfl (lv_at hl 1 rfl) ?_
    refine G_70_0 hC hS m1241 dX5_gather_11 ?_
    refine lv_icmp_ge (tgt := 69) hx hb dX5_gather_14 (by decide) (fun c_1 => ?_) (fun c_1 => ?_)
    · have hp := hp.1 c_1
      exact bX5_gather_69 hC hR x3 w _ _ _ hp hS (lv_sub hl [0, 1, 3] rfl)
    · have hp := hp.2 c_1
      refine lv_aload_n hx hb dX5_gather_17 rfl (lv_at hl 0 rfl) ?_
      refine G_90_0 hC hS m1240 dX5_gather_18 ?_
      refine lv_bipush hx hb dX5_gather_21 kB_7 ?_
      refine lv_icmp_ge (tgt := 69) hx hb dX5_gather_23 (by decide) (fun c_2 => ?_) (fun c_2 => ?_)
      · have hp := hp.1 c_2
        exact bX5_gather_69 hC hR x3 w _ _ _ hp hS (lv_sub hl [0, 1, 3] rfl)
      · have hp := hp.2 c_2
        refine lv_aload_n hx hb dX5_gather_26 rfl (lv_at hl 1 rfl) ?_
        refine lv_iload hx hb dX5_gather_27 (lv_at hl 4 rfl) ?_
        refine lv_iconst hx hb dX5_gather_29 kI_0 ?_
        refine lv_iload_n hx hb dX5_gather_30 rfl (lv_at hl 2 rfl) ?_
        refine q_cvI (As := [.int x4, .int (0 : Int32), .int x2]) (rest := []) hC hS hl.1 (rX3_counts hp) cwX5_37 yvX3_counts (rcv_70 hC hS) rfl rfl (Nat.le_of_ble_eq_true rfl) (rmk (by decide) (by decide)) dX5_gather_31 (fun r_3 w_4 H locs hp hS => ?_)
        refine lv_if_eq (tgt := 63) hx hb dX5_gather_34 (by decide) (fun c_5 => ?_) (fun c_5 => ?_)
        · have hp := hp.1 c_5
          exact bX5_gather_63 hC hR ih x2 x3 x4 w_4 _ _ _ hp hS (lv_sub hl [0, 1, 2, 3, 4] rfl)
        · have hp := hp.2 c_5
          refine lv_aload_n hx hb dX5_gather_37 rfl (lv_at hl 0 rfl) ?_
          refine G_90_4 hC hS m208 dX5_gather_38 ?_
          refine lv_aload_n hx hb dX5_gather_41 rfl (lv_at hl 0 rfl) ?_
          refine G_90_0 hC hS m1240 dX5_gather_42 ?_
          refine lv_aload_n hx hb dX5_gather_45 rfl (lv_at hl 1 rfl) ?_
          refine G_70_3 hC hS m1242 dX5_gather_46 ?_
          refine lv_iload hx hb dX5_gather_49 (lv_at hl 4 rfl) ?_
          refine La_74 hC hS hp.1 dX5_gather_51 ?_
          have hp := hp.2
          refine Sa_95 hC hS hp.1 dX5_gather_52 (fun w_6 H locs ew_6 hS => ?_)
          have hp := hp.2
          have hp := hp w_6 ew_6
          refine lv_aload_n hx hb dX5_gather_53 rfl (lv_at hl 0 rfl) ?_
          refine lv_dup hx hb dX5_gather_54 rfl ?_
          refine G_90_0 hC hS m1240 dX5_gather_55 ?_
          refine lv_iconst hx hb dX5_gather_58 kI_1 ?_
          refine lv_iadd hx hb dX5_gather_59 ?_
          refine P_90_0 hC hS m1240 dX5_gather_60 (fun w_7 H locs ew_7 hS => ?_)
          have hp := hp w_7 ew_7
          exact bX5_gather_63 hC hR ih x2 x3 x4 w_7 _ _ _ hp hS (lv_sub hl [0, 1, 2, 3, 4] rfl)
set_option maxHeartbeats 4000000 in
set_option maxRecDepth 100000 in
theorem rX5_gather {l : Launch} {g : Gw} {w : Wd} {post : Wd → Prop}   {x2 : Int32} {x3 : Int32} (hp : pX5_gather post x2 x3 w) : MtV tabX l yX5_gather cX5_gather 6 none 3 g w [.ref (g.2.2 90), .ref (g.2.2 70), .int x2, .int x3] post := by
  refine q_entV tabX_nd (by decide) rfl (Nat.le_of_ble_eq_true rfl) ?_
  intro p e s m args below meth c A Q ls hC hR hS hl
  have hx := hC.1
  have hb := hC.2.1
  have hl : lv_has ls 6 [(0, .ref (g.2.2 90)), (1, .ref (g.2.2 70)), (2, .int x2), (3, .int x3)] := hl
  unfold pX5_gather at hp
  refine lv_aload_n hx hb dX5_gather_0 rfl (lv_at hl 0 rfl) ?_
  refine lv_iconst hx hb dX5_gather_1 kI_0 ?_
  refine P_90_0 hC hS m1240 dX5_gather_2 (fun w_1 H locs ew_1 hS => ?_)
  have hp := hp w_1 ew_1
  refine lv_iconst hx hb dX5_gather_5 kI_0 ?_
  refine lv_istore (lv' := [(4, .int (0 : Int32)), (0, .ref (g.2.2 90)), (1, .ref (g.2.2 70)), (2, .int x2), (3, .int x3)]) hx hb dX5_gather_6 hl (by decide) rfl (fun ls hl => ?_)
  obtain ⟨n9, hp⟩ := hp
  exact bX5_gather_8 hC hR n9 x2 x3 (0 : Int32) w_1 _ _ _ hp hS (lv_sub hl [1, 2, 3, 4, 0] rfl)
def pX5_changesFrom (post : Int32 → Wd → Prop) (x1 : Int32) (x2 : Int32) (w : Wd) : Prop := vp_in ((x1 * (7 : Int32)) + x2) 49 ∧ post (w.2.1 96 ((x1 * (7 : Int32)) + x2).toNatClampNeg) w
set_option maxHeartbeats 4000000 in
set_option maxRecDepth 100000 in
theorem rX5_changesFrom {l : Launch} {g : Gw} {w : Wd} {post : Int32 → Wd → Prop}   {x1 : Int32} {x2 : Int32} (hp : pX5_changesFrom post x1 x2 w) : MtI tabX l yX5_changesFrom cX5_changesFrom 3 (some .int) 1 g w [.ref (g.2.2 90), .int x1, .int x2] post := by
  refine q_entI tabX_nd (by decide) rfl (Nat.le_of_ble_eq_true rfl) ?_
  intro p e s m args below meth c A Q ls hC hR hS hl
  have hx := hC.1
  have hb := hC.2.1
  have hl : lv_has ls 3 [(0, .ref (g.2.2 90)), (1, .int x1), (2, .int x2)] := hl
  unfold pX5_changesFrom at hp
  refine lv_aload_n hx hb dX5_changesFrom_0 rfl (lv_at hl 0 rfl) ?_
  refine G_90_5 hC hS m209 dX5_changesFrom_1 ?_
  refine lv_iload_n hx hb dX5_changesFrom_4 rfl (lv_at hl 1 rfl) ?_
  refine lv_bipush hx hb dX5_changesFrom_5 kB_7 ?_
  refine lv_imul hx hb dX5_changesFrom_7 ?_
  refine lv_iload_n hx hb dX5_changesFrom_8 rfl (lv_at hl 2 rfl) ?_
  refine lv_iadd hx hb dX5_changesFrom_9 ?_
  refine La_96 hC hS hp.1 dX5_changesFrom_10 ?_
  have hp := hp.2
  exact hR _ _ _ _ _ _ dX5_changesFrom_11 hp hS
def pX5_fewestTo_40 (k16 : Int32 → Int32 → Int32 → Wd → Prop) (post : Int32 → Wd → Prop) (x1 : Int32) (x2 : Int32) (x3 : Int32) (w : Wd) : Prop := ∀ x3_1, x3_1 = x3 + (1 : Int32) → k16 x1 x2 x3_1 w
def pX5_fewestTo_16 (post : Int32 → Wd → Prop) : Nat → Int32 → Int32 → Int32 → Wd → Prop
  | 0, _, _, _, _ => False
  | n + 1, x1, x2, x3, w => ((w.1 90 0) ≤ x3 → (post x2 w)) ∧ (¬ (w.1 90 0) ≤ x3 → ((x3 = x1 → (pX5_fewestTo_40 (pX5_fewestTo_16 post n) post x1 x2 x3 w)) ∧ (¬ x3 = x1 → (pX5_changesFrom (fun r_3 w_4 => ∀ x2_5, x2_5 = (if r_3 < x2 then r_3 else x2) → pX5_fewestTo_40 (pX5_fewestTo_16 post n) post x1 x2_5 x3 w_4) x3 x1 w))))
def pX5_fewestTo (post : Int32 → Wd → Prop) (x1 : Int32) (w : Wd) : Prop := (¬ x1 = (w.1 90 6) → (∃ n9, pX5_fewestTo_16 post n9 x1 (1000 : Int32) (0 : Int32) w)) ∧ (x1 = (w.1 90 6) → (post (0 : Int32) w))
set_option maxHeartbeats 4000000 in
set_option maxRecDepth 100000 in
theorem bX5_fewestTo_40 {p : Program} {l : Launch} {e : Env} {s : State} {m : MethodId} {args : Array Value} {below : List Frame} {meth : Method} {c : Code} {Q : State → Prop} {A : Nat → Prop} {g : Gw} {post : Int32 → Wd → Prop}  (hC : Cx p s m args c cX5_fewestTo RX5 4 g) (hR : RtI tabX p l e (rk 2) s m args below meth c Q cX5_fewestTo A g post)  {k16 : Int32 → Int32 → Int32 → Wd → Prop} (hk16 : ∀ (x1 : Int32) (x2 : Int32) (x3 : Int32) (w : Wd) (H : Heap) (locs : List Loc) (ls : Array Slot), k16 x1 x2 x3 w → St tabX A s.heap g w H locs → lv_has ls 4 [(0, .ref (g.2.2 90)), (1, .int x1), (2, .int x2), (3, .int x3)] → W p l e (rk 2) s m args below meth c H locs 0 0 Q (F0 m 16 ls [])) : ∀ (x1 : Int32) (x2 : Int32) (x3 : Int32) (w : Wd) (H : Heap) (locs : List Loc) (ls : Array Slot), pX5_fewestTo_40 k16 post x1 x2 x3 w → St tabX A s.heap g w H locs → lv_has ls 4 [(0, .ref (g.2.2 90)), (1, .int x1), (2, .int x2), (3, .int x3)] → W p l e (rk 2) s m args below meth c H locs 0 0 Q (F0 m 40 ls []) := by
  have hx := hC.1
  have hb := hC.2.1
  intro x1 x2 x3 w H locs ls hp hS hl
  unfold pX5_fewestTo_40 at hp
  obtain ⟨x3_1, ex3_1⟩ : ∃ y : Int32, y = x3 + (1 : Int32) := ⟨_, rfl⟩
  have hp := hp x3_1 ex3_1
  refine lv_iinc (v := x3_1) (lv' := [(3, .int x3_1), (0, .ref (g.2.2 90)), (1, .int x1), (2, .int x2)]) hx hb dX5_fewestTo_40 hl (k := 3) rfl (by rw [ex3_1]; rfl) (by decide) rfl (fun ls hl => ?_)
  refine lv_goto (tgt := 16) hx hb dX5_fewestTo_43 (by decide) ?_
  exact hk16 x1 x2 x3_1 w _ _ _ hp hS (lv_sub hl [1, 2, 3, 0] rfl)
set_option maxHeartbeats 4000000 in
set_option maxRecDepth 100000 in
theorem bX5_fewestTo_16 {p : Program} {l : Launch} {e : Env} {s : State} {m : MethodId} {args : Array Value} {below : List Frame} {meth : Method} {c : Code} {Q : State → Prop} {A : Nat → Prop} {g : Gw} {post : Int32 → Wd → Prop}  (hC : Cx p s m args c cX5_fewestTo RX5 4 g) (hR : RtI tabX p l e (rk 2) s m args below meth c Q cX5_fewestTo A g post)  : ∀ (n : Nat) (x1 : Int32) (x2 : Int32) (x3 : Int32) (w : Wd) (H : Heap) (locs : List Loc) (ls : Array Slot), pX5_fewestTo_16 post n x1 x2 x3 w → St tabX A s.heap g w H locs → lv_has ls 4 [(0, .ref (g.2.2 90)), (1, .int x1), (2, .int x2), (3, .int x3)] → W p l e (rk 2) s m args below meth c H locs 0 0 Q (F0 m 16 ls []) := by
  have hx := hC.1
  have hb := hC.2.1
  intro n
  induction n with
  | zero =>
    intro x1 x2 x3 w H locs ls hp hS hl
    exact False.elim hp
  | succ n ih =>
    intro x1 x2 x3 w H locs ls hp hS hl
    unfold pX5_fewestTo_16 at hp
    refine lv_iload_n hx hb dX5_fewestTo_16 rfl (lv_at hl 3 rfl) ?_
    refine lv_aload_n hx hb dX5_fewestTo_17 rfl (lv_at hl 0 rfl) ?_
    refine G_90_0 hC hS m1240 dX5_fewestTo_18 ?_
    refine lv_icmp_ge (tgt := 46) hx hb dX5_fewestTo_21 (by decide) (fun c_1 => ?_) (fun c_1 => ?_)
    · have hp := hp.1 c_1
      refine lv_iload_n hx hb dX5_fewestTo_46 rfl (lv_at hl 2 rfl) ?_
      exact hR _ _ _ _ _ _ dX5_fewestTo_47 hp hS
    · have hp := hp.2 c_1
      refine lv_iload_n hx hb dX5_fewestTo_24 rfl (lv_at hl 3 rfl) ?_
      refine lv_iload_n hx hb dX5_fewestTo_25 rfl (lv_at hl 1 rfl) ?_
      refine lv_icmp_eq (tgt := 40) hx hb dX5_fewestTo_26 (by decide) (fun c_2 => ?_) (fun c_2 => ?_)
      · have hp := hp.1 c_2
        exact bX5_fewestTo_40 hC hR ih x1 x2 x3 w _ _ _ hp hS (lv_sub hl [0, 1, 2, 3] rfl)
      · have hp := hp.2 c_2
        refine lv_iload_n hx hb dX5_fewestTo_29 rfl (lv_at hl 2 rfl) ?_
        refine lv_aload_n hx hb dX5_fewestTo_30 rfl (lv_at hl 0 rfl) ?_
        refine lv_iload_n hx hb dX5_fewestTo_31 rfl (lv_at hl 3 rfl) ?_
        refine lv_iload_n hx hb dX5_fewestTo_32 rfl (lv_at hl 1 rfl) ?_
        refine q_cvI (As := [.int x3, .int x1]) (rest := [.int x2]) hC hS hl.1 (rX5_changesFrom hp) cwX5_47 yvX5_changesFrom (rcv_90 hC hS) rfl rfl (Nat.le_of_ble_eq_true rfl) (rmk (by decide) (by decide)) dX5_fewestTo_33 (fun r_3 w_4 H locs hp hS => ?_)
        refine q_min hC hl.1 m1260 m347 m348 m349 (rmm (by decide) (Nat.le_of_ble_eq_true rfl)) dX5_fewestTo_36 ?_
        refine lv_topi (fun x2_5 ex2_5 => ?_)
        have hp := hp x2_5 ex2_5
        refine lv_istore_n (lv' := [(2, .int x2_5), (0, .ref (g.2.2 90)), (1, .int x1), (3, .int x3)]) hx hb dX5_fewestTo_39 rfl hl (by decide) rfl (fun ls hl => ?_)
        exact bX5_fewestTo_40 hC hR ih x1 x2_5 x3 w_4 _ _ _ hp hS (lv_sub hl [1, 2, 0, 3] rfl)
set_option maxHeartbeats 4000000 in
set_option maxRecDepth 100000 in
theorem rX5_fewestTo {l : Launch} {g : Gw} {w : Wd} {post : Int32 → Wd → Prop}   {x1 : Int32} (hp : pX5_fewestTo post x1 w) : MtI tabX l yX5_fewestTo cX5_fewestTo 4 (some .int) 2 g w [.ref (g.2.2 90), .int x1] post := by
  refine q_entI tabX_nd (by decide) rfl (Nat.le_of_ble_eq_true rfl) ?_
  intro p e s m args below meth c A Q ls hC hR hS hl
  have hx := hC.1
  have hb := hC.2.1
  have hl : lv_has ls 4 [(0, .ref (g.2.2 90)), (1, .int x1)] := hl
  unfold pX5_fewestTo at hp
  refine lv_iload_n hx hb dX5_fewestTo_0 rfl (lv_at hl 1 rfl) ?_
  refine lv_aload_n hx hb dX5_fewestTo_1 rfl (lv_at hl 0 rfl) ?_
  refine G_90_6 hC hS m1253 dX5_fewestTo_2 ?_
  refine lv_icmp_ne (tgt := 10) hx hb dX5_fewestTo_5 (by decide) (fun c_1 => ?_) (fun c_1 => ?_)
  · have hp := hp.1 c_1
    refine lv_sipush hx hb dX5_fewestTo_10 kS_1000 ?_
    refine lv_istore_n (lv' := [(2, .int (1000 : Int32)), (0, .ref (g.2.2 90)), (1, .int x1)]) hx hb dX5_fewestTo_13 rfl hl (by decide) rfl (fun ls hl => ?_)
    refine lv_iconst hx hb dX5_fewestTo_14 kI_0 ?_
    refine lv_istore_n (lv' := [(3, .int (0 : Int32)), (2, .int (1000 : Int32)), (0, .ref (g.2.2 90)), (1, .int x1)]) hx hb dX5_fewestTo_15 rfl hl (by decide) rfl (fun ls hl => ?_)
    obtain ⟨n9, hp⟩ := hp
    exact bX5_fewestTo_16 hC hR n9 x1 (1000 : Int32) (0 : Int32) w _ _ _ hp hS (lv_sub hl [2, 3, 1, 0] rfl)
  · have hp := hp.2 c_1
    refine lv_iconst hx hb dX5_fewestTo_8 kI_0 ?_
    exact hR _ _ _ _ _ _ dX5_fewestTo_9 hp hS
def pX5_comesFrom_5 (post : Int32 → Wd → Prop) : Nat → Int32 → Int32 → Int32 → Wd → Prop
  | 0, _, _, _, _ => False
  | n + 1, x2, x3, x4, w => ((7 : Int32) ≤ x4 → ((¬ x3 = x2 → (post (0 : Int32) w)) ∧ (x3 = x2 → (post (1 : Int32) w)))) ∧ (¬ (7 : Int32) ≤ x4 → ((x3 = x2 → ((¬ x3 = x2 → (post (0 : Int32) w)) ∧ (x3 = x2 → (post (1 : Int32) w)))) ∧ (¬ x3 = x2 → ((x3 = (-1 : Int32) → ((¬ x3 = x2 → (post (0 : Int32) w)) ∧ (x3 = x2 → (post (1 : Int32) w)))) ∧ (¬ x3 = (-1 : Int32) → (vp_in x3 7 ∧ ∀ x3_7, x3_7 = (w.2.1 98 x3.toNatClampNeg) → ∀ x4_8, x4_8 = x4 + (1 : Int32) → pX5_comesFrom_5 post n x2 x3_7 x4_8 w))))))
def pX5_comesFrom (post : Int32 → Wd → Prop) (x1 : Int32) (x2 : Int32) (w : Wd) : Prop := ∃ n9, pX5_comesFrom_5 post n9 x2 x1 (0 : Int32) w
set_option maxHeartbeats 4000000 in
set_option maxRecDepth 100000 in
theorem bX5_comesFrom_5 {p : Program} {l : Launch} {e : Env} {s : State} {m : MethodId} {args : Array Value} {below : List Frame} {meth : Method} {c : Code} {Q : State → Prop} {A : Nat → Prop} {g : Gw} {post : Int32 → Wd → Prop}  (hC : Cx p s m args c cX5_comesFrom RX5 5 g) (hR : RtZ tabX p l e (rk 1) s m args below meth c Q cX5_comesFrom A g post)  : ∀ (n : Nat) (x2 : Int32) (x3 : Int32) (x4 : Int32) (w : Wd) (H : Heap) (locs : List Loc) (ls : Array Slot), pX5_comesFrom_5 post n x2 x3 x4 w → St tabX A s.heap g w H locs → lv_has ls 5 [(0, .ref (g.2.2 90)), (2, .int x2), (3, .int x3), (4, .int x4)] → W p l e (rk 1) s m args below meth c H locs 0 0 Q (F0 m 5 ls []) := by
  have hx := hC.1
  have hb := hC.2.1
  intro n
  induction n with
  | zero =>
    intro x2 x3 x4 w H locs ls hp hS hl
    exact False.elim hp
  | succ n ih =>
    intro x2 x3 x4 w H locs ls hp hS hl
    unfold pX5_comesFrom_5 at hp
    refine lv_iload hx hb dX5_comesFrom_5 (lv_at hl 3 rfl) ?_
    refine lv_bipush hx hb dX5_comesFrom_7 kB_7 ?_
    refine lv_icmp_ge (tgt := 35) hx hb dX5_comesFrom_9 (by decide) (fun c_1 => ?_) (fun c_1 => ?_)
    · have hp := hp.1 c_1
      refine lv_iload_n hx hb dX5_comesFrom_35 rfl (lv_at hl 2 rfl) ?_
      refine lv_iload_n hx hb dX5_comesFrom_36 rfl (lv_at hl 1 rfl) ?_
      refine lv_icmp_ne (tgt := 44) hx hb dX5_comesFrom_37 (by decide) (fun c_2 => ?_) (fun c_2 => ?_)
      · have hp := hp.1 c_2
        refine lv_iconst hx hb dX5_comesFrom_44 kI_0 ?_
        exact hR _ _ _ _ _ _ dX5_comesFrom_45 (by decide) hp hS
      · have hp := hp.2 c_2
        refine lv_iconst hx hb dX5_comesFrom_40 kI_1 ?_
        refine lv_goto (tgt := 45) hx hb dX5_comesFrom_41 (by decide) ?_
        exact hR _ _ _ _ _ _ dX5_comesFrom_45 (by decide) hp hS
    · have hp := hp.2 c_1
      refine lv_iload_n hx hb dX5_comesFrom_12 rfl (lv_at hl 2 rfl) ?_
      refine lv_iload_n hx hb dX5_comesFrom_13 rfl (lv_at hl 1 rfl) ?_
      refine lv_icmp_eq (tgt := 35) hx hb dX5_comesFrom_14 (by decide) (fun c_3 => ?_) (fun c_3 => ?_)
      · have hp := hp.1 c_3
        refine lv_iload_n hx hb dX5_comesFrom_35 rfl (lv_at hl 2 rfl) ?_
        refine lv_iload_n hx hb dX5_comesFrom_36 rfl (lv_at hl 1 rfl) ?_
        refine lv_icmp_ne (tgt := 44) hx hb dX5_comesFrom_37 (by decide) (fun c_4 => ?_) (fun c_4 => ?_)
        · have hp := hp.1 c_4
          refine lv_iconst hx hb dX5_comesFrom_44 kI_0 ?_
          exact hR _ _ _ _ _ _ dX5_comesFrom_45 (by decide) hp hS
        · have hp := hp.2 c_4
          refine lv_iconst hx hb dX5_comesFrom_40 kI_1 ?_
          refine lv_goto (tgt := 45) hx hb dX5_comesFrom_41 (by decide) ?_
          exact hR _ _ _ _ _ _ dX5_comesFrom_45 (by decide) hp hS
      · have hp := hp.2 c_3
        refine lv_iload_n hx hb dX5_comesFrom_17 rfl (lv_at hl 2 rfl) ?_
        refine lv_iconst hx hb dX5_comesFrom_18 kI_m1 ?_
        refine lv_icmp_eq (tgt := 35) hx hb dX5_comesFrom_19 (by decide) (fun c_5 => ?_) (fun c_5 => ?_)
        · have hp := hp.1 c_5
          refine lv_iload_n hx hb dX5_comesFrom_35 rfl (lv_at hl 2 rfl) ?_
          refine lv_iload_n hx hb dX5_comesFrom_36 rfl (lv_at hl 1 rfl) ?_
          refine lv_icmp_ne (tgt := 44) hx hb dX5_comesFrom_37 (by decide) (fun c_6 => ?_) (fun c_6 => ?_)
          · have hp := hp.1 c_6
            refine lv_iconst hx hb dX5_comesFrom_44 kI_0 ?_
            exact hR _ _ _ _ _ _ dX5_comesFrom_45 (by decide) hp hS
          · have hp := hp.2 c_6
            refine lv_iconst hx hb dX5_comesFrom_40 kI_1 ?_
            refine lv_goto (tgt := 45) hx hb dX5_comesFrom_41 (by decide) ?_
            exact hR _ _ _ _ _ _ dX5_comesFrom_45 (by decide) hp hS
        · have hp := hp.2 c_5
          refine lv_aload_n hx hb dX5_comesFrom_22 rfl (lv_at hl 0 rfl) ?_
          refine G_90_7 hC hS m210 dX5_comesFrom_23 ?_
          refine lv_iload_n hx hb dX5_comesFrom_26 rfl (lv_at hl 2 rfl) ?_
          refine La_98 hC hS hp.1 dX5_comesFrom_27 ?_
          have hp := hp.2
          refine lv_topi (fun x3_7 ex3_7 => ?_)
          have hp := hp x3_7 ex3_7
          refine lv_istore_n (lv' := [(3, .int x3_7), (0, .ref (g.2.2 90)), (2, .int x2), (4, .int x4)]) hx hb dX5_comesFrom_28 rfl hl (by decide) rfl (fun ls hl => ?_)
          obtain ⟨x4_8, ex4_8⟩ : ∃ y : Int32, y = x4 + (1 : Int32) := ⟨_, rfl⟩
          have hp := hp x4_8 ex4_8
          refine lv_iinc (v := x4_8) (lv' := [(4, .int x4_8), (3, .int x3_7), (0, .ref (g.2.2 90)), (2, .int x2)]) hx hb dX5_comesFrom_29 hl (k := 3) rfl (by rw [ex4_8]; rfl) (by decide) rfl (fun ls hl => ?_)
          refine lv_goto (tgt := 5) hx hb dX5_comesFrom_32 (by decide) ?_
          exact ih x2 x3_7 x4_8 w _ _ _ hp hS (lv_sub hl [2, 3, 1, 0] rfl)
set_option maxHeartbeats 4000000 in
set_option maxRecDepth 100000 in
theorem rX5_comesFrom {l : Launch} {g : Gw} {w : Wd} {post : Int32 → Wd → Prop}   {x1 : Int32} {x2 : Int32} (hp : pX5_comesFrom post x1 x2 w) : MtI tabX l yX5_comesFrom cX5_comesFrom 5 (some .boolean) 1 g w [.ref (g.2.2 90), .int x1, .int x2] post := by
  refine q_entZ tabX_nd (by decide) rfl (Nat.le_of_ble_eq_true rfl) ?_
  intro p e s m args below meth c A Q ls hC hR hS hl
  have hx := hC.1
  have hb := hC.2.1
  have hl : lv_has ls 5 [(0, .ref (g.2.2 90)), (1, .int x1), (2, .int x2)] := hl
  unfold pX5_comesFrom at hp
  refine lv_iload_n hx hb dX5_comesFrom_0 rfl (lv_at hl 1 rfl) ?_
  refine lv_istore_n (lv' := [(3, .int x1), (0, .ref (g.2.2 90)), (1, .int x1), (2, .int x2)]) hx hb dX5_comesFrom_1 rfl hl (by decide) rfl (fun ls hl => ?_)
  refine lv_iconst hx hb dX5_comesFrom_2 kI_0 ?_
  refine lv_istore (lv' := [(4, .int (0 : Int32)), (3, .int x1), (0, .ref (g.2.2 90)), (1, .int x1), (2, .int x2)]) hx hb dX5_comesFrom_3 hl (by decide) rfl (fun ls hl => ?_)
  obtain ⟨n9, hp⟩ := hp
  exact bX5_comesFrom_5 hC hR n9 x2 x1 (0 : Int32) w _ _ _ hp hS (lv_sub hl [2, 4, 1, 0] rfl)
def pX5_keepTree (post : Wd → Prop) (x1 : Int32) (w : Wd) : Prop := ((w.1 90 1) ≤ x1 → (∀ w_2, w_2 = sI w 90 2 ((w.1 90 2) + (1 : Int32)) → post w_2)) ∧ (¬ (w.1 90 1) ≤ x1 → (∀ w_3, w_3 = sI w 90 1 x1 → ∀ w_4, w_4 = sI w_3 90 2 (0 : Int32) → ∀ w_5, w_5 = sC w_4 94 (va_cpy (w_4.2.1 98) (w_4.2.1 94) 0 0 7) → ∀ w_6, w_6 = sI w_5 90 2 ((w_5.1 90 2) + (1 : Int32)) → post w_6))
set_option maxHeartbeats 4000000 in
set_option maxRecDepth 100000 in
theorem rX5_keepTree {l : Launch} {g : Gw} {w : Wd} {post : Wd → Prop}   {x1 : Int32} (hp : pX5_keepTree post x1 w) : MtV tabX l yX5_keepTree cX5_keepTree 2 none 1 g w [.ref (g.2.2 90), .int x1] post := by
  refine q_entV tabX_nd (by decide) rfl (Nat.le_of_ble_eq_true rfl) ?_
  intro p e s m args below meth c A Q ls hC hR hS hl
  have hx := hC.1
  have hb := hC.2.1
  have hl : lv_has ls 2 [(0, .ref (g.2.2 90)), (1, .int x1)] := hl
  unfold pX5_keepTree at hp
  refine lv_iload_n hx hb dX5_keepTree_0 rfl (lv_at hl 1 rfl) ?_
  refine lv_aload_n hx hb dX5_keepTree_1 rfl (lv_at hl 0 rfl) ?_
  refine G_90_1 hC hS m1254 dX5_keepTree_2 ?_
  refine lv_icmp_ge (tgt := 33) hx hb dX5_keepTree_5 (by decide) (fun c_1 => ?_) (fun c_1 => ?_)
  · have hp := hp.1 c_1
    refine lv_aload_n hx hb dX5_keepTree_33 rfl (lv_at hl 0 rfl) ?_
    refine lv_dup hx hb dX5_keepTree_34 rfl ?_
    refine G_90_2 hC hS m1255 dX5_keepTree_35 ?_
    refine lv_iconst hx hb dX5_keepTree_38 kI_1 ?_
    refine lv_iadd hx hb dX5_keepTree_39 ?_
    refine P_90_2 hC hS m1255 dX5_keepTree_40 (fun w_2 H locs ew_2 hS => ?_)
    have hp := hp w_2 ew_2
    exact hR _ _ _ _ _ dX5_keepTree_43 hp hS
  · have hp := hp.2 c_1
    refine lv_aload_n hx hb dX5_keepTree_8 rfl (lv_at hl 0 rfl) ?_
    refine lv_iload_n hx hb dX5_keepTree_9 rfl (lv_at hl 1 rfl) ?_
    refine P_90_1 hC hS m1254 dX5_keepTree_10 (fun w_3 H locs ew_3 hS => ?_)
    have hp := hp w_3 ew_3
    refine lv_aload_n hx hb dX5_keepTree_13 rfl (lv_at hl 0 rfl) ?_
    refine lv_iconst hx hb dX5_keepTree_14 kI_0 ?_
    refine P_90_2 hC hS m1255 dX5_keepTree_15 (fun w_4 H locs ew_4 hS => ?_)
    have hp := hp w_4 ew_4
    refine lv_aload_n hx hb dX5_keepTree_18 rfl (lv_at hl 0 rfl) ?_
    refine G_90_7 hC hS m210 dX5_keepTree_19 ?_
    refine lv_iconst hx hb dX5_keepTree_22 kI_0 ?_
    refine lv_aload_n hx hb dX5_keepTree_23 rfl (lv_at hl 0 rfl) ?_
    refine G_90_3 hC hS m207 dX5_keepTree_24 ?_
    refine lv_iconst hx hb dX5_keepTree_27 kI_0 ?_
    refine lv_bipush hx hb dX5_keepTree_28 kB_7 ?_
    refine Cp_98_94 hC hS hl.1 m1273 m796 m797 m798 (by decide) (by decide) (by decide) (by decide) (by decide) (rmc (by decide) (Nat.le_of_ble_eq_true rfl)) dX5_keepTree_30 (fun w_5 H locs ew_5 hS => ?_)
    have hp := hp w_5 ew_5
    refine lv_aload_n hx hb dX5_keepTree_33 rfl (lv_at hl 0 rfl) ?_
    refine lv_dup hx hb dX5_keepTree_34 rfl ?_
    refine G_90_2 hC hS m1255 dX5_keepTree_35 ?_
    refine lv_iconst hx hb dX5_keepTree_38 kI_1 ?_
    refine lv_iadd hx hb dX5_keepTree_39 ?_
    refine P_90_2 hC hS m1255 dX5_keepTree_40 (fun w_6 H locs ew_6 hS => ?_)
    have hp := hp w_6 ew_6
    exact hR _ _ _ _ _ dX5_keepTree_43 hp hS
def pX5_grow_107 (k61 : Int32 → Int32 → Int32 → Wd → Prop) (qX5_grow : (Wd → Prop) → Int32 → Int32 → Wd → Prop) (post : Wd → Prop) (x1 : Int32) (x2 : Int32) (x3 : Int32) (w : Wd) : Prop := ∀ x3_1, x3_1 = x3 + (1 : Int32) → k61 x1 x2 x3_1 w
def pX5_grow_61 (qX5_grow : (Wd → Prop) → Int32 → Int32 → Wd → Prop) (post : Wd → Prop) : Nat → Int32 → Int32 → Int32 → Wd → Prop
  | 0, _, _, _, _ => False
  | n + 1, x1, x2, x3, w => ((w.1 90 0) ≤ x3 → (post w)) ∧ (¬ (w.1 90 0) ≤ x3 → (pX5_comesFrom (fun r_2 w_3 => (¬ r_2 = 0 → (pX5_grow_107 (pX5_grow_61 qX5_grow post n) qX5_grow post x1 x2 x3 w_3)) ∧ (r_2 = 0 → (vp_in x1 7 ∧ ∀ w_5, w_5 = sA w_3 98 x1.toNatClampNeg x3 → pX5_changesFrom (fun r_6 w_7 => qX5_grow (fun w_8 => vp_in x1 7 ∧ ∀ w_9, w_9 = sA w_8 98 x1.toNatClampNeg (-1 : Int32) → pX5_grow_107 (pX5_grow_61 qX5_grow post n) qX5_grow post x1 x2 x3 w_9) (x1 + (1 : Int32)) (x2 + r_6) w_7) x3 x1 w_5))) x3 x1 w))
def pX5_grow (qX5_grow : (Wd → Prop) → Int32 → Int32 → Wd → Prop) (post : Wd → Prop) (x1 : Int32) (x2 : Int32) (w : Wd) : Prop := ((w.1 90 0) < x1 → (post w)) ∧ (¬ (w.1 90 0) < x1 → (vp_in x1 8 ∧ ((x2 + (w.2.1 99 x1.toNatClampNeg)) ≤ (w.1 90 1) → ((¬ x1 = (w.1 90 0) → ((¬ x1 = (w.1 90 6) → (∃ n9, pX5_grow_61 qX5_grow post n9 x1 x2 (0 : Int32) w)) ∧ (x1 = (w.1 90 6) → (qX5_grow (fun w_5 => post w_5) (x1 + (1 : Int32)) x2 w)))) ∧ (x1 = (w.1 90 0) → (pX5_keepTree (fun w_6 => post w_6) x2 w)))) ∧ (¬ (x2 + (w.2.1 99 x1.toNatClampNeg)) ≤ (w.1 90 1) → (post w))))
set_option maxHeartbeats 4000000 in
set_option maxRecDepth 100000 in
theorem bX5_grow_107 {p : Program} {l : Launch} {e : Env} {s : State} {m : MethodId} {args : Array Value} {below : List Frame} {meth : Method} {c : Code} {Q : State → Prop} {A : Nat → Prop} {g : Gw} {d : Nat} {qX5_grow : (Wd → Prop) → Int32 → Int32 → Wd → Prop} {post : Wd → Prop}  (hC : Cx p s m args c cX5_grow RX5 4 g) (hR : RtV tabX p l e (rk (4 + d + 1)) s m args below meth c Q cX5_grow A g post) (hqX5_grow : ∀ {post : Wd → Prop} {x1 : Int32} {x2 : Int32} {w : Wd}, qX5_grow post x1 x2 w → MtV tabX l yX5_grow cX5_grow 4 none (4 + d) g w [.ref (g.2.2 90), .int x1, .int x2] post) {k61 : Int32 → Int32 → Int32 → Wd → Prop} (hk61 : ∀ (x1 : Int32) (x2 : Int32) (x3 : Int32) (w : Wd) (H : Heap) (locs : List Loc) (ls : Array Slot), k61 x1 x2 x3 w → St tabX A s.heap g w H locs → lv_has ls 4 [(0, .ref (g.2.2 90)), (1, .int x1), (2, .int x2), (3, .int x3)] → W p l e (rk (4 + d + 1)) s m args below meth c H locs 0 0 Q (F0 m 61 ls [])) : ∀ (x1 : Int32) (x2 : Int32) (x3 : Int32) (w : Wd) (H : Heap) (locs : List Loc) (ls : Array Slot), pX5_grow_107 k61 qX5_grow post x1 x2 x3 w → St tabX A s.heap g w H locs → lv_has ls 4 [(0, .ref (g.2.2 90)), (1, .int x1), (2, .int x2), (3, .int x3)] → W p l e (rk (4 + d + 1)) s m args below meth c H locs 0 0 Q (F0 m 107 ls []) := by
  have hx := hC.1
  have hb := hC.2.1
  intro x1 x2 x3 w H locs ls hp hS hl
  unfold pX5_grow_107 at hp
  obtain ⟨x3_1, ex3_1⟩ : ∃ y : Int32, y = x3 + (1 : Int32) := ⟨_, rfl⟩
  have hp := hp x3_1 ex3_1
  refine lv_iinc (v := x3_1) (lv' := [(3, .int x3_1), (0, .ref (g.2.2 90)), (1, .int x1), (2, .int x2)]) hx hb dX5_grow_107 hl (k := 3) rfl (by rw [ex3_1]; rfl) (by decide) rfl (fun ls hl => ?_)
  refine lv_goto (tgt := 61) hx hb dX5_grow_110 (by decide) ?_
  exact hk61 x1 x2 x3_1 w _ _ _ hp hS (lv_sub hl [1, 2, 3, 0] rfl)
set_option maxHeartbeats 4000000 in
set_option maxRecDepth 100000 in
theorem bX5_grow_61 {p : Program} {l : Launch} {e : Env} {s : State} {m : MethodId} {args : Array Value} {below : List Frame} {meth : Method} {c : Code} {Q : State → Prop} {A : Nat → Prop} {g : Gw} {d : Nat} {qX5_grow : (Wd → Prop) → Int32 → Int32 → Wd → Prop} {post : Wd → Prop}  (hC : Cx p s m args c cX5_grow RX5 4 g) (hR : RtV tabX p l e (rk (4 + d + 1)) s m args below meth c Q cX5_grow A g post) (hqX5_grow : ∀ {post : Wd → Prop} {x1 : Int32} {x2 : Int32} {w : Wd}, qX5_grow post x1 x2 w → MtV tabX l yX5_grow cX5_grow 4 none (4 + d) g w [.ref (g.2.2 90), .int x1, .int x2] post) : ∀ (n : Nat) (x1 : Int32) (x2 : Int32) (x3 : Int32) (w : Wd) (H : Heap) (locs : List Loc) (ls : Array Slot), pX5_grow_61 qX5_grow post n x1 x2 x3 w → St tabX A s.heap g w H locs → lv_has ls 4 [(0, .ref (g.2.2 90)), (1, .int x1), (2, .int x2), (3, .int x3)] → W p l e (rk (4 + d + 1)) s m args below meth c H locs 0 0 Q (F0 m 61 ls []) := by
  have hx := hC.1
  have hb := hC.2.1
  intro n
  induction n with
  | zero =>
    intro x1 x2 x3 w H locs ls hp hS hl
    exact False.elim hp
  | succ n ih =>
    intro x1 x2 x3 w H locs ls hp hS hl
    unfold pX5_grow_61 at hp
    refine lv_iload_n hx hb dX5_grow_61 rfl (lv_at hl 3 rfl) ?_
    refine lv_aload_n hx hb dX5_grow_62 rfl (lv_at hl 0 rfl) ?_
    refine G_90_0 hC hS m1240 dX5_grow_63 ?_
    refine lv_icmp_ge (tgt := 113) hx hb dX5_grow_66 (by decide) (fun c_1 => ?_) (fun c_1 => ?_)
    · have hp := hp.1 c_1
      exact hR _ _ _ _ _ dX5_grow_113 hp hS
    · have hp := hp.2 c_1
      refine lv_aload_n hx hb dX5_grow_69 rfl (lv_at hl 0 rfl) ?_
      refine lv_iload_n hx hb dX5_grow_70 rfl (lv_at hl 3 rfl) ?_
      refine lv_iload_n hx hb dX5_grow_71 rfl (lv_at hl 1 rfl) ?_
      refine q_cvI (As := [.int x3, .int x1]) (rest := []) hC hS hl.1 (rX5_comesFrom hp) cwX5_77 yvX5_comesFrom (rcv_90 hC hS) rfl rfl (Nat.le_of_ble_eq_true rfl) (rmk (by omega) (by decide)) dX5_grow_72 (fun r_2 w_3 H locs hp hS => ?_)
      refine lv_if_ne (tgt := 107) hx hb dX5_grow_75 (by decide) (fun c_4 => ?_) (fun c_4 => ?_)
      · have hp := hp.1 c_4
        exact bX5_grow_107 hC hR hqX5_grow ih x1 x2 x3 w_3 _ _ _ hp hS (lv_sub hl [0, 1, 2, 3] rfl)
      · have hp := hp.2 c_4
        refine lv_aload_n hx hb dX5_grow_78 rfl (lv_at hl 0 rfl) ?_
        refine G_90_7 hC hS m210 dX5_grow_79 ?_
        refine lv_iload_n hx hb dX5_grow_82 rfl (lv_at hl 1 rfl) ?_
        refine lv_iload_n hx hb dX5_grow_83 rfl (lv_at hl 3 rfl) ?_
        refine Sa_98 hC hS hp.1 dX5_grow_84 (fun w_5 H locs ew_5 hS => ?_)
        have hp := hp.2
        have hp := hp w_5 ew_5
        refine lv_aload_n hx hb dX5_grow_85 rfl (lv_at hl 0 rfl) ?_
        refine lv_iload_n hx hb dX5_grow_86 rfl (lv_at hl 1 rfl) ?_
        refine lv_iconst hx hb dX5_grow_87 kI_1 ?_
        refine lv_iadd hx hb dX5_grow_88 ?_
        refine lv_iload_n hx hb dX5_grow_89 rfl (lv_at hl 2 rfl) ?_
        refine lv_aload_n hx hb dX5_grow_90 rfl (lv_at hl 0 rfl) ?_
        refine lv_iload_n hx hb dX5_grow_91 rfl (lv_at hl 3 rfl) ?_
        refine lv_iload_n hx hb dX5_grow_92 rfl (lv_at hl 1 rfl) ?_
        refine q_cvI (As := [.int x3, .int x1]) (rest := [.int x2, .int (x1 + (1 : Int32)), .ref (g.2.2 90)]) hC hS hl.1 (rX5_changesFrom hp) cwX5_47 yvX5_changesFrom (rcv_90 hC hS) rfl rfl (Nat.le_of_ble_eq_true rfl) (rmk (by omega) (by decide)) dX5_grow_93 (fun r_6 w_7 H locs hp hS => ?_)
        refine lv_iadd hx hb dX5_grow_96 ?_
        refine q_cvV (As := [.int (x1 + (1 : Int32)), .int (x2 + r_6)]) (rest := []) hC hS hl.1 (hqX5_grow hp) cwX5_64 yvX5_grow (rcv_90 hC hS) rfl rfl (Nat.le_of_ble_eq_true rfl) (rmk (by omega) (by decide)) dX5_grow_97 (fun w_8 H locs hp hS => ?_)
        refine lv_aload_n hx hb dX5_grow_100 rfl (lv_at hl 0 rfl) ?_
        refine G_90_7 hC hS m210 dX5_grow_101 ?_
        refine lv_iload_n hx hb dX5_grow_104 rfl (lv_at hl 1 rfl) ?_
        refine lv_iconst hx hb dX5_grow_105 kI_m1 ?_
        refine Sa_98 hC hS hp.1 dX5_grow_106 (fun w_9 H locs ew_9 hS => ?_)
        have hp := hp.2
        have hp := hp w_9 ew_9
        exact bX5_grow_107 hC hR hqX5_grow ih x1 x2 x3 w_9 _ _ _ hp hS (lv_sub hl [0, 1, 2, 3] rfl)
set_option maxHeartbeats 4000000 in
set_option maxRecDepth 100000 in
theorem rX5_grow {l : Launch} {g : Gw} {w : Wd} {d : Nat} {qX5_grow : (Wd → Prop) → Int32 → Int32 → Wd → Prop} {post : Wd → Prop}  (hqX5_grow : ∀ {post : Wd → Prop} {x1 : Int32} {x2 : Int32} {w : Wd}, qX5_grow post x1 x2 w → MtV tabX l yX5_grow cX5_grow 4 none (4 + d) g w [.ref (g.2.2 90), .int x1, .int x2] post) {x1 : Int32} {x2 : Int32} (hp : pX5_grow qX5_grow post x1 x2 w) : MtV tabX l yX5_grow cX5_grow 4 none (4 + d + 1) g w [.ref (g.2.2 90), .int x1, .int x2] post := by
  refine q_entV tabX_nd (by decide) rfl (Nat.le_of_ble_eq_true rfl) ?_
  intro p e s m args below meth c A Q ls hC hR hS hl
  have hx := hC.1
  have hb := hC.2.1
  have hl : lv_has ls 4 [(0, .ref (g.2.2 90)), (1, .int x1), (2, .int x2)] := hl
  unfold pX5_grow at hp
  refine lv_iload_n hx hb dX5_grow_0 rfl (lv_at hl 1 rfl) ?_
  refine lv_aload_n hx hb dX5_grow_1 rfl (lv_at hl 0 rfl) ?_
  refine G_90_0 hC hS m1240 dX5_grow_2 ?_
  refine lv_icmp_gt (tgt := 23) hx hb dX5_grow_5 (by decide) (fun c_1 => ?_) (fun c_1 => ?_)
  · have hp := hp.1 c_1
    exact hR _ _ _ _ _ dX5_grow_23 hp hS
  · have hp := hp.2 c_1
    refine lv_iload_n hx hb dX5_grow_8 rfl (lv_at hl 2 rfl) ?_
    refine lv_aload_n hx hb dX5_grow_9 rfl (lv_at hl 0 rfl) ?_
    refine G_90_8 hC hS m211 dX5_grow_10 ?_
    refine lv_iload_n hx hb dX5_grow_13 rfl (lv_at hl 1 rfl) ?_
    refine La_99 hC hS hp.1 dX5_grow_14 ?_
    have hp := hp.2
    refine lv_iadd hx hb dX5_grow_15 ?_
    refine lv_aload_n hx hb dX5_grow_16 rfl (lv_at hl 0 rfl) ?_
    refine G_90_1 hC hS m1254 dX5_grow_17 ?_
    refine lv_icmp_le (tgt := 24) hx hb dX5_grow_20 (by decide) (fun c_2 => ?_) (fun c_2 => ?_)
    · have hp := hp.1 c_2
      refine lv_iload_n hx hb dX5_grow_24 rfl (lv_at hl 1 rfl) ?_
      refine lv_aload_n hx hb dX5_grow_25 rfl (lv_at hl 0 rfl) ?_
      refine G_90_0 hC hS m1240 dX5_grow_26 ?_
      refine lv_icmp_ne (tgt := 40) hx hb dX5_grow_29 (by decide) (fun c_3 => ?_) (fun c_3 => ?_)
      · have hp := hp.1 c_3
        refine lv_iload_n hx hb dX5_grow_40 rfl (lv_at hl 1 rfl) ?_
        refine lv_aload_n hx hb dX5_grow_41 rfl (lv_at hl 0 rfl) ?_
        refine G_90_6 hC hS m1253 dX5_grow_42 ?_
        refine lv_icmp_ne (tgt := 59) hx hb dX5_grow_45 (by decide) (fun c_4 => ?_) (fun c_4 => ?_)
        · have hp := hp.1 c_4
          refine lv_iconst hx hb dX5_grow_59 kI_0 ?_
          refine lv_istore_n (lv' := [(3, .int (0 : Int32)), (0, .ref (g.2.2 90)), (1, .int x1), (2, .int x2)]) hx hb dX5_grow_60 rfl hl (by decide) rfl (fun ls hl => ?_)
          obtain ⟨n9, hp⟩ := hp
          exact bX5_grow_61 hC hR hqX5_grow n9 x1 x2 (0 : Int32) w _ _ _ hp hS (lv_sub hl [1, 2, 3, 0] rfl)
        · have hp := hp.2 c_4
          refine lv_aload_n hx hb dX5_grow_48 rfl (lv_at hl 0 rfl) ?_
          refine lv_iload_n hx hb dX5_grow_49 rfl (lv_at hl 1 rfl) ?_
          refine lv_iconst hx hb dX5_grow_50 kI_1 ?_
          refine lv_iadd hx hb dX5_grow_51 ?_
          refine lv_iload_n hx hb dX5_grow_52 rfl (lv_at hl 2 rfl) ?_
          refine q_cvV (As := [.int (x1 + (1 : Int32)), .int x2]) (rest := []) hC hS hl.1 (hqX5_grow hp) cwX5_64 yvX5_grow (rcv_90 hC hS) rfl rfl (Nat.le_of_ble_eq_true rfl) (rmk (by omega) (by decide)) dX5_grow_53 (fun w_5 H locs hp hS => ?_)
          refine lv_goto (tgt := 113) hx hb dX5_grow_56 (by decide) ?_
          exact hR _ _ _ _ _ dX5_grow_113 hp hS
      · have hp := hp.2 c_3
        refine lv_aload_n hx hb dX5_grow_32 rfl (lv_at hl 0 rfl) ?_
        refine lv_iload_n hx hb dX5_grow_33 rfl (lv_at hl 2 rfl) ?_
        refine q_cvV (As := [.int x2]) (rest := []) hC hS hl.1 (rX5_keepTree hp) cwX5_73 yvX5_keepTree (rcv_90 hC hS) rfl rfl (Nat.le_of_ble_eq_true rfl) (rmk (by omega) (by decide)) dX5_grow_34 (fun w_6 H locs hp hS => ?_)
        refine lv_goto (tgt := 113) hx hb dX5_grow_37 (by decide) ?_
        exact hR _ _ _ _ _ dX5_grow_113 hp hS
    · have hp := hp.2 c_2
      exact hR _ _ _ _ _ dX5_grow_23 hp hS
def d9X5_grow : Nat → ((Wd → Prop) → Int32 → Int32 → Wd → Prop)
  | 0 => (fun _ _ _ _ => False)
  | d + 1 => (fun post x1 x2 w => pX5_grow (d9X5_grow d) post x1 x2 w)
def dX5_grow (d : Nat) : (Wd → Prop) → Int32 → Int32 → Wd → Prop := d9X5_grow d
theorem R9X5_grow {l : Launch} {g : Gw} : ∀ d : Nat, (∀ {post : Wd → Prop} {x1 : Int32} {x2 : Int32} {w : Wd}, dX5_grow d post x1 x2 w → MtV tabX l yX5_grow cX5_grow 4 none (4 + d) g w [.ref (g.2.2 90), .int x1, .int x2] post) := by
  intro d
  induction d with
  | zero => exact fun h => False.elim h
  | succ d ih =>
    refine fun h => ?_
    exact rX5_grow (d := d) ih h
theorem RX5_grow {l : Launch} {g : Gw} {post : Wd → Prop} {x1 : Int32} {x2 : Int32} {w : Wd} (h : dX5_grow 10 post x1 x2 w) : MtV tabX l yX5_grow cX5_grow 4 none 14 g w [.ref (g.2.2 90), .int x1, .int x2] post := R9X5_grow 10 h
def pX5_growFrom_34 (post : Wd → Prop) : Nat → Int32 → Wd → Prop
  | 0, _, _ => False
  | n + 1, x2, w => (x2 < 0 → (dX5_grow 10 (fun w_2 => post w_2) (0 : Int32) (0 : Int32) w)) ∧ (¬ x2 < 0 → (vp_in (x2 + (1 : Int32)) 8 ∧ pX5_fewestTo (fun r_3 w_4 => vp_in x2 8 ∧ ∀ w_5, w_5 = sA w_4 99 x2.toNatClampNeg ((w.2.1 99 (x2 + (1 : Int32)).toNatClampNeg) + r_3) → vp_in x2 7 ∧ ∀ w_6, w_6 = sA w_5 98 x2.toNatClampNeg (-1 : Int32) → ∀ x2_7, x2_7 = x2 + (-1 : Int32) → pX5_growFrom_34 post n x2_7 w_6) x2 w))
def pX5_growFrom (post : Wd → Prop) (x1 : Int32) (w : Wd) : Prop := ∀ w_1, w_1 = sI w 90 6 x1 → ∀ w_2, w_2 = sI w_1 90 1 (1000 : Int32) → ∀ w_3, w_3 = sI w_2 90 2 (0 : Int32) → vp_in (w_3.1 90 0) 8 ∧ ∀ w_4, w_4 = sA w_3 99 (w_3.1 90 0).toNatClampNeg (0 : Int32) → ∀ x2_5, x2_5 = ((w_4.1 90 0) - (1 : Int32)) → ∃ n9, pX5_growFrom_34 post n9 x2_5 w_4
set_option maxHeartbeats 4000000 in
set_option maxRecDepth 100000 in
theorem bX5_growFrom_34 {p : Program} {l : Launch} {e : Env} {s : State} {m : MethodId} {args : Array Value} {below : List Frame} {meth : Method} {c : Code} {Q : State → Prop} {A : Nat → Prop} {g : Gw} {post : Wd → Prop}  (hC : Cx p s m args c cX5_growFrom RX5 3 g) (hR : RtV tabX p l e (rk 15) s m args below meth c Q cX5_growFrom A g post)  : ∀ (n : Nat) (x2 : Int32) (w : Wd) (H : Heap) (locs : List Loc) (ls : Array Slot), pX5_growFrom_34 post n x2 w → St tabX A s.heap g w H locs → lv_has ls 3 [(0, .ref (g.2.2 90)), (2, .int x2)] → W p l e (rk 15) s m args below meth c H locs 0 0 Q (F0 m 34 ls []) := by
  have hx := hC.1
  have hb := hC.2.1
  intro n
  induction n with
  | zero =>
    intro x2 w H locs ls hp hS hl
    exact False.elim hp
  | succ n ih =>
    intro x2 w H locs ls hp hS hl
    unfold pX5_growFrom_34 at hp
    refine lv_iload_n hx hb dX5_growFrom_34 rfl (lv_at hl 1 rfl) ?_
    refine lv_if_lt (tgt := 71) hx hb dX5_growFrom_35 (by decide) (fun c_1 => ?_) (fun c_1 => ?_)
    · have hp := hp.1 c_1
      refine lv_aload_n hx hb dX5_growFrom_71 rfl (lv_at hl 0 rfl) ?_
      refine lv_iconst hx hb dX5_growFrom_72 kI_0 ?_
      refine lv_iconst hx hb dX5_growFrom_73 kI_0 ?_
      refine q_cvV (As := [.int (0 : Int32), .int (0 : Int32)]) (rest := []) hC hS hl.1 (RX5_grow hp) cwX5_64 yvX5_grow (rcv_90 hC hS) rfl rfl (Nat.le_of_ble_eq_true rfl) (rmk (by decide) (by decide)) dX5_growFrom_74 (fun w_2 H locs hp hS => ?_)
      exact hR _ _ _ _ _ dX5_growFrom_77 hp hS
    · have hp := hp.2 c_1
      refine lv_aload_n hx hb dX5_growFrom_38 rfl (lv_at hl 0 rfl) ?_
      refine G_90_8 hC hS m211 dX5_growFrom_39 ?_
      refine lv_iload_n hx hb dX5_growFrom_42 rfl (lv_at hl 1 rfl) ?_
      refine lv_aload_n hx hb dX5_growFrom_43 rfl (lv_at hl 0 rfl) ?_
      refine G_90_8 hC hS m211 dX5_growFrom_44 ?_
      refine lv_iload_n hx hb dX5_growFrom_47 rfl (lv_at hl 1 rfl) ?_
      refine lv_iconst hx hb dX5_growFrom_48 kI_1 ?_
      refine lv_iadd hx hb dX5_growFrom_49 ?_
      refine La_99 hC hS hp.1 dX5_growFrom_50 ?_
      have hp := hp.2
      refine lv_aload_n hx hb dX5_growFrom_51 rfl (lv_at hl 0 rfl) ?_
      refine lv_iload_n hx hb dX5_growFrom_52 rfl (lv_at hl 1 rfl) ?_
      refine q_cvI (As := [.int x2]) (rest := [.int (w.2.1 99 (x2 + (1 : Int32)).toNatClampNeg), .int x2, .ref (g.2.2 99)]) hC hS hl.1 (rX5_fewestTo hp) cwX5_60 yvX5_fewestTo (rcv_90 hC hS) rfl rfl (Nat.le_of_ble_eq_true rfl) (rmk (by decide) (by decide)) dX5_growFrom_53 (fun r_3 w_4 H locs hp hS => ?_)
      refine lv_iadd hx hb dX5_growFrom_56 ?_
      refine Sa_99 hC hS hp.1 dX5_growFrom_57 (fun w_5 H locs ew_5 hS => ?_)
      have hp := hp.2
      have hp := hp w_5 ew_5
      refine lv_aload_n hx hb dX5_growFrom_58 rfl (lv_at hl 0 rfl) ?_
      refine G_90_7 hC hS m210 dX5_growFrom_59 ?_
      refine lv_iload_n hx hb dX5_growFrom_62 rfl (lv_at hl 1 rfl) ?_
      refine lv_iconst hx hb dX5_growFrom_63 kI_m1 ?_
      refine Sa_98 hC hS hp.1 dX5_growFrom_64 (fun w_6 H locs ew_6 hS => ?_)
      have hp := hp.2
      have hp := hp w_6 ew_6
      obtain ⟨x2_7, ex2_7⟩ : ∃ y : Int32, y = x2 + (-1 : Int32) := ⟨_, rfl⟩
      have hp := hp x2_7 ex2_7
      refine lv_iinc (v := x2_7) (lv' := [(2, .int x2_7), (0, .ref (g.2.2 90))]) hx hb dX5_growFrom_65 hl (k := 1) rfl (by rw [ex2_7]; rfl) (by decide) rfl (fun ls hl => ?_)
      refine lv_goto (tgt := 34) hx hb dX5_growFrom_68 (by decide) ?_
      exact ih x2_7 w_6 _ _ _ hp hS (lv_sub hl [1, 0] rfl)
set_option maxHeartbeats 4000000 in
set_option maxRecDepth 100000 in
theorem rX5_growFrom {l : Launch} {g : Gw} {w : Wd} {post : Wd → Prop}   {x1 : Int32} (hp : pX5_growFrom post x1 w) : MtV tabX l yX5_growFrom cX5_growFrom 3 none 15 g w [.ref (g.2.2 90), .int x1] post := by
  refine q_entV tabX_nd (by decide) rfl (Nat.le_of_ble_eq_true rfl) ?_
  intro p e s m args below meth c A Q ls hC hR hS hl
  have hx := hC.1
  have hb := hC.2.1
  have hl : lv_has ls 3 [(0, .ref (g.2.2 90)), (1, .int x1)] := hl
  unfold pX5_growFrom at hp
  refine lv_aload_n hx hb dX5_growFrom_0 rfl (lv_at hl 0 rfl) ?_
  refine lv_iload_n hx hb dX5_growFrom_1 rfl (lv_at hl 1 rfl) ?_
  refine P_90_6 hC hS m1253 dX5_growFrom_2 (fun w_1 H locs ew_1 hS => ?_)
  have hp := hp w_1 ew_1
  refine lv_aload_n hx hb dX5_growFrom_5 rfl (lv_at hl 0 rfl) ?_
  refine lv_sipush hx hb dX5_growFrom_6 kS_1000 ?_
  refine P_90_1 hC hS m1254 dX5_growFrom_9 (fun w_2 H locs ew_2 hS => ?_)
  have hp := hp w_2 ew_2
  refine lv_aload_n hx hb dX5_growFrom_12 rfl (lv_at hl 0 rfl) ?_
  refine lv_iconst hx hb dX5_growFrom_13 kI_0 ?_
  refine P_90_2 hC hS m1255 dX5_growFrom_14 (fun w_3 H locs ew_3 hS => ?_)
  have hp := hp w_3 ew_3
  refine lv_aload_n hx hb dX5_growFrom_17 rfl (lv_at hl 0 rfl) ?_
  refine G_90_8 hC hS m211 dX5_growFrom_18 ?_
  refine lv_aload_n hx hb dX5_growFrom_21 rfl (lv_at hl 0 rfl) ?_
  refine G_90_0 hC hS m1240 dX5_growFrom_22 ?_
  refine lv_iconst hx hb dX5_growFrom_25 kI_0 ?_
  refine Sa_99 hC hS hp.1 dX5_growFrom_26 (fun w_4 H locs ew_4 hS => ?_)
  have hp := hp.2
  have hp := hp w_4 ew_4
  refine lv_aload_n hx hb dX5_growFrom_27 rfl (lv_at hl 0 rfl) ?_
  refine G_90_0 hC hS m1240 dX5_growFrom_28 ?_
  refine lv_iconst hx hb dX5_growFrom_31 kI_1 ?_
  refine lv_isub hx hb dX5_growFrom_32 ?_
  refine lv_topi (fun x2_5 ex2_5 => ?_)
  have hp := hp x2_5 ex2_5
  refine lv_istore_n (lv' := [(2, .int x2_5), (0, .ref (g.2.2 90)), (1, .int x1)]) hx hb dX5_growFrom_33 rfl hl (by decide) rfl (fun ls hl => ?_)
  obtain ⟨n9, hp⟩ := hp
  exact bX5_growFrom_34 hC hR n9 x2_5 w_4 _ _ _ hp hS (lv_sub hl [1, 0] rfl)
def pX10_tree_64 (post : Int32 → Wd → Prop) : Nat → Int32 → Int32 → Wd → Prop
  | 0, _, _, _ => False
  | n + 1, x2, x4, w => ((w.1 90 0) ≤ x4 → ((¬ x2 = 0 → (post (w.1 90 2) w)) ∧ (x2 = 0 → (post (w.1 90 1) w)))) ∧ (¬ (w.1 90 0) ≤ x4 → (vp_in x4 7 ∧ pX4_lay (fun w_3 => ∀ x4_4, x4_4 = x4 + (1 : Int32) → pX10_tree_64 post n x2 x4_4 w_3) (w.2.1 94 x4.toNatClampNeg) w))
def pX10_tree (post : Int32 → Wd → Prop) (x1 : Int32) (x2 : Int32) (x3 : Int32) (w : Wd) : Prop := ∀ w_1, w_1 = sI w 110 1 (0 : Int32) → pX5_gather (fun w_2 => (x1 < 0 → (post (-1 : Int32) w_2)) ∧ (¬ x1 < 0 → (((w_2.1 90 0) ≤ x1 → (post (-1 : Int32) w_2)) ∧ (¬ (w_2.1 90 0) ≤ x1 → ((x2 < 0 → (post (-1 : Int32) w_2)) ∧ (¬ x2 < 0 → ((x2 ≤ (1 : Int32) → (pX5_growFrom (fun w_7 => ∃ n9, pX10_tree_64 post n9 x2 (0 : Int32) w_7) x1 w_2)) ∧ (¬ x2 ≤ (1 : Int32) → (post (-1 : Int32) w_2))))))))) x3 (w_1.1 (rl (w_1.2.2.2.2 0)) 0) w_1
set_option maxHeartbeats 4000000 in
set_option maxRecDepth 100000 in
theorem bX10_tree_64 {p : Program} {l : Launch} {e : Env} {s : State} {m : MethodId} {args : Array Value} {below : List Frame} {meth : Method} {c : Code} {Q : State → Prop} {A : Nat → Prop} {g : Gw} {post : Int32 → Wd → Prop}  (hC : Cx p s m args c cX10_tree RX10 5 g) (hR : RtI tabX p l e (rk 16) s m args below meth c Q cX10_tree A g post)  : ∀ (n : Nat) (x2 : Int32) (x4 : Int32) (w : Wd) (H : Heap) (locs : List Loc) (ls : Array Slot), pX10_tree_64 post n x2 x4 w → St tabX A s.heap g w H locs → lv_has ls 5 [(0, .ref (g.2.2 0)), (2, .int x2), (4, .int x4)] → W p l e (rk 16) s m args below meth c H locs 0 0 Q (F0 m 64 ls []) := by
  have hx := hC.1
  have hb := hC.2.1
  intro n
  induction n with
  | zero =>
    intro x2 x4 w H locs ls hp hS hl
    exact False.elim hp
  | succ n ih =>
    intro x2 x4 w H locs ls hp hS hl
    unfold pX10_tree_64 at hp
    refine lv_iload hx hb dX10_tree_64 (lv_at hl 2 rfl) ?_
    refine lv_aload_n hx hb dX10_tree_66 rfl (lv_at hl 0 rfl) ?_
    refine G_0_8 hC hS m50 dX10_tree_67 ?_
    refine G_90_0 hC hS m1232 dX10_tree_70 ?_
    refine lv_icmp_ge (tgt := 99) hx hb dX10_tree_73 (by decide) (fun c_1 => ?_) (fun c_1 => ?_)
    · have hp := hp.1 c_1
      refine lv_iload_n hx hb dX10_tree_99 rfl (lv_at hl 1 rfl) ?_
      refine lv_if_ne (tgt := 113) hx hb dX10_tree_100 (by decide) (fun c_2 => ?_) (fun c_2 => ?_)
      · have hp := hp.1 c_2
        refine lv_aload_n hx hb dX10_tree_113 rfl (lv_at hl 0 rfl) ?_
        refine G_0_8 hC hS m50 dX10_tree_114 ?_
        refine G_90_2 hC hS m1235 dX10_tree_117 ?_
        exact hR _ _ _ _ _ _ dX10_tree_120 hp hS
      · have hp := hp.2 c_2
        refine lv_aload_n hx hb dX10_tree_103 rfl (lv_at hl 0 rfl) ?_
        refine G_0_8 hC hS m50 dX10_tree_104 ?_
        refine G_90_1 hC hS m1234 dX10_tree_107 ?_
        refine lv_goto (tgt := 120) hx hb dX10_tree_110 (by decide) ?_
        exact hR _ _ _ _ _ _ dX10_tree_120 hp hS
    · have hp := hp.2 c_1
      refine lv_aload_n hx hb dX10_tree_76 rfl (lv_at hl 0 rfl) ?_
      refine G_0_9 hC hS m54 dX10_tree_77 ?_
      refine lv_aload_n hx hb dX10_tree_80 rfl (lv_at hl 0 rfl) ?_
      refine G_0_8 hC hS m50 dX10_tree_81 ?_
      refine G_90_3 hC hS m1233 dX10_tree_84 ?_
      refine lv_iload hx hb dX10_tree_87 (lv_at hl 2 rfl) ?_
      refine La_94 hC hS hp.1 dX10_tree_89 ?_
      have hp := hp.2
      refine q_cvV (As := [.int (w.2.1 94 x4.toNatClampNeg)]) (rest := []) hC hS hl.1 (rX4_lay hp) cwX10_263 yvX4_lay (rcv_110 hC hS) rfl rfl (Nat.le_of_ble_eq_true rfl) (rmk (by decide) (by decide)) dX10_tree_90 (fun w_3 H locs hp hS => ?_)
      obtain ⟨x4_4, ex4_4⟩ : ∃ y : Int32, y = x4 + (1 : Int32) := ⟨_, rfl⟩
      have hp := hp x4_4 ex4_4
      refine lv_iinc (v := x4_4) (lv' := [(4, .int x4_4), (0, .ref (g.2.2 0)), (2, .int x2)]) hx hb dX10_tree_93 hl (k := 2) rfl (by rw [ex4_4]; rfl) (by decide) rfl (fun ls hl => ?_)
      refine lv_goto (tgt := 64) hx hb dX10_tree_96 (by decide) ?_
      exact ih x2 x4_4 w_3 _ _ _ hp hS (lv_sub hl [1, 2, 0] rfl)
set_option maxHeartbeats 4000000 in
set_option maxRecDepth 100000 in
theorem rX10_tree {l : Launch} {g : Gw} {w : Wd} {post : Int32 → Wd → Prop}   {x1 : Int32} {x2 : Int32} {x3 : Int32} (hp : pX10_tree post x1 x2 x3 w) : MtI tabX l yX10_tree cX10_tree 5 (some .int) 16 g w [.ref (g.2.2 0), .int x1, .int x2, .int x3] post := by
  refine q_entI tabX_nd (by decide) rfl (Nat.le_of_ble_eq_true rfl) ?_
  intro p e s m args below meth c A Q ls hC hR hS hl
  have hx := hC.1
  have hb := hC.2.1
  have hl : lv_has ls 5 [(0, .ref (g.2.2 0)), (1, .int x1), (2, .int x2), (3, .int x3)] := hl
  unfold pX10_tree at hp
  refine lv_aload_n hx hb dX10_tree_0 rfl (lv_at hl 0 rfl) ?_
  refine G_0_9 hC hS m54 dX10_tree_1 ?_
  refine lv_iconst hx hb dX10_tree_4 kI_0 ?_
  refine P_110_1 hC hS m224 dX10_tree_5 (fun w_1 H locs ew_1 hS => ?_)
  have hp := hp w_1 ew_1
  refine lv_aload_n hx hb dX10_tree_8 rfl (lv_at hl 0 rfl) ?_
  refine G_0_8 hC hS m50 dX10_tree_9 ?_
  refine lv_aload_n hx hb dX10_tree_12 rfl (lv_at hl 0 rfl) ?_
  refine G_0_7 hC hS m46 dX10_tree_13 ?_
  refine lv_iload_n hx hb dX10_tree_16 rfl (lv_at hl 3 rfl) ?_
  refine lv_aload_n hx hb dX10_tree_17 rfl (lv_at hl 0 rfl) ?_
  refine G_0_16 hC hS m21 dX10_tree_18 ?_
  refine GR_0 hC hS m678 dX10_tree_21 ?_
  refine q_cvV (As := [.ref (g.2.2 70), .int x3, .int (w_1.1 (rl (w_1.2.2.2.2 0)) 0)]) (rest := []) hC hS hl.1 (rX5_gather hp) cwX10_299 yvX5_gather (rcv_90 hC hS) rfl rfl (Nat.le_of_ble_eq_true rfl) (rmk (by decide) (by decide)) dX10_tree_24 (fun w_2 H locs hp hS => ?_)
  refine lv_iload_n hx hb dX10_tree_27 rfl (lv_at hl 1 rfl) ?_
  refine lv_if_lt (tgt := 51) hx hb dX10_tree_28 (by decide) (fun c_3 => ?_) (fun c_3 => ?_)
  · have hp := hp.1 c_3
    refine lv_iconst hx hb dX10_tree_51 kI_m1 ?_
    exact hR _ _ _ _ _ _ dX10_tree_52 hp hS
  · have hp := hp.2 c_3
    refine lv_iload_n hx hb dX10_tree_31 rfl (lv_at hl 1 rfl) ?_
    refine lv_aload_n hx hb dX10_tree_32 rfl (lv_at hl 0 rfl) ?_
    refine G_0_8 hC hS m50 dX10_tree_33 ?_
    refine G_90_0 hC hS m1232 dX10_tree_36 ?_
    refine lv_icmp_ge (tgt := 51) hx hb dX10_tree_39 (by decide) (fun c_4 => ?_) (fun c_4 => ?_)
    · have hp := hp.1 c_4
      refine lv_iconst hx hb dX10_tree_51 kI_m1 ?_
      exact hR _ _ _ _ _ _ dX10_tree_52 hp hS
    · have hp := hp.2 c_4
      refine lv_iload_n hx hb dX10_tree_42 rfl (lv_at hl 2 rfl) ?_
      refine lv_if_lt (tgt := 51) hx hb dX10_tree_43 (by decide) (fun c_5 => ?_) (fun c_5 => ?_)
      · have hp := hp.1 c_5
        refine lv_iconst hx hb dX10_tree_51 kI_m1 ?_
        exact hR _ _ _ _ _ _ dX10_tree_52 hp hS
      · have hp := hp.2 c_5
        refine lv_iload_n hx hb dX10_tree_46 rfl (lv_at hl 2 rfl) ?_
        refine lv_iconst hx hb dX10_tree_47 kI_1 ?_
        refine lv_icmp_le (tgt := 53) hx hb dX10_tree_48 (by decide) (fun c_6 => ?_) (fun c_6 => ?_)
        · have hp := hp.1 c_6
          refine lv_aload_n hx hb dX10_tree_53 rfl (lv_at hl 0 rfl) ?_
          refine G_0_8 hC hS m50 dX10_tree_54 ?_
          refine lv_iload_n hx hb dX10_tree_57 rfl (lv_at hl 1 rfl) ?_
          refine q_cvV (As := [.int x1]) (rest := []) hC hS hl.1 (rX5_growFrom hp) cwX10_304 yvX5_growFrom (rcv_90 hC hS) rfl rfl (Nat.le_of_ble_eq_true rfl) (rmk (by decide) (by decide)) dX10_tree_58 (fun w_7 H locs hp hS => ?_)
          refine lv_iconst hx hb dX10_tree_61 kI_0 ?_
          refine lv_istore (lv' := [(4, .int (0 : Int32)), (0, .ref (g.2.2 0)), (1, .int x1), (2, .int x2), (3, .int x3)]) hx hb dX10_tree_62 hl (by decide) rfl (fun ls hl => ?_)
          obtain ⟨n9, hp⟩ := hp
          exact bX10_tree_64 hC hR n9 x2 (0 : Int32) w_7 _ _ _ hp hS (lv_sub hl [1, 3, 0] rfl)
        · have hp := hp.2 c_6
          refine lv_iconst hx hb dX10_tree_51 kI_m1 ?_
          exact hR _ _ _ _ _ _ dX10_tree_52 hp hS
def pX5_changesToOthers_28 (k4 : Int32 → Int32 → Int32 → Wd → Prop) (post : Int32 → Wd → Prop) (x1 : Int32) (x3 : Int32) (t0 : Int32) (t1 : Int32) (w : Wd) : Prop := ∀ x2_1, x2_1 = (t0 + t1) → ∀ x3_2, x3_2 = x3 + (1 : Int32) → k4 x1 x2_1 x3_2 w
def pX5_changesToOthers_4 (post : Int32 → Wd → Prop) : Nat → Int32 → Int32 → Int32 → Wd → Prop
  | 0, _, _, _, _ => False
  | n + 1, x1, x2, x3, w => ((w.1 90 0) ≤ x3 → (post x2 w)) ∧ (¬ (w.1 90 0) ≤ x3 → ((¬ x3 = x1 → (pX5_changesFrom (fun r_3 w_4 => pX5_changesToOthers_28 (pX5_changesToOthers_4 post n) post x1 x3 x2 r_3 w_4) x1 x3 w)) ∧ (x3 = x1 → (pX5_changesToOthers_28 (pX5_changesToOthers_4 post n) post x1 x3 x2 (0 : Int32) w))))
def pX5_changesToOthers (post : Int32 → Wd → Prop) (x1 : Int32) (w : Wd) : Prop := ∃ n9, pX5_changesToOthers_4 post n9 x1 (0 : Int32) (0 : Int32) w
set_option maxHeartbeats 4000000 in
set_option maxRecDepth 100000 in
theorem bX5_changesToOthers_28 {p : Program} {l : Launch} {e : Env} {s : State} {m : MethodId} {args : Array Value} {below : List Frame} {meth : Method} {c : Code} {Q : State → Prop} {A : Nat → Prop} {g : Gw} {post : Int32 → Wd → Prop}  (hC : Cx p s m args c cX5_changesToOthers RX5 4 g) (hR : RtI tabX p l e (rk 2) s m args below meth c Q cX5_changesToOthers A g post)  {k4 : Int32 → Int32 → Int32 → Wd → Prop} (hk4 : ∀ (x1 : Int32) (x2 : Int32) (x3 : Int32) (w : Wd) (H : Heap) (locs : List Loc) (ls : Array Slot), k4 x1 x2 x3 w → St tabX A s.heap g w H locs → lv_has ls 4 [(0, .ref (g.2.2 90)), (1, .int x1), (2, .int x2), (3, .int x3)] → W p l e (rk 2) s m args below meth c H locs 0 0 Q (F0 m 4 ls [])) : ∀ (x1 : Int32) (x3 : Int32) (t0 : Int32) (t1 : Int32) (w : Wd) (H : Heap) (locs : List Loc) (ls : Array Slot), pX5_changesToOthers_28 k4 post x1 x3 t0 t1 w → St tabX A s.heap g w H locs → lv_has ls 4 [(0, .ref (g.2.2 90)), (1, .int x1), (3, .int x3)] → W p l e (rk 2) s m args below meth c H locs 0 0 Q (F0 m 28 ls [.int t1, .int t0]) := by
  have hx := hC.1
  have hb := hC.2.1
  intro x1 x3 t0 t1 w H locs ls hp hS hl
  unfold pX5_changesToOthers_28 at hp
  refine lv_iadd hx hb dX5_changesToOthers_28 ?_
  refine lv_topi (fun x2_1 ex2_1 => ?_)
  have hp := hp x2_1 ex2_1
  refine lv_istore_n (lv' := [(2, .int x2_1), (0, .ref (g.2.2 90)), (1, .int x1), (3, .int x3)]) hx hb dX5_changesToOthers_29 rfl hl (by decide) rfl (fun ls hl => ?_)
  obtain ⟨x3_2, ex3_2⟩ : ∃ y : Int32, y = x3 + (1 : Int32) := ⟨_, rfl⟩
  have hp := hp x3_2 ex3_2
  refine lv_iinc (v := x3_2) (lv' := [(3, .int x3_2), (2, .int x2_1), (0, .ref (g.2.2 90)), (1, .int x1)]) hx hb dX5_changesToOthers_30 hl (k := 3) rfl (by rw [ex3_2]; rfl) (by decide) rfl (fun ls hl => ?_)
  refine lv_goto (tgt := 4) hx hb dX5_changesToOthers_33 (by decide) ?_
  exact hk4 x1 x2_1 x3_2 w _ _ _ hp hS (lv_sub hl [2, 3, 1, 0] rfl)
set_option maxHeartbeats 4000000 in
set_option maxRecDepth 100000 in
theorem bX5_changesToOthers_4 {p : Program} {l : Launch} {e : Env} {s : State} {m : MethodId} {args : Array Value} {below : List Frame} {meth : Method} {c : Code} {Q : State → Prop} {A : Nat → Prop} {g : Gw} {post : Int32 → Wd → Prop}  (hC : Cx p s m args c cX5_changesToOthers RX5 4 g) (hR : RtI tabX p l e (rk 2) s m args below meth c Q cX5_changesToOthers A g post)  : ∀ (n : Nat) (x1 : Int32) (x2 : Int32) (x3 : Int32) (w : Wd) (H : Heap) (locs : List Loc) (ls : Array Slot), pX5_changesToOthers_4 post n x1 x2 x3 w → St tabX A s.heap g w H locs → lv_has ls 4 [(0, .ref (g.2.2 90)), (1, .int x1), (2, .int x2), (3, .int x3)] → W p l e (rk 2) s m args below meth c H locs 0 0 Q (F0 m 4 ls []) := by
  have hx := hC.1
  have hb := hC.2.1
  intro n
  induction n with
  | zero =>
    intro x1 x2 x3 w H locs ls hp hS hl
    exact False.elim hp
  | succ n ih =>
    intro x1 x2 x3 w H locs ls hp hS hl
    unfold pX5_changesToOthers_4 at hp
    refine lv_iload_n hx hb dX5_changesToOthers_4 rfl (lv_at hl 3 rfl) ?_
    refine lv_aload_n hx hb dX5_changesToOthers_5 rfl (lv_at hl 0 rfl) ?_
    refine G_90_0 hC hS m1240 dX5_changesToOthers_6 ?_
    refine lv_icmp_ge (tgt := 36) hx hb dX5_changesToOthers_9 (by decide) (fun c_1 => ?_) (fun c_1 => ?_)
    · have hp := hp.1 c_1
      refine lv_iload_n hx hb dX5_changesToOthers_36 rfl (lv_at hl 2 rfl) ?_
      exact hR _ _ _ _ _ _ dX5_changesToOthers_37 hp hS
    · have hp := hp.2 c_1
      refine lv_iload_n hx hb dX5_changesToOthers_12 rfl (lv_at hl 2 rfl) ?_
      refine lv_iload_n hx hb dX5_changesToOthers_13 rfl (lv_at hl 3 rfl) ?_
      refine lv_iload_n hx hb dX5_changesToOthers_14 rfl (lv_at hl 1 rfl) ?_
      refine lv_icmp_ne (tgt := 22) hx hb dX5_changesToOthers_15 (by decide) (fun c_2 => ?_) (fun c_2 => ?_)
      · have hp := hp.1 c_2
        refine lv_aload_n hx hb dX5_changesToOthers_22 rfl (lv_at hl 0 rfl) ?_
        refine lv_iload_n hx hb dX5_changesToOthers_23 rfl (lv_at hl 1 rfl) ?_
        refine lv_iload_n hx hb dX5_changesToOthers_24 rfl (lv_at hl 3 rfl) ?_
        refine q_cvI (As := [.int x1, .int x3]) (rest := [.int x2]) hC hS hl.1 (rX5_changesFrom hp) cwX5_47 yvX5_changesFrom (rcv_90 hC hS) rfl rfl (Nat.le_of_ble_eq_true rfl) (rmk (by decide) (by decide)) dX5_changesToOthers_25 (fun r_3 w_4 H locs hp hS => ?_)
        exact bX5_changesToOthers_28 hC hR ih x1 x3 x2 r_3 w_4 _ _ _ hp hS (lv_sub hl [0, 1, 3] rfl)
      · have hp := hp.2 c_2
        refine lv_iconst hx hb dX5_changesToOthers_18 kI_0 ?_
        refine lv_goto (tgt := 28) hx hb dX5_changesToOthers_19 (by decide) ?_
        exact bX5_changesToOthers_28 hC hR ih x1 x3 x2 (0 : Int32) w _ _ _ hp hS (lv_sub hl [0, 1, 3] rfl)
set_option maxHeartbeats 4000000 in
set_option maxRecDepth 100000 in
theorem rX5_changesToOthers {l : Launch} {g : Gw} {w : Wd} {post : Int32 → Wd → Prop}   {x1 : Int32} (hp : pX5_changesToOthers post x1 w) : MtI tabX l yX5_changesToOthers cX5_changesToOthers 4 (some .int) 2 g w [.ref (g.2.2 90), .int x1] post := by
  refine q_entI tabX_nd (by decide) rfl (Nat.le_of_ble_eq_true rfl) ?_
  intro p e s m args below meth c A Q ls hC hR hS hl
  have hx := hC.1
  have hb := hC.2.1
  have hl : lv_has ls 4 [(0, .ref (g.2.2 90)), (1, .int x1)] := hl
  unfold pX5_changesToOthers at hp
  refine lv_iconst hx hb dX5_changesToOthers_0 kI_0 ?_
  refine lv_istore_n (lv' := [(2, .int (0 : Int32)), (0, .ref (g.2.2 90)), (1, .int x1)]) hx hb dX5_changesToOthers_1 rfl hl (by decide) rfl (fun ls hl => ?_)
  refine lv_iconst hx hb dX5_changesToOthers_2 kI_0 ?_
  refine lv_istore_n (lv' := [(3, .int (0 : Int32)), (2, .int (0 : Int32)), (0, .ref (g.2.2 90)), (1, .int x1)]) hx hb dX5_changesToOthers_3 rfl hl (by decide) rfl (fun ls hl => ?_)
  obtain ⟨n9, hp⟩ := hp
  exact bX5_changesToOthers_4 hC hR n9 x1 (0 : Int32) (0 : Int32) w _ _ _ hp hS (lv_sub hl [2, 3, 1, 0] rfl)
def pX10_centre_80 (k45 : Int32 → Int32 → Int32 → Wd → Prop) (post : Int32 → Wd → Prop) (x1 : Int32) (x3 : Int32) (x4 : Int32) (w : Wd) : Prop := ∀ x4_1, x4_1 = x4 + (1 : Int32) → k45 x1 x3 x4_1 w
def pX10_centre_45 (post : Int32 → Wd → Prop) : Nat → Int32 → Int32 → Int32 → Wd → Prop
  | 0, _, _, _, _ => False
  | n + 1, x1, x3, x4, w => ((w.1 90 0) ≤ x4 → ((¬ x1 = 0 → (pX5_changesToOthers (fun r_3 w_4 => post r_3 w_4) x3 w)) ∧ (x1 = 0 → (post x3 w)))) ∧ (¬ (w.1 90 0) ≤ x4 → (pX5_changesToOthers (fun r_5 w_6 => pX5_changesToOthers (fun r_7 w_8 => (r_7 ≤ r_5 → (pX10_centre_80 (pX10_centre_45 post n) post x1 x3 x4 w_8)) ∧ (¬ r_7 ≤ r_5 → (pX10_centre_80 (pX10_centre_45 post n) post x1 x4 x4 w_8))) x3 w_6) x4 w))
def pX10_centre (post : Int32 → Wd → Prop) (x1 : Int32) (x2 : Int32) (w : Wd) : Prop := pX5_gather (fun w_1 => ((w_1.1 90 0) = 0 → (post (-1 : Int32) w_1)) ∧ (¬ (w_1.1 90 0) = 0 → ((x1 < 0 → (post (-1 : Int32) w_1)) ∧ (¬ x1 < 0 → ((x1 ≤ (1 : Int32) → (∃ n9, pX10_centre_45 post n9 x1 (0 : Int32) (1 : Int32) w_1)) ∧ (¬ x1 ≤ (1 : Int32) → (post (-1 : Int32) w_1))))))) x2 (w.1 (rl (w.2.2.2.2 0)) 0) w
set_option maxHeartbeats 4000000 in
set_option maxRecDepth 100000 in
theorem bX10_centre_80 {p : Program} {l : Launch} {e : Env} {s : State} {m : MethodId} {args : Array Value} {below : List Frame} {meth : Method} {c : Code} {Q : State → Prop} {A : Nat → Prop} {g : Gw} {post : Int32 → Wd → Prop}  (hC : Cx p s m args c cX10_centre RX10 5 g) (hR : RtI tabX p l e (rk 4) s m args below meth c Q cX10_centre A g post)  {k45 : Int32 → Int32 → Int32 → Wd → Prop} (hk45 : ∀ (x1 : Int32) (x3 : Int32) (x4 : Int32) (w : Wd) (H : Heap) (locs : List Loc) (ls : Array Slot), k45 x1 x3 x4 w → St tabX A s.heap g w H locs → lv_has ls 5 [(0, .ref (g.2.2 0)), (1, .int x1), (3, .int x3), (4, .int x4)] → W p l e (rk 4) s m args below meth c H locs 0 0 Q (F0 m 45 ls [])) : ∀ (x1 : Int32) (x3 : Int32) (x4 : Int32) (w : Wd) (H : Heap) (locs : List Loc) (ls : Array Slot), pX10_centre_80 k45 post x1 x3 x4 w → St tabX A s.heap g w H locs → lv_has ls 5 [(0, .ref (g.2.2 0)), (1, .int x1), (3, .int x3), (4, .int x4)] → W p l e (rk 4) s m args below meth c H locs 0 0 Q (F0 m 80 ls []) := by
  have hx := hC.1
  have hb := hC.2.1
  intro x1 x3 x4 w H locs ls hp hS hl
  unfold pX10_centre_80 at hp
  obtain ⟨x4_1, ex4_1⟩ : ∃ y : Int32, y = x4 + (1 : Int32) := ⟨_, rfl⟩
  have hp := hp x4_1 ex4_1
  refine lv_iinc (v := x4_1) (lv' := [(4, .int x4_1), (0, .ref (g.2.2 0)), (1, .int x1), (3, .int x3)]) hx hb dX10_centre_80 hl (k := 3) rfl (by rw [ex4_1]; rfl) (by decide) rfl (fun ls hl => ?_)
  refine lv_goto (tgt := 45) hx hb dX10_centre_83 (by decide) ?_
  exact hk45 x1 x3 x4_1 w _ _ _ hp hS (lv_sub hl [1, 2, 3, 0] rfl)
set_option maxHeartbeats 4000000 in
set_option maxRecDepth 100000 in
theorem bX10_centre_45 {p : Program} {l : Launch} {e : Env} {s : State} {m : MethodId} {args : Array Value} {below : List Frame} {meth : Method} {c : Code} {Q : State → Prop} {A : Nat → Prop} {g : Gw} {post : Int32 → Wd → Prop}  (hC : Cx p s m args c cX10_centre RX10 5 g) (hR : RtI tabX p l e (rk 4) s m args below meth c Q cX10_centre A g post)  : ∀ (n : Nat) (x1 : Int32) (x3 : Int32) (x4 : Int32) (w : Wd) (H : Heap) (locs : List Loc) (ls : Array Slot), pX10_centre_45 post n x1 x3 x4 w → St tabX A s.heap g w H locs → lv_has ls 5 [(0, .ref (g.2.2 0)), (1, .int x1), (3, .int x3), (4, .int x4)] → W p l e (rk 4) s m args below meth c H locs 0 0 Q (F0 m 45 ls []) := by
  have hx := hC.1
  have hb := hC.2.1
  intro n
  induction n with
  | zero =>
    intro x1 x3 x4 w H locs ls hp hS hl
    exact False.elim hp
  | succ n ih =>
    intro x1 x3 x4 w H locs ls hp hS hl
    unfold pX10_centre_45 at hp
    refine lv_iload hx hb dX10_centre_45 (lv_at hl 3 rfl) ?_
    refine lv_aload_n hx hb dX10_centre_47 rfl (lv_at hl 0 rfl) ?_
    refine G_0_8 hC hS m50 dX10_centre_48 ?_
    refine G_90_0 hC hS m1232 dX10_centre_51 ?_
    refine lv_icmp_ge (tgt := 86) hx hb dX10_centre_54 (by decide) (fun c_1 => ?_) (fun c_1 => ?_)
    · have hp := hp.1 c_1
      refine lv_iload_n hx hb dX10_centre_86 rfl (lv_at hl 1 rfl) ?_
      refine lv_if_ne (tgt := 94) hx hb dX10_centre_87 (by decide) (fun c_2 => ?_) (fun c_2 => ?_)
      · have hp := hp.1 c_2
        refine lv_aload_n hx hb dX10_centre_94 rfl (lv_at hl 0 rfl) ?_
        refine G_0_8 hC hS m50 dX10_centre_95 ?_
        refine lv_iload_n hx hb dX10_centre_98 rfl (lv_at hl 2 rfl) ?_
        refine q_cvI (As := [.int x3]) (rest := []) hC hS hl.1 (rX5_changesToOthers hp) cwX10_316 yvX5_changesToOthers (rcv_90 hC hS) rfl rfl (Nat.le_of_ble_eq_true rfl) (rmk (by decide) (by decide)) dX10_centre_99 (fun r_3 w_4 H locs hp hS => ?_)
        exact hR _ _ _ _ _ _ dX10_centre_102 hp hS
      · have hp := hp.2 c_2
        refine lv_iload_n hx hb dX10_centre_90 rfl (lv_at hl 2 rfl) ?_
        refine lv_goto (tgt := 102) hx hb dX10_centre_91 (by decide) ?_
        exact hR _ _ _ _ _ _ dX10_centre_102 hp hS
    · have hp := hp.2 c_1
      refine lv_aload_n hx hb dX10_centre_57 rfl (lv_at hl 0 rfl) ?_
      refine G_0_8 hC hS m50 dX10_centre_58 ?_
      refine lv_iload hx hb dX10_centre_61 (lv_at hl 3 rfl) ?_
      refine q_cvI (As := [.int x4]) (rest := []) hC hS hl.1 (rX5_changesToOthers hp) cwX10_316 yvX5_changesToOthers (rcv_90 hC hS) rfl rfl (Nat.le_of_ble_eq_true rfl) (rmk (by decide) (by decide)) dX10_centre_63 (fun r_5 w_6 H locs hp hS => ?_)
      refine lv_aload_n hx hb dX10_centre_66 rfl (lv_at hl 0 rfl) ?_
      refine G_0_8 hC hS m50 dX10_centre_67 ?_
      refine lv_iload_n hx hb dX10_centre_70 rfl (lv_at hl 2 rfl) ?_
      refine q_cvI (As := [.int x3]) (rest := [.int r_5]) hC hS hl.1 (rX5_changesToOthers hp) cwX10_316 yvX5_changesToOthers (rcv_90 hC hS) rfl rfl (Nat.le_of_ble_eq_true rfl) (rmk (by decide) (by decide)) dX10_centre_71 (fun r_7 w_8 H locs hp hS => ?_)
      refine lv_icmp_ge (tgt := 80) hx hb dX10_centre_74 (by decide) (fun c_9 => ?_) (fun c_9 => ?_)
      · have hp := hp.1 c_9
        exact bX10_centre_80 hC hR ih x1 x3 x4 w_8 _ _ _ hp hS (lv_sub hl [0, 1, 2, 3] rfl)
      · have hp := hp.2 c_9
        refine lv_iload hx hb dX10_centre_77 (lv_at hl 3 rfl) ?_
        refine lv_istore_n (lv' := [(3, .int x4), (0, .ref (g.2.2 0)), (1, .int x1), (4, .int x4)]) hx hb dX10_centre_79 rfl hl (by decide) rfl (fun ls hl => ?_)
        exact bX10_centre_80 hC hR ih x1 x4 x4 w_8 _ _ _ hp hS (lv_sub hl [1, 2, 0, 3] rfl)
set_option maxHeartbeats 4000000 in
set_option maxRecDepth 100000 in
theorem rX10_centre {l : Launch} {g : Gw} {w : Wd} {post : Int32 → Wd → Prop}   {x1 : Int32} {x2 : Int32} (hp : pX10_centre post x1 x2 w) : MtI tabX l yX10_centre cX10_centre 5 (some .int) 4 g w [.ref (g.2.2 0), .int x1, .int x2] post := by
  refine q_entI tabX_nd (by decide) rfl (Nat.le_of_ble_eq_true rfl) ?_
  intro p e s m args below meth c A Q ls hC hR hS hl
  have hx := hC.1
  have hb := hC.2.1
  have hl : lv_has ls 5 [(0, .ref (g.2.2 0)), (1, .int x1), (2, .int x2)] := hl
  unfold pX10_centre at hp
  refine lv_aload_n hx hb dX10_centre_0 rfl (lv_at hl 0 rfl) ?_
  refine G_0_8 hC hS m50 dX10_centre_1 ?_
  refine lv_aload_n hx hb dX10_centre_4 rfl (lv_at hl 0 rfl) ?_
  refine G_0_7 hC hS m46 dX10_centre_5 ?_
  refine lv_iload_n hx hb dX10_centre_8 rfl (lv_at hl 2 rfl) ?_
  refine lv_aload_n hx hb dX10_centre_9 rfl (lv_at hl 0 rfl) ?_
  refine G_0_16 hC hS m21 dX10_centre_10 ?_
  refine GR_0 hC hS m678 dX10_centre_13 ?_
  refine q_cvV (As := [.ref (g.2.2 70), .int x2, .int (w.1 (rl (w.2.2.2.2 0)) 0)]) (rest := []) hC hS hl.1 (rX5_gather hp) cwX10_299 yvX5_gather (rcv_90 hC hS) rfl rfl (Nat.le_of_ble_eq_true rfl) (rmk (by decide) (by decide)) dX10_centre_16 (fun w_1 H locs hp hS => ?_)
  refine lv_aload_n hx hb dX10_centre_19 rfl (lv_at hl 0 rfl) ?_
  refine G_0_8 hC hS m50 dX10_centre_20 ?_
  refine G_90_0 hC hS m1232 dX10_centre_23 ?_
  refine lv_if_eq (tgt := 38) hx hb dX10_centre_26 (by decide) (fun c_2 => ?_) (fun c_2 => ?_)
  · have hp := hp.1 c_2
    refine lv_iconst hx hb dX10_centre_38 kI_m1 ?_
    exact hR _ _ _ _ _ _ dX10_centre_39 hp hS
  · have hp := hp.2 c_2
    refine lv_iload_n hx hb dX10_centre_29 rfl (lv_at hl 1 rfl) ?_
    refine lv_if_lt (tgt := 38) hx hb dX10_centre_30 (by decide) (fun c_3 => ?_) (fun c_3 => ?_)
    · have hp := hp.1 c_3
      refine lv_iconst hx hb dX10_centre_38 kI_m1 ?_
      exact hR _ _ _ _ _ _ dX10_centre_39 hp hS
    · have hp := hp.2 c_3
      refine lv_iload_n hx hb dX10_centre_33 rfl (lv_at hl 1 rfl) ?_
      refine lv_iconst hx hb dX10_centre_34 kI_1 ?_
      refine lv_icmp_le (tgt := 40) hx hb dX10_centre_35 (by decide) (fun c_4 => ?_) (fun c_4 => ?_)
      · have hp := hp.1 c_4
        refine lv_iconst hx hb dX10_centre_40 kI_0 ?_
        refine lv_istore_n (lv' := [(3, .int (0 : Int32)), (0, .ref (g.2.2 0)), (1, .int x1), (2, .int x2)]) hx hb dX10_centre_41 rfl hl (by decide) rfl (fun ls hl => ?_)
        refine lv_iconst hx hb dX10_centre_42 kI_1 ?_
        refine lv_istore (lv' := [(4, .int (1 : Int32)), (3, .int (0 : Int32)), (0, .ref (g.2.2 0)), (1, .int x1), (2, .int x2)]) hx hb dX10_centre_43 hl (by decide) rfl (fun ls hl => ?_)
        obtain ⟨n9, hp⟩ := hp
        exact bX10_centre_45 hC hR n9 x1 (0 : Int32) (1 : Int32) w_1 _ _ _ hp hS (lv_sub hl [2, 3, 1, 0] rfl)
      · have hp := hp.2 c_4
        refine lv_iconst hx hb dX10_centre_38 kI_m1 ?_
        exact hR _ _ _ _ _ _ dX10_centre_39 hp hS
def pX5_clanCount_28 (k4 : Int32 → Int32 → Wd → Prop) (post : Int32 → Wd → Prop) (x2 : Int32) (t0 : Int32) (t1 : Int32) (w : Wd) : Prop := ∀ x1_1, x1_1 = (t0 + t1) → ∀ x2_2, x2_2 = x2 + (1 : Int32) → k4 x1_1 x2_2 w
def pX5_clanCount_4 (post : Int32 → Wd → Prop) : Nat → Int32 → Int32 → Wd → Prop
  | 0, _, _, _ => False
  | n + 1, x1, x2, w => ((w.1 90 0) ≤ x2 → (post x1 w)) ∧ (¬ (w.1 90 0) ≤ x2 → (vp_in x2 7 ∧ (¬ (w.2.1 100 x2.toNatClampNeg) = x2 → (pX5_clanCount_28 (pX5_clanCount_4 post n) post x2 x1 (0 : Int32) w)) ∧ ((w.2.1 100 x2.toNatClampNeg) = x2 → (pX5_clanCount_28 (pX5_clanCount_4 post n) post x2 x1 (1 : Int32) w))))
def pX5_clanCount (post : Int32 → Wd → Prop)  (w : Wd) : Prop := ∃ n9, pX5_clanCount_4 post n9 (0 : Int32) (0 : Int32) w
set_option maxHeartbeats 4000000 in
set_option maxRecDepth 100000 in
theorem bX5_clanCount_28 {p : Program} {l : Launch} {e : Env} {s : State} {m : MethodId} {args : Array Value} {below : List Frame} {meth : Method} {c : Code} {Q : State → Prop} {A : Nat → Prop} {g : Gw} {post : Int32 → Wd → Prop}  (hC : Cx p s m args c cX5_clanCount RX5 3 g) (hR : RtI tabX p l e (rk 1) s m args below meth c Q cX5_clanCount A g post)  {k4 : Int32 → Int32 → Wd → Prop} (hk4 : ∀ (x1 : Int32) (x2 : Int32) (w : Wd) (H : Heap) (locs : List Loc) (ls : Array Slot), k4 x1 x2 w → St tabX A s.heap g w H locs → lv_has ls 3 [(0, .ref (g.2.2 90)), (1, .int x1), (2, .int x2)] → W p l e (rk 1) s m args below meth c H locs 0 0 Q (F0 m 4 ls [])) : ∀ (x2 : Int32) (t0 : Int32) (t1 : Int32) (w : Wd) (H : Heap) (locs : List Loc) (ls : Array Slot), pX5_clanCount_28 k4 post x2 t0 t1 w → St tabX A s.heap g w H locs → lv_has ls 3 [(0, .ref (g.2.2 90)), (2, .int x2)] → W p l e (rk 1) s m args below meth c H locs 0 0 Q (F0 m 28 ls [.int t1, .int t0]) := by
  have hx := hC.1
  have hb := hC.2.1
  intro x2 t0 t1 w H locs ls hp hS hl
  unfold pX5_clanCount_28 at hp
  refine lv_iadd hx hb dX5_clanCount_28 ?_
  refine lv_topi (fun x1_1 ex1_1 => ?_)
  have hp := hp x1_1 ex1_1
  refine lv_istore_n (lv' := [(1, .int x1_1), (0, .ref (g.2.2 90)), (2, .int x2)]) hx hb dX5_clanCount_29 rfl hl (by decide) rfl (fun ls hl => ?_)
  obtain ⟨x2_2, ex2_2⟩ : ∃ y : Int32, y = x2 + (1 : Int32) := ⟨_, rfl⟩
  have hp := hp x2_2 ex2_2
  refine lv_iinc (v := x2_2) (lv' := [(2, .int x2_2), (1, .int x1_1), (0, .ref (g.2.2 90))]) hx hb dX5_clanCount_30 hl (k := 2) rfl (by rw [ex2_2]; rfl) (by decide) rfl (fun ls hl => ?_)
  refine lv_goto (tgt := 4) hx hb dX5_clanCount_33 (by decide) ?_
  exact hk4 x1_1 x2_2 w _ _ _ hp hS (lv_sub hl [2, 1, 0] rfl)
set_option maxHeartbeats 4000000 in
set_option maxRecDepth 100000 in
theorem bX5_clanCount_4 {p : Program} {l : Launch} {e : Env} {s : State} {m : MethodId} {args : Array Value} {below : List Frame} {meth : Method} {c : Code} {Q : State → Prop} {A : Nat → Prop} {g : Gw} {post : Int32 → Wd → Prop}  (hC : Cx p s m args c cX5_clanCount RX5 3 g) (hR : RtI tabX p l e (rk 1) s m args below meth c Q cX5_clanCount A g post)  : ∀ (n : Nat) (x1 : Int32) (x2 : Int32) (w : Wd) (H : Heap) (locs : List Loc) (ls : Array Slot), pX5_clanCount_4 post n x1 x2 w → St tabX A s.heap g w H locs → lv_has ls 3 [(0, .ref (g.2.2 90)), (1, .int x1), (2, .int x2)] → W p l e (rk 1) s m args below meth c H locs 0 0 Q (F0 m 4 ls []) := by
  have hx := hC.1
  have hb := hC.2.1
  intro n
  induction n with
  | zero =>
    intro x1 x2 w H locs ls hp hS hl
    exact False.elim hp
  | succ n ih =>
    intro x1 x2 w H locs ls hp hS hl
    unfold pX5_clanCount_4 at hp
    refine lv_iload_n hx hb dX5_clanCount_4 rfl (lv_at hl 2 rfl) ?_
    refine lv_aload_n hx hb dX5_clanCount_5 rfl (lv_at hl 0 rfl) ?_
    refine G_90_0 hC hS m1240 dX5_clanCount_6 ?_
    refine lv_icmp_ge (tgt := 36) hx hb dX5_clanCount_9 (by decide) (fun c_1 => ?_) (fun c_1 => ?_)
    · have hp := hp.1 c_1
      refine lv_iload_n hx hb dX5_clanCount_36 rfl (lv_at hl 1 rfl) ?_
      exact hR _ _ _ _ _ _ dX5_clanCount_37 hp hS
    · have hp := hp.2 c_1
      refine lv_iload_n hx hb dX5_clanCount_12 rfl (lv_at hl 1 rfl) ?_
      refine lv_aload_n hx hb dX5_clanCount_13 rfl (lv_at hl 0 rfl) ?_
      refine G_90_9 hC hS m212 dX5_clanCount_14 ?_
      refine lv_iload_n hx hb dX5_clanCount_17 rfl (lv_at hl 2 rfl) ?_
      refine La_100 hC hS hp.1 dX5_clanCount_18 ?_
      have hp := hp.2
      refine lv_iload_n hx hb dX5_clanCount_19 rfl (lv_at hl 2 rfl) ?_
      refine lv_icmp_ne (tgt := 27) hx hb dX5_clanCount_20 (by decide) (fun c_2 => ?_) (fun c_2 => ?_)
      · have hp := hp.1 c_2
        refine lv_iconst hx hb dX5_clanCount_27 kI_0 ?_
        exact bX5_clanCount_28 hC hR ih x2 x1 (0 : Int32) w _ _ _ hp hS (lv_sub hl [0, 2] rfl)
      · have hp := hp.2 c_2
        refine lv_iconst hx hb dX5_clanCount_23 kI_1 ?_
        refine lv_goto (tgt := 28) hx hb dX5_clanCount_24 (by decide) ?_
        exact bX5_clanCount_28 hC hR ih x2 x1 (1 : Int32) w _ _ _ hp hS (lv_sub hl [0, 2] rfl)
set_option maxHeartbeats 4000000 in
set_option maxRecDepth 100000 in
theorem rX5_clanCount {l : Launch} {g : Gw} {w : Wd} {post : Int32 → Wd → Prop}    (hp : pX5_clanCount post  w) : MtI tabX l yX5_clanCount cX5_clanCount 3 (some .int) 1 g w [.ref (g.2.2 90)] post := by
  refine q_entI tabX_nd (by decide) rfl (Nat.le_of_ble_eq_true rfl) ?_
  intro p e s m args below meth c A Q ls hC hR hS hl
  have hx := hC.1
  have hb := hC.2.1
  have hl : lv_has ls 3 [(0, .ref (g.2.2 90))] := hl
  unfold pX5_clanCount at hp
  refine lv_iconst hx hb dX5_clanCount_0 kI_0 ?_
  refine lv_istore_n (lv' := [(1, .int (0 : Int32)), (0, .ref (g.2.2 90))]) hx hb dX5_clanCount_1 rfl hl (by decide) rfl (fun ls hl => ?_)
  refine lv_iconst hx hb dX5_clanCount_2 kI_0 ?_
  refine lv_istore_n (lv' := [(2, .int (0 : Int32)), (1, .int (0 : Int32)), (0, .ref (g.2.2 90))]) hx hb dX5_clanCount_3 rfl hl (by decide) rfl (fun ls hl => ?_)
  obtain ⟨n9, hp⟩ := hp
  exact bX5_clanCount_4 hC hR n9 (0 : Int32) (0 : Int32) w _ _ _ hp hS (lv_sub hl [2, 1, 0] rfl)
def pX5_joinClan_48 (k9 : Int32 → Int32 → Int32 → Int32 → Wd → Prop) (post : Wd → Prop) (x1 : Int32) (x2 : Int32) (x3 : Int32) (x4 : Int32) (w : Wd) : Prop := ∀ x4_1, x4_1 = x4 + (1 : Int32) → k9 x1 x2 x3 x4_1 w
def pX5_joinClan_40 (k9 : Int32 → Int32 → Int32 → Int32 → Wd → Prop) (post : Wd → Prop) (x1 : Int32) (x2 : Int32) (x3 : Int32) (x4 : Int32) (w : Wd) : Prop := vp_in x4 7 ∧ ∀ w_1, w_1 = sA w 100 x4.toNatClampNeg x3 → pX5_joinClan_48 k9 post x1 x2 x3 x4 w_1
def pX5_joinClan_9 (post : Wd → Prop) : Nat → Int32 → Int32 → Int32 → Int32 → Wd → Prop
  | 0, _, _, _, _, _ => False
  | n + 1, x1, x2, x3, x4, w => ((w.1 90 0) ≤ x4 → (post w)) ∧ (¬ (w.1 90 0) ≤ x4 → (vp_in x4 7 ∧ ((w.2.1 100 x4.toNatClampNeg) = x1 → (pX5_joinClan_40 (pX5_joinClan_9 post n) post x1 x2 x3 x4 w)) ∧ (¬ (w.2.1 100 x4.toNatClampNeg) = x1 → (vp_in x4 7 ∧ (¬ (w.2.1 100 x4.toNatClampNeg) = x2 → (pX5_joinClan_48 (pX5_joinClan_9 post n) post x1 x2 x3 x4 w)) ∧ ((w.2.1 100 x4.toNatClampNeg) = x2 → (pX5_joinClan_40 (pX5_joinClan_9 post n) post x1 x2 x3 x4 w))))))
def pX5_joinClan (post : Wd → Prop) (x1 : Int32) (x2 : Int32) (w : Wd) : Prop := ∀ x3_1, x3_1 = (if x2 < x1 then x2 else x1) → ∃ n9, pX5_joinClan_9 post n9 x1 x2 x3_1 (0 : Int32) w
set_option maxHeartbeats 4000000 in
set_option maxRecDepth 100000 in
theorem bX5_joinClan_48 {p : Program} {l : Launch} {e : Env} {s : State} {m : MethodId} {args : Array Value} {below : List Frame} {meth : Method} {c : Code} {Q : State → Prop} {A : Nat → Prop} {g : Gw} {post : Wd → Prop}  (hC : Cx p s m args c cX5_joinClan RX5 5 g) (hR : RtV tabX p l e (rk 1) s m args below meth c Q cX5_joinClan A g post)  {k9 : Int32 → Int32 → Int32 → Int32 → Wd → Prop} (hk9 : ∀ (x1 : Int32) (x2 : Int32) (x3 : Int32) (x4 : Int32) (w : Wd) (H : Heap) (locs : List Loc) (ls : Array Slot), k9 x1 x2 x3 x4 w → St tabX A s.heap g w H locs → lv_has ls 5 [(0, .ref (g.2.2 90)), (1, .int x1), (2, .int x2), (3, .int x3), (4, .int x4)] → W p l e (rk 1) s m args below meth c H locs 0 0 Q (F0 m 9 ls [])) : ∀ (x1 : Int32) (x2 : Int32) (x3 : Int32) (x4 : Int32) (w : Wd) (H : Heap) (locs : List Loc) (ls : Array Slot), pX5_joinClan_48 k9 post x1 x2 x3 x4 w → St tabX A s.heap g w H locs → lv_has ls 5 [(0, .ref (g.2.2 90)), (1, .int x1), (2, .int x2), (3, .int x3), (4, .int x4)] → W p l e (rk 1) s m args below meth c H locs 0 0 Q (F0 m 48 ls []) := by
  have hx := hC.1
  have hb := hC.2.1
  intro x1 x2 x3 x4 w H locs ls hp hS hl
  unfold pX5_joinClan_48 at hp
  obtain ⟨x4_1, ex4_1⟩ : ∃ y : Int32, y = x4 + (1 : Int32) := ⟨_, rfl⟩
  have hp := hp x4_1 ex4_1
  refine lv_iinc (v := x4_1) (lv' := [(4, .int x4_1), (0, .ref (g.2.2 90)), (1, .int x1), (2, .int x2), (3, .int x3)]) hx hb dX5_joinClan_48 hl (k := 4) rfl (by rw [ex4_1]; rfl) (by decide) rfl (fun ls hl => ?_)
  refine lv_goto (tgt := 9) hx hb dX5_joinClan_51 (by decide) ?_
  exact hk9 x1 x2 x3 x4_1 w _ _ _ hp hS (lv_sub hl [1, 2, 3, 4, 0] rfl)
set_option maxHeartbeats 4000000 in
set_option maxRecDepth 100000 in
theorem bX5_joinClan_40 {p : Program} {l : Launch} {e : Env} {s : State} {m : MethodId} {args : Array Value} {below : List Frame} {meth : Method} {c : Code} {Q : State → Prop} {A : Nat → Prop} {g : Gw} {post : Wd → Prop}  (hC : Cx p s m args c cX5_joinClan RX5 5 g) (hR : RtV tabX p l e (rk 1) s m args below meth c Q cX5_joinClan A g post)  {k9 : Int32 → Int32 → Int32 → Int32 → Wd → Prop} (hk9 : ∀ (x1 : Int32) (x2 : Int32) (x3 : Int32) (x4 : Int32) (w : Wd) (H : Heap) (locs : List Loc) (ls : Array Slot), k9 x1 x2 x3 x4 w → St tabX A s.heap g w H locs → lv_has ls 5 [(0, .ref (g.2.2 90)), (1, .int x1), (2, .int x2), (3, .int x3), (4, .int x4)] → W p l e (rk 1) s m args below meth c H locs 0 0 Q (F0 m 9 ls [])) : ∀ (x1 : Int32) (x2 : Int32) (x3 : Int32) (x4 : Int32) (w : Wd) (H : Heap) (locs : List Loc) (ls : Array Slot), pX5_joinClan_40 k9 post x1 x2 x3 x4 w → St tabX A s.heap g w H locs → lv_has ls 5 [(0, .ref (g.2.2 90)), (1, .int x1), (2, .int x2), (3, .int x3), (4, .int x4)] → W p l e (rk 1) s m args below meth c H locs 0 0 Q (F0 m 40 ls []) := by
  have hx := hC.1
  have hb := hC.2.1
  intro x1 x2 x3 x4 w H locs ls hp hS hl
  unfold pX5_joinClan_40 at hp
  refine lv_aload_n hx hb dX5_joinClan_40 rfl (lv_at hl 0 rfl) ?_
  refine G_90_9 hC hS m212 dX5_joinClan_41 ?_
  refine lv_iload hx hb dX5_joinClan_44 (lv_at hl 4 rfl) ?_
  refine lv_iload_n hx hb dX5_joinClan_46 rfl (lv_at hl 3 rfl) ?_
  refine Sa_100 hC hS hp.1 dX5_joinClan_47 (fun w_1 H locs ew_1 hS => ?_)
  have hp := hp.2
  have hp := hp w_1 ew_1
  exact bX5_joinClan_48 hC hR hk9 x1 x2 x3 x4 w_1 _ _ _ hp hS (lv_sub hl [0, 1, 2, 3, 4] rfl)
set_option maxHeartbeats 4000000 in
set_option maxRecDepth 100000 in
theorem bX5_joinClan_9 {p : Program} {l : Launch} {e : Env} {s : State} {m : MethodId} {args : Array Value} {below : List Frame} {meth : Method} {c : Code} {Q : State → Prop} {A : Nat → Prop} {g : Gw} {post : Wd → Prop}  (hC : Cx p s m args c cX5_joinClan RX5 5 g) (hR : RtV tabX p l e (rk 1) s m args below meth c Q cX5_joinClan A g post)  : ∀ (n : Nat) (x1 : Int32) (x2 : Int32) (x3 : Int32) (x4 : Int32) (w : Wd) (H : Heap) (locs : List Loc) (ls : Array Slot), pX5_joinClan_9 post n x1 x2 x3 x4 w → St tabX A s.heap g w H locs → lv_has ls 5 [(0, .ref (g.2.2 90)), (1, .int x1), (2, .int x2), (3, .int x3), (4, .int x4)] → W p l e (rk 1) s m args below meth c H locs 0 0 Q (F0 m 9 ls []) := by
  have hx := hC.1
  have hb := hC.2.1
  intro n
  induction n with
  | zero =>
    intro x1 x2 x3 x4 w H locs ls hp hS hl
    exact False.elim hp
  | succ n ih =>
    intro x1 x2 x3 x4 w H locs ls hp hS hl
    unfold pX5_joinClan_9 at hp
    refine lv_iload hx hb dX5_joinClan_9 (lv_at hl 4 rfl) ?_
    refine lv_aload_n hx hb dX5_joinClan_11 rfl (lv_at hl 0 rfl) ?_
    refine G_90_0 hC hS m1240 dX5_joinClan_12 ?_
    refine lv_icmp_ge (tgt := 54) hx hb dX5_joinClan_15 (by decide) (fun c_1 => ?_) (fun c_1 => ?_)
    · have hp := hp.1 c_1
      exact hR _ _ _ _ _ dX5_joinClan_54 hp hS
    · have hp := hp.2 c_1
      refine lv_aload_n hx hb dX5_joinClan_18 rfl (lv_at hl 0 rfl) ?_
      refine G_90_9 hC hS m212 dX5_joinClan_19 ?_
      refine lv_iload hx hb dX5_joinClan_22 (lv_at hl 4 rfl) ?_
      refine La_100 hC hS hp.1 dX5_joinClan_24 ?_
      have hp := hp.2
      refine lv_iload_n hx hb dX5_joinClan_25 rfl (lv_at hl 1 rfl) ?_
      refine lv_icmp_eq (tgt := 40) hx hb dX5_joinClan_26 (by decide) (fun c_2 => ?_) (fun c_2 => ?_)
      · have hp := hp.1 c_2
        exact bX5_joinClan_40 hC hR ih x1 x2 x3 x4 w _ _ _ hp hS (lv_sub hl [0, 1, 2, 3, 4] rfl)
      · have hp := hp.2 c_2
        refine lv_aload_n hx hb dX5_joinClan_29 rfl (lv_at hl 0 rfl) ?_
        refine G_90_9 hC hS m212 dX5_joinClan_30 ?_
        refine lv_iload hx hb dX5_joinClan_33 (lv_at hl 4 rfl) ?_
        refine La_100 hC hS hp.1 dX5_joinClan_35 ?_
        have hp := hp.2
        refine lv_iload_n hx hb dX5_joinClan_36 rfl (lv_at hl 2 rfl) ?_
        refine lv_icmp_ne (tgt := 48) hx hb dX5_joinClan_37 (by decide) (fun c_3 => ?_) (fun c_3 => ?_)
        · have hp := hp.1 c_3
          exact bX5_joinClan_48 hC hR ih x1 x2 x3 x4 w _ _ _ hp hS (lv_sub hl [0, 1, 2, 3, 4] rfl)
        · have hp := hp.2 c_3
          exact bX5_joinClan_40 hC hR ih x1 x2 x3 x4 w _ _ _ hp hS (lv_sub hl [0, 1, 2, 3, 4] rfl)
set_option maxHeartbeats 4000000 in
set_option maxRecDepth 100000 in
theorem rX5_joinClan {l : Launch} {g : Gw} {w : Wd} {post : Wd → Prop}   {x1 : Int32} {x2 : Int32} (hp : pX5_joinClan post x1 x2 w) : MtV tabX l yX5_joinClan cX5_joinClan 5 none 1 g w [.ref (g.2.2 90), .int x1, .int x2] post := by
  refine q_entV tabX_nd (by decide) rfl (Nat.le_of_ble_eq_true rfl) ?_
  intro p e s m args below meth c A Q ls hC hR hS hl
  have hx := hC.1
  have hb := hC.2.1
  have hl : lv_has ls 5 [(0, .ref (g.2.2 90)), (1, .int x1), (2, .int x2)] := hl
  unfold pX5_joinClan at hp
  refine lv_iload_n hx hb dX5_joinClan_0 rfl (lv_at hl 1 rfl) ?_
  refine lv_iload_n hx hb dX5_joinClan_1 rfl (lv_at hl 2 rfl) ?_
  refine q_min hC hl.1 m1260 m347 m348 m349 (rmm (by decide) (Nat.le_of_ble_eq_true rfl)) dX5_joinClan_2 ?_
  refine lv_topi (fun x3_1 ex3_1 => ?_)
  have hp := hp x3_1 ex3_1
  refine lv_istore_n (lv' := [(3, .int x3_1), (0, .ref (g.2.2 90)), (1, .int x1), (2, .int x2)]) hx hb dX5_joinClan_5 rfl hl (by decide) rfl (fun ls hl => ?_)
  refine lv_iconst hx hb dX5_joinClan_6 kI_0 ?_
  refine lv_istore (lv' := [(4, .int (0 : Int32)), (3, .int x3_1), (0, .ref (g.2.2 90)), (1, .int x1), (2, .int x2)]) hx hb dX5_joinClan_7 hl (by decide) rfl (fun ls hl => ?_)
  obtain ⟨n9, hp⟩ := hp
  exact bX5_joinClan_9 hC hR n9 x1 x2 x3_1 (0 : Int32) w _ _ _ hp hS (lv_sub hl [2, 3, 4, 1, 0] rfl)
def pX5_joinClans_75 (k35 : Int32 → Int32 → Int32 → Wd → Prop) (post : Wd → Prop) (x1 : Int32) (x2 : Int32) (x3 : Int32) (w : Wd) : Prop := ∀ x3_1, x3_1 = x3 + (1 : Int32) → k35 x1 x2 x3_1 w
def pX5_joinClans_35 (k25 : Int32 → Int32 → Wd → Prop) (post : Wd → Prop) : Nat → Int32 → Int32 → Int32 → Wd → Prop
  | 0, _, _, _, _ => False
  | n + 1, x1, x2, x3, w => (x2 ≤ x3 → (∀ x2_2, x2_2 = x2 + (1 : Int32) → k25 x1 x2_2 w)) ∧ (¬ x2 ≤ x3 → (pX5_changesFrom (fun r_3 w_4 => pX5_changesFrom (fun r_5 w_6 => (x1 < (if r_5 < r_3 then r_5 else r_3) → (pX5_joinClans_75 (pX5_joinClans_35 k25 post n) post x1 x2 x3 w_6)) ∧ (¬ x1 < (if r_5 < r_3 then r_5 else r_3) → (vp_in x2 7 ∧ vp_in x3 7 ∧ pX5_joinClan (fun w_8 => pX5_joinClans_75 (pX5_joinClans_35 k25 post n) post x1 x2 x3 w_8) (w_6.2.1 100 x2.toNatClampNeg) (w_6.2.1 100 x3.toNatClampNeg) w_6))) x3 x2 w_4) x2 x3 w))
def pX5_joinClans_25 (post : Wd → Prop) : Nat → Int32 → Int32 → Wd → Prop
  | 0, _, _, _ => False
  | n + 1, x1, x2, w => ((w.1 90 0) ≤ x2 → (post w)) ∧ (¬ (w.1 90 0) ≤ x2 → (∃ n9, pX5_joinClans_35 (pX5_joinClans_25 post n) post n9 x1 x2 (0 : Int32) w))
def pX5_joinClans_2 (post : Wd → Prop) : Nat → Int32 → Int32 → Wd → Prop
  | 0, _, _, _ => False
  | n + 1, x1, x2, w => ((w.1 90 0) ≤ x2 → (∃ n9, pX5_joinClans_25 post n9 x1 (0 : Int32) w)) ∧ (¬ (w.1 90 0) ≤ x2 → (vp_in x2 7 ∧ ∀ w_2, w_2 = sA w 100 x2.toNatClampNeg x2 → ∀ x2_3, x2_3 = x2 + (1 : Int32) → pX5_joinClans_2 post n x1 x2_3 w_2))
def pX5_joinClans (post : Wd → Prop) (x1 : Int32) (w : Wd) : Prop := ∃ n9, pX5_joinClans_2 post n9 x1 (0 : Int32) w
set_option maxHeartbeats 4000000 in
set_option maxRecDepth 100000 in
theorem bX5_joinClans_75 {p : Program} {l : Launch} {e : Env} {s : State} {m : MethodId} {args : Array Value} {below : List Frame} {meth : Method} {c : Code} {Q : State → Prop} {A : Nat → Prop} {g : Gw} {post : Wd → Prop}  (hC : Cx p s m args c cX5_joinClans RX5 4 g) (hR : RtV tabX p l e (rk 2) s m args below meth c Q cX5_joinClans A g post)  {k35 : Int32 → Int32 → Int32 → Wd → Prop} (hk35 : ∀ (x1 : Int32) (x2 : Int32) (x3 : Int32) (w : Wd) (H : Heap) (locs : List Loc) (ls : Array Slot), k35 x1 x2 x3 w → St tabX A s.heap g w H locs → lv_has ls 4 [(0, .ref (g.2.2 90)), (1, .int x1), (2, .int x2), (3, .int x3)] → W p l e (rk 2) s m args below meth c H locs 0 0 Q (F0 m 35 ls [])) : ∀ (x1 : Int32) (x2 : Int32) (x3 : Int32) (w : Wd) (H : Heap) (locs : List Loc) (ls : Array Slot), pX5_joinClans_75 k35 post x1 x2 x3 w → St tabX A s.heap g w H locs → lv_has ls 4 [(0, .ref (g.2.2 90)), (1, .int x1), (2, .int x2), (3, .int x3)] → W p l e (rk 2) s m args below meth c H locs 0 0 Q (F0 m 75 ls []) := by
  have hx := hC.1
  have hb := hC.2.1
  intro x1 x2 x3 w H locs ls hp hS hl
  unfold pX5_joinClans_75 at hp
  obtain ⟨x3_1, ex3_1⟩ : ∃ y : Int32, y = x3 + (1 : Int32) := ⟨_, rfl⟩
  have hp := hp x3_1 ex3_1
  refine lv_iinc (v := x3_1) (lv' := [(3, .int x3_1), (0, .ref (g.2.2 90)), (1, .int x1), (2, .int x2)]) hx hb dX5_joinClans_75 hl (k := 3) rfl (by rw [ex3_1]; rfl) (by decide) rfl (fun ls hl => ?_)
  refine lv_goto (tgt := 35) hx hb dX5_joinClans_78 (by decide) ?_
  exact hk35 x1 x2 x3_1 w _ _ _ hp hS (lv_sub hl [1, 2, 3, 0] rfl)
set_option maxHeartbeats 4000000 in
set_option maxRecDepth 100000 in
theorem bX5_joinClans_35 {p : Program} {l : Launch} {e : Env} {s : State} {m : MethodId} {args : Array Value} {below : List Frame} {meth : Method} {c : Code} {Q : State → Prop} {A : Nat → Prop} {g : Gw} {post : Wd → Prop}  (hC : Cx p s m args c cX5_joinClans RX5 4 g) (hR : RtV tabX p l e (rk 2) s m args below meth c Q cX5_joinClans A g post)  {k25 : Int32 → Int32 → Wd → Prop} (hk25 : ∀ (x1 : Int32) (x2 : Int32) (w : Wd) (H : Heap) (locs : List Loc) (ls : Array Slot), k25 x1 x2 w → St tabX A s.heap g w H locs → lv_has ls 4 [(0, .ref (g.2.2 90)), (1, .int x1), (2, .int x2)] → W p l e (rk 2) s m args below meth c H locs 0 0 Q (F0 m 25 ls [])) : ∀ (n : Nat) (x1 : Int32) (x2 : Int32) (x3 : Int32) (w : Wd) (H : Heap) (locs : List Loc) (ls : Array Slot), pX5_joinClans_35 k25 post n x1 x2 x3 w → St tabX A s.heap g w H locs → lv_has ls 4 [(0, .ref (g.2.2 90)), (1, .int x1), (2, .int x2), (3, .int x3)] → W p l e (rk 2) s m args below meth c H locs 0 0 Q (F0 m 35 ls []) := by
  have hx := hC.1
  have hb := hC.2.1
  intro n
  induction n with
  | zero =>
    intro x1 x2 x3 w H locs ls hp hS hl
    exact False.elim hp
  | succ n ih =>
    intro x1 x2 x3 w H locs ls hp hS hl
    unfold pX5_joinClans_35 at hp
    refine lv_iload_n hx hb dX5_joinClans_35 rfl (lv_at hl 3 rfl) ?_
    refine lv_iload_n hx hb dX5_joinClans_36 rfl (lv_at hl 2 rfl) ?_
    refine lv_icmp_ge (tgt := 81) hx hb dX5_joinClans_37 (by decide) (fun c_1 => ?_) (fun c_1 => ?_)
    · have hp := hp.1 c_1
      obtain ⟨x2_2, ex2_2⟩ : ∃ y : Int32, y = x2 + (1 : Int32) := ⟨_, rfl⟩
      have hp := hp x2_2 ex2_2
      refine lv_iinc (v := x2_2) (lv' := [(2, .int x2_2), (0, .ref (g.2.2 90)), (1, .int x1), (3, .int x3)]) hx hb dX5_joinClans_81 hl (k := 2) rfl (by rw [ex2_2]; rfl) (by decide) rfl (fun ls hl => ?_)
      refine lv_goto (tgt := 25) hx hb dX5_joinClans_84 (by decide) ?_
      exact hk25 x1 x2_2 w _ _ _ hp hS (lv_sub hl [1, 2, 0] rfl)
    · have hp := hp.2 c_1
      refine lv_aload_n hx hb dX5_joinClans_40 rfl (lv_at hl 0 rfl) ?_
      refine lv_iload_n hx hb dX5_joinClans_41 rfl (lv_at hl 2 rfl) ?_
      refine lv_iload_n hx hb dX5_joinClans_42 rfl (lv_at hl 3 rfl) ?_
      refine q_cvI (As := [.int x2, .int x3]) (rest := []) hC hS hl.1 (rX5_changesFrom hp) cwX5_47 yvX5_changesFrom (rcv_90 hC hS) rfl rfl (Nat.le_of_ble_eq_true rfl) (rmk (by decide) (by decide)) dX5_joinClans_43 (fun r_3 w_4 H locs hp hS => ?_)
      refine lv_aload_n hx hb dX5_joinClans_46 rfl (lv_at hl 0 rfl) ?_
      refine lv_iload_n hx hb dX5_joinClans_47 rfl (lv_at hl 3 rfl) ?_
      refine lv_iload_n hx hb dX5_joinClans_48 rfl (lv_at hl 2 rfl) ?_
      refine q_cvI (As := [.int x3, .int x2]) (rest := [.int r_3]) hC hS hl.1 (rX5_changesFrom hp) cwX5_47 yvX5_changesFrom (rcv_90 hC hS) rfl rfl (Nat.le_of_ble_eq_true rfl) (rmk (by decide) (by decide)) dX5_joinClans_49 (fun r_5 w_6 H locs hp hS => ?_)
      refine q_min hC hl.1 m1260 m347 m348 m349 (rmm (by decide) (Nat.le_of_ble_eq_true rfl)) dX5_joinClans_52 ?_
      refine lv_iload_n hx hb dX5_joinClans_55 rfl (lv_at hl 1 rfl) ?_
      refine lv_icmp_gt (tgt := 75) hx hb dX5_joinClans_56 (by decide) (fun c_7 => ?_) (fun c_7 => ?_)
      · have hp := hp.1 c_7
        exact bX5_joinClans_75 hC hR ih x1 x2 x3 w_6 _ _ _ hp hS (lv_sub hl [0, 1, 2, 3] rfl)
      · have hp := hp.2 c_7
        refine lv_aload_n hx hb dX5_joinClans_59 rfl (lv_at hl 0 rfl) ?_
        refine lv_aload_n hx hb dX5_joinClans_60 rfl (lv_at hl 0 rfl) ?_
        refine G_90_9 hC hS m212 dX5_joinClans_61 ?_
        refine lv_iload_n hx hb dX5_joinClans_64 rfl (lv_at hl 2 rfl) ?_
        refine La_100 hC hS hp.1 dX5_joinClans_65 ?_
        have hp := hp.2
        refine lv_aload_n hx hb dX5_joinClans_66 rfl (lv_at hl 0 rfl) ?_
        refine G_90_9 hC hS m212 dX5_joinClans_67 ?_
        refine lv_iload_n hx hb dX5_joinClans_70 rfl (lv_at hl 3 rfl) ?_
        refine La_100 hC hS hp.1 dX5_joinClans_71 ?_
        have hp := hp.2
        refine q_cvV (As := [.int (w_6.2.1 100 x2.toNatClampNeg), .int (w_6.2.1 100 x3.toNatClampNeg)]) (rest := []) hC hS hl.1 (rX5_joinClan hp) cwX5_87 yvX5_joinClan (rcv_90 hC hS) rfl rfl (Nat.le_of_ble_eq_true rfl) (rmk (by decide) (by decide)) dX5_joinClans_72 (fun w_8 H locs hp hS => ?_)
        exact bX5_joinClans_75 hC hR ih x1 x2 x3 w_8 _ _ _ hp hS (lv_sub hl [0, 1, 2, 3] rfl)
set_option maxHeartbeats 4000000 in
set_option maxRecDepth 100000 in
theorem bX5_joinClans_25 {p : Program} {l : Launch} {e : Env} {s : State} {m : MethodId} {args : Array Value} {below : List Frame} {meth : Method} {c : Code} {Q : State → Prop} {A : Nat → Prop} {g : Gw} {post : Wd → Prop}  (hC : Cx p s m args c cX5_joinClans RX5 4 g) (hR : RtV tabX p l e (rk 2) s m args below meth c Q cX5_joinClans A g post)  : ∀ (n : Nat) (x1 : Int32) (x2 : Int32) (w : Wd) (H : Heap) (locs : List Loc) (ls : Array Slot), pX5_joinClans_25 post n x1 x2 w → St tabX A s.heap g w H locs → lv_has ls 4 [(0, .ref (g.2.2 90)), (1, .int x1), (2, .int x2)] → W p l e (rk 2) s m args below meth c H locs 0 0 Q (F0 m 25 ls []) := by
  have hx := hC.1
  have hb := hC.2.1
  intro n
  induction n with
  | zero =>
    intro x1 x2 w H locs ls hp hS hl
    exact False.elim hp
  | succ n ih =>
    intro x1 x2 w H locs ls hp hS hl
    unfold pX5_joinClans_25 at hp
    refine lv_iload_n hx hb dX5_joinClans_25 rfl (lv_at hl 2 rfl) ?_
    refine lv_aload_n hx hb dX5_joinClans_26 rfl (lv_at hl 0 rfl) ?_
    refine G_90_0 hC hS m1240 dX5_joinClans_27 ?_
    refine lv_icmp_ge (tgt := 87) hx hb dX5_joinClans_30 (by decide) (fun c_1 => ?_) (fun c_1 => ?_)
    · have hp := hp.1 c_1
      exact hR _ _ _ _ _ dX5_joinClans_87 hp hS
    · have hp := hp.2 c_1
      refine lv_iconst hx hb dX5_joinClans_33 kI_0 ?_
      refine lv_istore_n (lv' := [(3, .int (0 : Int32)), (0, .ref (g.2.2 90)), (1, .int x1), (2, .int x2)]) hx hb dX5_joinClans_34 rfl hl (by decide) rfl (fun ls hl => ?_)
      obtain ⟨n9, hp⟩ := hp
      exact bX5_joinClans_35 hC hR ih n9 x1 x2 (0 : Int32) w _ _ _ hp hS (lv_sub hl [1, 2, 3, 0] rfl)
set_option maxHeartbeats 4000000 in
set_option maxRecDepth 100000 in
theorem bX5_joinClans_2 {p : Program} {l : Launch} {e : Env} {s : State} {m : MethodId} {args : Array Value} {below : List Frame} {meth : Method} {c : Code} {Q : State → Prop} {A : Nat → Prop} {g : Gw} {post : Wd → Prop}  (hC : Cx p s m args c cX5_joinClans RX5 4 g) (hR : RtV tabX p l e (rk 2) s m args below meth c Q cX5_joinClans A g post)  : ∀ (n : Nat) (x1 : Int32) (x2 : Int32) (w : Wd) (H : Heap) (locs : List Loc) (ls : Array Slot), pX5_joinClans_2 post n x1 x2 w → St tabX A s.heap g w H locs → lv_has ls 4 [(0, .ref (g.2.2 90)), (1, .int x1), (2, .int x2)] → W p l e (rk 2) s m args below meth c H locs 0 0 Q (F0 m 2 ls []) := by
  have hx := hC.1
  have hb := hC.2.1
  intro n
  induction n with
  | zero =>
    intro x1 x2 w H locs ls hp hS hl
    exact False.elim hp
  | succ n ih =>
    intro x1 x2 w H locs ls hp hS hl
    unfold pX5_joinClans_2 at hp
    refine lv_iload_n hx hb dX5_joinClans_2 rfl (lv_at hl 2 rfl) ?_
    refine lv_aload_n hx hb dX5_joinClans_3 rfl (lv_at hl 0 rfl) ?_
    refine G_90_0 hC hS m1240 dX5_joinClans_4 ?_
    refine lv_icmp_ge (tgt := 23) hx hb dX5_joinClans_7 (by decide) (fun c_1 => ?_) (fun c_1 => ?_)
    · have hp := hp.1 c_1
      refine lv_iconst hx hb dX5_joinClans_23 kI_0 ?_
      refine lv_istore_n (lv' := [(2, .int (0 : Int32)), (0, .ref (g.2.2 90)), (1, .int x1)]) hx hb dX5_joinClans_24 rfl hl (by decide) rfl (fun ls hl => ?_)
      obtain ⟨n9, hp⟩ := hp
      exact bX5_joinClans_25 hC hR n9 x1 (0 : Int32) w _ _ _ hp hS (lv_sub hl [1, 2, 0] rfl)
    · have hp := hp.2 c_1
      refine lv_aload_n hx hb dX5_joinClans_10 rfl (lv_at hl 0 rfl) ?_
      refine G_90_9 hC hS m212 dX5_joinClans_11 ?_
      refine lv_iload_n hx hb dX5_joinClans_14 rfl (lv_at hl 2 rfl) ?_
      refine lv_iload_n hx hb dX5_joinClans_15 rfl (lv_at hl 2 rfl) ?_
      refine Sa_100 hC hS hp.1 dX5_joinClans_16 (fun w_2 H locs ew_2 hS => ?_)
      have hp := hp.2
      have hp := hp w_2 ew_2
      obtain ⟨x2_3, ex2_3⟩ : ∃ y : Int32, y = x2 + (1 : Int32) := ⟨_, rfl⟩
      have hp := hp x2_3 ex2_3
      refine lv_iinc (v := x2_3) (lv' := [(2, .int x2_3), (0, .ref (g.2.2 90)), (1, .int x1)]) hx hb dX5_joinClans_17 hl (k := 2) rfl (by rw [ex2_3]; rfl) (by decide) rfl (fun ls hl => ?_)
      refine lv_goto (tgt := 2) hx hb dX5_joinClans_20 (by decide) ?_
      exact ih x1 x2_3 w_2 _ _ _ hp hS (lv_sub hl [1, 2, 0] rfl)
set_option maxHeartbeats 4000000 in
set_option maxRecDepth 100000 in
theorem rX5_joinClans {l : Launch} {g : Gw} {w : Wd} {post : Wd → Prop}   {x1 : Int32} (hp : pX5_joinClans post x1 w) : MtV tabX l yX5_joinClans cX5_joinClans 4 none 2 g w [.ref (g.2.2 90), .int x1] post := by
  refine q_entV tabX_nd (by decide) rfl (Nat.le_of_ble_eq_true rfl) ?_
  intro p e s m args below meth c A Q ls hC hR hS hl
  have hx := hC.1
  have hb := hC.2.1
  have hl : lv_has ls 4 [(0, .ref (g.2.2 90)), (1, .int x1)] := hl
  unfold pX5_joinClans at hp
  refine lv_iconst hx hb dX5_joinClans_0 kI_0 ?_
  refine lv_istore_n (lv' := [(2, .int (0 : Int32)), (0, .ref (g.2.2 90)), (1, .int x1)]) hx hb dX5_joinClans_1 rfl hl (by decide) rfl (fun ls hl => ?_)
  obtain ⟨n9, hp⟩ := hp
  exact bX5_joinClans_2 hC hR n9 x1 (0 : Int32) w _ _ _ hp hS (lv_sub hl [1, 2, 0] rfl)
