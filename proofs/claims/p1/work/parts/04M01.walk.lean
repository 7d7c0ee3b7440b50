def pX11_print (post : Int32 → Wd → Prop) (x1 : Int32) (w : Wd) : Prop := pX11_isSeal (fun r_1 w_2 => (r_1 = 0 → (post (-1 : Int32) w_2)) ∧ (¬ r_1 = 0 → (((w_2.2.1 341 (217 : Int32).toNatClampNeg) = (40 : Int32) → (post (-1 : Int32) w_2)) ∧ (¬ (w_2.2.1 341 (217 : Int32).toNatClampNeg) = (40 : Int32) → ((¬ (w_2.2.1 341 (218 : Int32).toNatClampNeg) = 0 → (pX11_keepAct (fun w_6 => ∀ x2_7, x2_7 = (w_6.2.1 341 (217 : Int32).toNatClampNeg) → pX11_rowOf (fun r_8 w_9 => pX11_turnedRow (fun r_10 w_11 => vp_in ((96 : Int32) + ((3 : Int32) * x2_7)) 221 ∧ ∀ w_12, w_12 = sA w_11 341 ((96 : Int32) + ((3 : Int32) * x2_7)).toNatClampNeg r_10 → vp_in (((96 : Int32) + ((3 : Int32) * x2_7)) + (1 : Int32)) 221 ∧ ∀ w_13, w_13 = sA w_12 341 (((96 : Int32) + ((3 : Int32) * x2_7)) + (1 : Int32)).toNatClampNeg x1 → vp_in (((96 : Int32) + ((3 : Int32) * x2_7)) + (2 : Int32)) 221 ∧ ∀ w_14, w_14 = sA w_13 341 (((96 : Int32) + ((3 : Int32) * x2_7)) + (2 : Int32)).toNatClampNeg (w_13.2.1 341 (219 : Int32).toNatClampNeg) → ∀ w_15, w_15 = sA w_14 341 (217 : Int32).toNatClampNeg ((w_14.2.1 341 (217 : Int32).toNatClampNeg) + (1 : Int32)) → ∀ w_16, w_16 = sA w_15 341 (218 : Int32).toNatClampNeg ((w_15.2.1 341 (218 : Int32).toNatClampNeg) - (1 : Int32)) → post x2_7 w_16) r_8 w_9) x1 w_6) w_2)) ∧ ((w_2.2.1 341 (218 : Int32).toNatClampNeg) = 0 → (post (-1 : Int32) w_2))))))) x1 w
set_option maxHeartbeats 4000000 in
set_option maxRecDepth 100000 in
theorem rX11_print {l : Launch} {g : Gw} {w : Wd} {post : Int32 → Wd → Prop}   {x1 : Int32} (hp : pX11_print post x1 w) : MtI tabM l yX11_print cX11_print 3 (some .int) 3 g w [.ref (g.2.2 300), .int x1] post := by
  refine q_entI tabM_nd (by decide) rfl (Nat.le_of_ble_eq_true rfl) ?_
  intro p e s m args below meth c A Q ls hC hR hS hl
  have hx := hC.1
  have hb := hC.2.1
  have hl : lv_has ls 3 [(0, .ref (g.2.2 300)), (1, .int x1)] := hl
  unfold pX11_print at hp
  refine lv_aload_n hx hb dX11_print_0 rfl (lv_at hl 0 rfl) ?_
  refine lv_iload_n hx hb dX11_print_1 rfl (lv_at hl 1 rfl) ?_
  refine q_cvI (As := [.int x1]) (rest := []) hC hS hl.1 (rX11_isSeal hp) cwX11_383 yvX11_isSeal (rcv_300 hC hS) rfl rfl (Nat.le_of_ble_eq_true rfl) (rmk (by decide) (by decide)) dX11_print_2 (fun r_1 w_2 H locs hp hS => ?_)
  refine lv_if_eq (tgt := 32) hx hb dX11_print_5 (by decide) (fun c_3 => ?_) (fun c_3 => ?_)
  · have hp := hp.1 c_3
    refine lv_iconst hx hb dX11_print_32 kI_m1 ?_
    exact hR _ _ _ _ _ _ dX11_print_33 hp hS
  · have hp := hp.2 c_3
    refine lv_aload_n hx hb dX11_print_8 rfl (lv_at hl 0 rfl) ?_
    refine G_300_40 hC hS m274 dX11_print_9 ?_
    refine lv_sipush hx hb dX11_print_12 kS_217 ?_
    refine La_341 hC hS (by unfold vp_in; decide) dX11_print_15 ?_
    refine lv_bipush hx hb dX11_print_16 kB_40 ?_
    refine lv_icmp_eq (tgt := 32) hx hb dX11_print_18 (by decide) (fun c_4 => ?_) (fun c_4 => ?_)
    · have hp := hp.1 c_4
      refine lv_iconst hx hb dX11_print_32 kI_m1 ?_
      exact hR _ _ _ _ _ _ dX11_print_33 hp hS
    · have hp := hp.2 c_4
      refine lv_aload_n hx hb dX11_print_21 rfl (lv_at hl 0 rfl) ?_
      refine G_300_40 hC hS m274 dX11_print_22 ?_
      refine lv_sipush hx hb dX11_print_25 kS_218 ?_
      refine La_341 hC hS (by unfold vp_in; decide) dX11_print_28 ?_
      refine lv_if_ne (tgt := 34) hx hb dX11_print_29 (by decide) (fun c_5 => ?_) (fun c_5 => ?_)
      · have hp := hp.1 c_5
        refine lv_aload_n hx hb dX11_print_34 rfl (lv_at hl 0 rfl) ?_
        refine q_cvV (As := []) (rest := []) hC hS hl.1 (rX11_keepAct hp) cwX11_389 yvX11_keepAct (rcv_300 hC hS) rfl rfl (Nat.le_of_ble_eq_true rfl) (rmk (by decide) (by decide)) dX11_print_35 (fun w_6 H locs hp hS => ?_)
        refine lv_aload_n hx hb dX11_print_38 rfl (lv_at hl 0 rfl) ?_
        refine G_300_40 hC hS m274 dX11_print_39 ?_
        refine lv_sipush hx hb dX11_print_42 kS_217 ?_
        refine La_341 hC hS (by unfold vp_in; decide) dX11_print_45 ?_
        refine lv_topi (fun x2_7 ex2_7 => ?_)
        have hp := hp x2_7 ex2_7
        refine lv_istore_n (lv' := [(2, .int x2_7), (0, .ref (g.2.2 300)), (1, .int x1)]) hx hb dX11_print_46 rfl hl (by decide) rfl (fun ls hl => ?_)
        refine lv_aload_n hx hb dX11_print_47 rfl (lv_at hl 1 rfl) ?_
        refine G_300_40 hC hS m274 dX11_print_48 ?_
        refine lv_bipush hx hb dX11_print_51 kB_96 ?_
        refine lv_iconst hx hb dX11_print_53 kI_3 ?_
        refine lv_iload_n hx hb dX11_print_54 rfl (lv_at hl 0 rfl) ?_
        refine lv_imul hx hb dX11_print_55 ?_
        refine lv_iadd hx hb dX11_print_56 ?_
        refine lv_aload_n hx hb dX11_print_57 rfl (lv_at hl 1 rfl) ?_
        refine lv_aload_n hx hb dX11_print_58 rfl (lv_at hl 1 rfl) ?_
        refine lv_iload_n hx hb dX11_print_59 rfl (lv_at hl 2 rfl) ?_
        refine q_cvI (As := [.int x1]) (rest := [.ref (g.2.2 300), .int ((96 : Int32) + ((3 : Int32) * x2_7)), .ref (g.2.2 341)]) hC hS hl.1 (rX11_rowOf hp) cwX11_392 yvX11_rowOf (rcv_300 hC hS) rfl rfl (Nat.le_of_ble_eq_true rfl) (rmk (by decide) (by decide)) dX11_print_60 (fun r_8 w_9 H locs hp hS => ?_)
        refine q_cvI (As := [.int r_8]) (rest := [.int ((96 : Int32) + ((3 : Int32) * x2_7)), .ref (g.2.2 341)]) hC hS hl.1 (rX11_turnedRow hp) cwX11_349 yvX11_turnedRow (rcv_300 hC hS) rfl rfl (Nat.le_of_ble_eq_true rfl) (rmk (by decide) (by decide)) dX11_print_63 (fun r_10 w_11 H locs hp hS => ?_)
        refine Sa_341 hC hS hp.1 dX11_print_66 (fun w_12 H locs ew_12 hS => ?_)
        have hp := hp.2
        have hp := hp w_12 ew_12
        refine lv_aload_n hx hb dX11_print_67 rfl (lv_at hl 1 rfl) ?_
        refine G_300_40 hC hS m274 dX11_print_68 ?_
        refine lv_bipush hx hb dX11_print_71 kB_96 ?_
        refine lv_iconst hx hb dX11_print_73 kI_3 ?_
        refine lv_iload_n hx hb dX11_print_74 rfl (lv_at hl 0 rfl) ?_
        refine lv_imul hx hb dX11_print_75 ?_
        refine lv_iadd hx hb dX11_print_76 ?_
        refine lv_iconst hx hb dX11_print_77 kI_1 ?_
        refine lv_iadd hx hb dX11_print_78 ?_
        refine lv_iload_n hx hb dX11_print_79 rfl (lv_at hl 2 rfl) ?_
        refine Sa_341 hC hS hp.1 dX11_print_80 (fun w_13 H locs ew_13 hS => ?_)
        have hp := hp.2
        have hp := hp w_13 ew_13
        refine lv_aload_n hx hb dX11_print_81 rfl (lv_at hl 1 rfl) ?_
        refine G_300_40 hC hS m274 dX11_print_82 ?_
        refine lv_bipush hx hb dX11_print_85 kB_96 ?_
        refine lv_iconst hx hb dX11_print_87 kI_3 ?_
        refine lv_iload_n hx hb dX11_print_88 rfl (lv_at hl 0 rfl) ?_
        refine lv_imul hx hb dX11_print_89 ?_
        refine lv_iadd hx hb dX11_print_90 ?_
        refine lv_iconst hx hb dX11_print_91 kI_2 ?_
        refine lv_iadd hx hb dX11_print_92 ?_
        refine lv_aload_n hx hb dX11_print_93 rfl (lv_at hl 1 rfl) ?_
        refine G_300_40 hC hS m274 dX11_print_94 ?_
        refine lv_sipush hx hb dX11_print_97 kS_219 ?_
        refine La_341 hC hS (by unfold vp_in; decide) dX11_print_100 ?_
        refine Sa_341 hC hS hp.1 dX11_print_101 (fun w_14 H locs ew_14 hS => ?_)
        have hp := hp.2
        have hp := hp w_14 ew_14
        refine lv_aload_n hx hb dX11_print_102 rfl (lv_at hl 1 rfl) ?_
        refine G_300_40 hC hS m274 dX11_print_103 ?_
        refine lv_sipush hx hb dX11_print_106 kS_217 ?_
        refine lv_dup2_11 hx hb dX11_print_109 rfl rfl ?_
        refine La_341 hC hS (by unfold vp_in; decide) dX11_print_110 ?_
        refine lv_iconst hx hb dX11_print_111 kI_1 ?_
        refine lv_iadd hx hb dX11_print_112 ?_
        refine Sa_341 hC hS (by unfold vp_in; decide) dX11_print_113 (fun w_15 H locs ew_15 hS => ?_)
        have hp := hp w_15 ew_15
        refine lv_aload_n hx hb dX11_print_114 rfl (lv_at hl 1 rfl) ?_
        refine G_300_40 hC hS m274 dX11_print_115 ?_
        refine lv_sipush hx hb dX11_print_118 kS_218 ?_
        refine lv_dup2_11 hx hb dX11_print_121 rfl rfl ?_
        refine La_341 hC hS (by unfold vp_in; decide) dX11_print_122 ?_
        refine lv_iconst hx hb dX11_print_123 kI_1 ?_
        refine lv_isub hx hb dX11_print_124 ?_
        refine Sa_341 hC hS (by unfold vp_in; decide) dX11_print_125 (fun w_16 H locs ew_16 hS => ?_)
        have hp := hp w_16 ew_16
        refine lv_iload_n hx hb dX11_print_126 rfl (lv_at hl 0 rfl) ?_
        exact hR _ _ _ _ _ _ dX11_print_127 hp hS
      · have hp := hp.2 c_5
        refine lv_iconst hx hb dX11_print_32 kI_m1 ?_
        exact hR _ _ _ _ _ _ dX11_print_33 hp hS
def pX11_crack (post : Int32 → Wd → Prop) (x1 : Int32) (x2 : Int32) (w : Wd) : Prop := pX11_isSeal (fun r_1 w_2 => (r_1 = 0 → (post (0 : Int32) w_2)) ∧ (¬ r_1 = 0 → (pX11_width (fun r_4 w_5 => pX11_isIn (fun r_6 w_7 => (r_6 = 0 → (post (0 : Int32) w_7)) ∧ (¬ r_6 = 0 → (pX11_rowOf (fun r_9 w_10 => (¬ ((r_9 >>> (x2 &&& 31)) &&& (1 : Int32)) = 0 → (pX11_keepAct (fun w_12 => vp_in ((4 : Int32) * x1) 221 ∧ vp_in ((4 : Int32) * x1) 221 ∧ ∀ w_13, w_13 = sA w_12 341 ((4 : Int32) * x1).toNatClampNeg ((w_12.2.1 341 ((4 : Int32) * x1).toNatClampNeg) - ((1 : Int32) <<< (x2 &&& 31))) → post (1 : Int32) w_13) w_10)) ∧ (((r_9 >>> (x2 &&& 31)) &&& (1 : Int32)) = 0 → (post (0 : Int32) w_10))) x1 w_7))) x2 (0 : Int32) (r_4 - (1 : Int32)) w_5) w_2))) x1 w
set_option maxHeartbeats 4000000 in
set_option maxRecDepth 100000 in
theorem rX11_crack {l : Launch} {g : Gw} {w : Wd} {post : Int32 → Wd → Prop}   {x1 : Int32} {x2 : Int32} (hp : pX11_crack post x1 x2 w) : MtI tabM l yX11_crack cX11_crack 3 (some .boolean) 3 g w [.ref (g.2.2 300), .int x1, .int x2] post := by
  refine q_entZ tabM_nd (by decide) rfl (Nat.le_of_ble_eq_true rfl) ?_
  intro p e s m args below meth c A Q ls hC hR hS hl
  have hx := hC.1
  have hb := hC.2.1
  have hl : lv_has ls 3 [(0, .ref (g.2.2 300)), (1, .int x1), (2, .int x2)] := hl
  unfold pX11_crack at hp
  refine lv_aload_n hx hb dX11_crack_0 rfl (lv_at hl 0 rfl) ?_
  refine lv_iload_n hx hb dX11_crack_1 rfl (lv_at hl 1 rfl) ?_
  refine q_cvI (As := [.int x1]) (rest := []) hC hS hl.1 (rX11_isSeal hp) cwX11_383 yvX11_isSeal (rcv_300 hC hS) rfl rfl (Nat.le_of_ble_eq_true rfl) (rmk (by decide) (by decide)) dX11_crack_2 (fun r_1 w_2 H locs hp hS => ?_)
  refine lv_if_eq (tgt := 34) hx hb dX11_crack_5 (by decide) (fun c_3 => ?_) (fun c_3 => ?_)
  · have hp := hp.1 c_3
    refine lv_iconst hx hb dX11_crack_34 kI_0 ?_
    exact hR _ _ _ _ _ _ dX11_crack_35 (by decide) hp hS
  · have hp := hp.2 c_3
    refine lv_iload_n hx hb dX11_crack_8 rfl (lv_at hl 2 rfl) ?_
    refine lv_iconst hx hb dX11_crack_9 kI_0 ?_
    refine lv_aload_n hx hb dX11_crack_10 rfl (lv_at hl 0 rfl) ?_
    refine q_cvI (As := []) (rest := [.int (0 : Int32), .int x2]) hC hS hl.1 (rX11_width hp) cwX11_342 yvX11_width (rcv_300 hC hS) rfl rfl (Nat.le_of_ble_eq_true rfl) (rmk (by decide) (by decide)) dX11_crack_11 (fun r_4 w_5 H locs hp hS => ?_)
    refine lv_iconst hx hb dX11_crack_14 kI_1 ?_
    refine lv_isub hx hb dX11_crack_15 ?_
    refine q_csI (As := [.int x2, .int (0 : Int32), .int (r_4 - (1 : Int32))]) (rest := []) hC hS hl.1 (rX11_isIn hp) cwX11_345 ysX11_isIn rfl rfl (Nat.le_of_ble_eq_true rfl) (rmk (by decide) (by decide)) dX11_crack_16 (fun r_6 w_7 H locs hp hS => ?_)
    refine lv_if_eq (tgt := 34) hx hb dX11_crack_19 (by decide) (fun c_8 => ?_) (fun c_8 => ?_)
    · have hp := hp.1 c_8
      refine lv_iconst hx hb dX11_crack_34 kI_0 ?_
      exact hR _ _ _ _ _ _ dX11_crack_35 (by decide) hp hS
    · have hp := hp.2 c_8
      refine lv_aload_n hx hb dX11_crack_22 rfl (lv_at hl 0 rfl) ?_
      refine lv_iload_n hx hb dX11_crack_23 rfl (lv_at hl 1 rfl) ?_
      refine q_cvI (As := [.int x1]) (rest := []) hC hS hl.1 (rX11_rowOf hp) cwX11_392 yvX11_rowOf (rcv_300 hC hS) rfl rfl (Nat.le_of_ble_eq_true rfl) (rmk (by decide) (by decide)) dX11_crack_24 (fun r_9 w_10 H locs hp hS => ?_)
      refine lv_iload_n hx hb dX11_crack_27 rfl (lv_at hl 2 rfl) ?_
      refine lv_ishr hx hb dX11_crack_28 ?_
      refine lv_iconst hx hb dX11_crack_29 kI_1 ?_
      refine lv_iand hx hb dX11_crack_30 ?_
      refine lv_if_ne (tgt := 36) hx hb dX11_crack_31 (by decide) (fun c_11 => ?_) (fun c_11 => ?_)
      · have hp := hp.1 c_11
        refine lv_aload_n hx hb dX11_crack_36 rfl (lv_at hl 0 rfl) ?_
        refine q_cvV (As := []) (rest := []) hC hS hl.1 (rX11_keepAct hp) cwX11_389 yvX11_keepAct (rcv_300 hC hS) rfl rfl (Nat.le_of_ble_eq_true rfl) (rmk (by decide) (by decide)) dX11_crack_37 (fun w_12 H locs hp hS => ?_)
        refine lv_aload_n hx hb dX11_crack_40 rfl (lv_at hl 0 rfl) ?_
        refine G_300_40 hC hS m274 dX11_crack_41 ?_
        refine lv_iconst hx hb dX11_crack_44 kI_4 ?_
        refine lv_iload_n hx hb dX11_crack_45 rfl (lv_at hl 1 rfl) ?_
        refine lv_imul hx hb dX11_crack_46 ?_
        refine lv_dup2_11 hx hb dX11_crack_47 rfl rfl ?_
        refine La_341 hC hS hp.1 dX11_crack_48 ?_
        have hp := hp.2
        refine lv_iconst hx hb dX11_crack_49 kI_1 ?_
        refine lv_iload_n hx hb dX11_crack_50 rfl (lv_at hl 2 rfl) ?_
        refine lv_ishl hx hb dX11_crack_51 ?_
        refine lv_isub hx hb dX11_crack_52 ?_
        refine Sa_341 hC hS hp.1 dX11_crack_53 (fun w_13 H locs ew_13 hS => ?_)
        have hp := hp.2
        have hp := hp w_13 ew_13
        refine lv_iconst hx hb dX11_crack_54 kI_1 ?_
        exact hR _ _ _ _ _ _ dX11_crack_55 (by decide) hp hS
      · have hp := hp.2 c_11
        refine lv_iconst hx hb dX11_crack_34 kI_0 ?_
        exact hR _ _ _ _ _ _ dX11_crack_35 (by decide) hp hS
def pX11_year (post : Int32 → Wd → Prop)  (w : Wd) : Prop := (¬ (w.2.1 341 (219 : Int32).toNatClampNeg) = (999 : Int32) → (pX11_keepAct (fun w_2 => ∀ w_3, w_3 = sA w_2 341 (219 : Int32).toNatClampNeg ((w_2.2.1 341 (219 : Int32).toNatClampNeg) + (1 : Int32)) → post (w_3.2.1 341 (219 : Int32).toNatClampNeg) w_3) w)) ∧ ((w.2.1 341 (219 : Int32).toNatClampNeg) = (999 : Int32) → (post (-1 : Int32) w))
set_option maxHeartbeats 4000000 in
set_option maxRecDepth 100000 in
theorem rX11_year {l : Launch} {g : Gw} {w : Wd} {post : Int32 → Wd → Prop}    (hp : pX11_year post  w) : MtI tabM l yX11_year cX11_year 1 (some .int) 2 g w [.ref (g.2.2 300)] post := by
  refine q_entI tabM_nd (by decide) rfl (Nat.le_of_ble_eq_true rfl) ?_
  intro p e s m args below meth c A Q ls hC hR hS hl
  have hx := hC.1
  have hb := hC.2.1
  have hl : lv_has ls 1 [(0, .ref (g.2.2 300))] := hl
  unfold pX11_year at hp
  refine lv_aload_n hx hb dX11_year_0 rfl (lv_at hl 0 rfl) ?_
  refine G_300_40 hC hS m274 dX11_year_1 ?_
  refine lv_sipush hx hb dX11_year_4 kS_219 ?_
  refine La_341 hC hS (by unfold vp_in; decide) dX11_year_7 ?_
  refine lv_sipush hx hb dX11_year_8 kS_999 ?_
  refine lv_icmp_ne (tgt := 16) hx hb dX11_year_11 (by decide) (fun c_1 => ?_) (fun c_1 => ?_)
  · have hp := hp.1 c_1
    refine lv_aload_n hx hb dX11_year_16 rfl (lv_at hl 0 rfl) ?_
    refine q_cvV (As := []) (rest := []) hC hS hl.1 (rX11_keepAct hp) cwX11_389 yvX11_keepAct (rcv_300 hC hS) rfl rfl (Nat.le_of_ble_eq_true rfl) (rmk (by decide) (by decide)) dX11_year_17 (fun w_2 H locs hp hS => ?_)
    refine lv_aload_n hx hb dX11_year_20 rfl (lv_at hl 0 rfl) ?_
    refine G_300_40 hC hS m274 dX11_year_21 ?_
    refine lv_sipush hx hb dX11_year_24 kS_219 ?_
    refine lv_dup2_11 hx hb dX11_year_27 rfl rfl ?_
    refine La_341 hC hS (by unfold vp_in; decide) dX11_year_28 ?_
    refine lv_iconst hx hb dX11_year_29 kI_1 ?_
    refine lv_iadd hx hb dX11_year_30 ?_
    refine Sa_341 hC hS (by unfold vp_in; decide) dX11_year_31 (fun w_3 H locs ew_3 hS => ?_)
    have hp := hp w_3 ew_3
    refine lv_aload_n hx hb dX11_year_32 rfl (lv_at hl 0 rfl) ?_
    refine G_300_40 hC hS m274 dX11_year_33 ?_
    refine lv_sipush hx hb dX11_year_36 kS_219 ?_
    refine La_341 hC hS (by unfold vp_in; decide) dX11_year_39 ?_
    exact hR _ _ _ _ _ _ dX11_year_40 hp hS
  · have hp := hp.2 c_1
    refine lv_iconst hx hb dX11_year_14 kI_m1 ?_
    exact hR _ _ _ _ _ _ dX11_year_15 hp hS
def pX11_undo (post : Int32 → Wd → Prop)  (w : Wd) : Prop := (¬ (w.1 300 42) = 0 → (∀ w_2, w_2 = sI w 300 42 ((w.1 300 42) - (1 : Int32)) → ∀ w_3, w_3 = sI w_2 300 43 ((w_2.1 300 43) + (1 : Int32)) → False)) ∧ ((w.1 300 42) = 0 → (post (0 : Int32) w))
set_option maxHeartbeats 4000000 in
set_option maxRecDepth 100000 in
theorem rX11_undo {l : Launch} {g : Gw} {w : Wd} {post : Int32 → Wd → Prop}    (hp : pX11_undo post  w) : MtI tabM l yX11_undo cX11_undo 1 (some .boolean) 1 g w [.ref (g.2.2 300)] post := by
  refine q_entZ tabM_nd (by decide) rfl (Nat.le_of_ble_eq_true rfl) ?_
  intro p e s m args below meth c A Q ls hC hR hS hl
  have hx := hC.1
  have hb := hC.2.1
  have hl : lv_has ls 1 [(0, .ref (g.2.2 300))] := hl
  unfold pX11_undo at hp
  refine lv_aload_n hx hb dX11_undo_0 rfl (lv_at hl 0 rfl) ?_
  refine G_300_42 hC hS m309 dX11_undo_1 ?_
  refine lv_if_ne (tgt := 9) hx hb dX11_undo_4 (by decide) (fun c_1 => ?_) (fun c_1 => ?_)
  · have hp := hp.1 c_1
    refine lv_aload_n hx hb dX11_undo_9 rfl (lv_at hl 0 rfl) ?_
    refine lv_dup hx hb dX11_undo_10 rfl ?_
    refine G_300_42 hC hS m309 dX11_undo_11 ?_
    refine lv_iconst hx hb dX11_undo_14 kI_1 ?_
    refine lv_isub hx hb dX11_undo_15 ?_
    refine P_300_42 hC hS m309 dX11_undo_16 (fun w_2 H locs ew_2 hS => ?_)
    have hp := hp w_2 ew_2
    refine lv_aload_n hx hb dX11_undo_19 rfl (lv_at hl 0 rfl) ?_
    refine lv_dup hx hb dX11_undo_20 rfl ?_
    refine G_300_43 hC hS m310 dX11_undo_21 ?_
    refine lv_iconst hx hb dX11_undo_24 kI_1 ?_
    refine lv_iadd hx hb dX11_undo_25 ?_
    refine P_300_43 hC hS m310 dX11_undo_26 (fun w_3 H locs ew_3 hS => ?_)
    have hp := hp w_3 ew_3
    refine lv_aload_n hx hb dX11_undo_29 rfl (lv_at hl 0 rfl) ?_
    exact False.elim hp
  · have hp := hp.2 c_1
    refine lv_iconst hx hb dX11_undo_7 kI_0 ?_
    exact hR _ _ _ _ _ _ dX11_undo_8 (by decide) hp hS
def pX11_redo (post : Int32 → Wd → Prop)  (w : Wd) : Prop := (¬ (w.1 300 43) = 0 → (False)) ∧ ((w.1 300 43) = 0 → (post (0 : Int32) w))
set_option maxHeartbeats 4000000 in
set_option maxRecDepth 100000 in
theorem rX11_redo {l : Launch} {g : Gw} {w : Wd} {post : Int32 → Wd → Prop}    (hp : pX11_redo post  w) : MtI tabM l yX11_redo cX11_redo 1 (some .boolean) 1 g w [.ref (g.2.2 300)] post := by
  refine q_entZ tabM_nd (by decide) rfl (Nat.le_of_ble_eq_true rfl) ?_
  intro p e s m args below meth c A Q ls hC hR hS hl
  have hx := hC.1
  have hb := hC.2.1
  have hl : lv_has ls 1 [(0, .ref (g.2.2 300))] := hl
  unfold pX11_redo at hp
  refine lv_aload_n hx hb dX11_redo_0 rfl (lv_at hl 0 rfl) ?_
  refine G_300_43 hC hS m310 dX11_redo_1 ?_
  refine lv_if_ne (tgt := 9) hx hb dX11_redo_4 (by decide) (fun c_1 => ?_) (fun c_1 => ?_)
  · have hp := hp.1 c_1
    refine lv_aload_n hx hb dX11_redo_9 rfl (lv_at hl 0 rfl) ?_
    exact False.elim hp
  · have hp := hp.2 c_1
    refine lv_iconst hx hb dX11_redo_7 kI_0 ?_
    exact hR _ _ _ _ _ _ dX11_redo_8 (by decide) hp hS
def pX11_whose_71 (k31 : Int32 → Int32 → Int32 → Int32 → Int32 → Wd → Prop) (post : Int32 → Wd → Prop) (x1 : Int32) (x2 : Int32) (x3 : Int32) (x4 : Int32) (x5 : Int32) (w : Wd) : Prop := ∀ x5_1, x5_1 = x5 + (1 : Int32) → k31 x1 x2 x3 x4 x5_1 w
def pX11_whose_31 (post : Int32 → Wd → Prop) : Nat → Int32 → Int32 → Int32 → Int32 → Int32 → Wd → Prop
  | 0, _, _, _, _, _, _ => False
  | n + 1, x1, x2, x3, x4, x5, w => vp_in (w.1 300 29) 2 ∧ ((w.2.1 314 (w.1 300 29).toNatClampNeg) ≤ x5 → (post x4 w)) ∧ (¬ (w.2.1 314 (w.1 300 29).toNatClampNeg) ≤ x5 → (pX11_rowOf (fun r_2 w_3 => False) x1 w))
def pX11_whose (post : Int32 → Wd → Prop) (x1 : Int32) (x2 : Int32) (x3 : Int32) (w : Wd) : Prop := pX11_isSeal (fun r_1 w_2 => (r_1 = 0 → (post (-1 : Int32) w_2)) ∧ (¬ r_1 = 0 → (pX11_isHeat (fun r_4 w_5 => (r_4 = 0 → (post (-1 : Int32) w_5)) ∧ (¬ r_4 = 0 → (pX11_isRow (fun r_7 w_8 => (¬ r_7 = 0 → (∃ n9, pX11_whose_31 post n9 x1 x2 x3 (0 : Int32) (0 : Int32) w_8)) ∧ (r_7 = 0 → (post (-1 : Int32) w_8))) x3 w_5))) x2 w_2))) x1 w
set_option maxHeartbeats 4000000 in
set_option maxRecDepth 100000 in
theorem bX11_whose_71 {p : Program} {l : Launch} {e : Env} {s : State} {m : MethodId} {args : Array Value} {below : List Frame} {meth : Method} {c : Code} {Q : State → Prop} {A : Nat → Prop} {g : Gw} {post : Int32 → Wd → Prop}  (hC : Cx p s m args c cX11_whose RX11 6 g) (hR : RtI tabM p l e (rk 3) s m args below meth c Q cX11_whose A g post)  {k31 : Int32 → Int32 → Int32 → Int32 → Int32 → Wd → Prop} (hk31 : ∀ (x1 : Int32) (x2 : Int32) (x3 : Int32) (x4 : Int32) (x5 : Int32) (w : Wd) (H : Heap) (locs : List Loc) (ls : Array Slot), k31 x1 x2 x3 x4 x5 w → St tabM A s.heap g w H locs → lv_has ls 6 [(0, .ref (g.2.2 300)), (1, .int x1), (2, .int x2), (3, .int x3), (4, .int x4), (5, .int x5)] → W p l e (rk 3) s m args below meth c H locs 0 0 Q (F0 m 31 ls [])) : ∀ (x1 : Int32) (x2 : Int32) (x3 : Int32) (x4 : Int32) (x5 : Int32) (w : Wd) (H : Heap) (locs : List Loc) (ls : Array Slot), pX11_whose_71 k31 post x1 x2 x3 x4 x5 w → St tabM A s.heap g w H locs → lv_has ls 6 [(0, .ref (g.2.2 300)), (1, .int x1), (2, .int x2), (3, .int x3), (4, .int x4), (5, .int x5)] → W p l e (rk 3) s m args below meth c H locs 0 0 Q (F0 m 71 ls []) := by
  have hx := hC.1
  have hb := hC.2.1
  intro x1 x2 x3 x4 x5 w H locs ls hp hS hl
  unfold pX11_whose_71 at hp
  obtain ⟨x5_1, ex5_1⟩ : ∃ y : Int32, y = x5 + (1 : Int32) := ⟨_, rfl⟩
  have hp := hp x5_1 ex5_1
  refine lv_iinc (v := x5_1) (lv' := [(5, .int x5_1), (0, .ref (g.2.2 300)), (1, .int x1), (2, .int x2), (3, .int x3), (4, .int x4)]) hx hb dX11_whose_71 hl (k := 5) rfl (by rw [ex5_1]; rfl) (by decide) rfl (fun ls hl => ?_)
  refine lv_goto (tgt := 31) hx hb dX11_whose_74 (by decide) ?_
  exact hk31 x1 x2 x3 x4 x5_1 w _ _ _ hp hS (lv_sub hl [1, 2, 3, 4, 5, 0] rfl)
set_option maxHeartbeats 4000000 in
set_option maxRecDepth 100000 in
theorem bX11_whose_31 {p : Program} {l : Launch} {e : Env} {s : State} {m : MethodId} {args : Array Value} {below : List Frame} {meth : Method} {c : Code} {Q : State → Prop} {A : Nat → Prop} {g : Gw} {post : Int32 → Wd → Prop}  (hC : Cx p s m args c cX11_whose RX11 6 g) (hR : RtI tabM p l e (rk 3) s m args below meth c Q cX11_whose A g post)  : ∀ (n : Nat) (x1 : Int32) (x2 : Int32) (x3 : Int32) (x4 : Int32) (x5 : Int32) (w : Wd) (H : Heap) (locs : List Loc) (ls : Array Slot), pX11_whose_31 post n x1 x2 x3 x4 x5 w → St tabM A s.heap g w H locs → lv_has ls 6 [(0, .ref (g.2.2 300)), (1, .int x1), (2, .int x2), (3, .int x3), (4, .int x4), (5, .int x5)] → W p l e (rk 3) s m args below meth c H locs 0 0 Q (F0 m 31 ls []) := by
  have hx := hC.1
  have hb := hC.2.1
  intro n
  induction n with
  | zero =>
    intro x1 x2 x3 x4 x5 w H locs ls hp hS hl
    exact False.elim hp
  | succ n ih =>
    intro x1 x2 x3 x4 x5 w H locs ls hp hS hl
    unfold pX11_whose_31 at hp
    refine lv_iload hx hb dX11_whose_31 (lv_at hl 5 rfl) ?_
    refine lv_aload_n hx hb dX11_whose_33 rfl (lv_at hl 0 rfl) ?_
    refine G_300_13 hC hS m258 dX11_whose_34 ?_
    refine lv_aload_n hx hb dX11_whose_37 rfl (lv_at hl 0 rfl) ?_
    refine G_300_29 hC hS m308 dX11_whose_38 ?_
    refine La_314 hC hS hp.1 dX11_whose_41 ?_
    have hp := hp.2
    refine lv_icmp_ge (tgt := 77) hx hb dX11_whose_42 (by decide) (fun c_1 => ?_) (fun c_1 => ?_)
    · have hp := hp.1 c_1
      refine lv_iload hx hb dX11_whose_77 (lv_at hl 4 rfl) ?_
      exact hR _ _ _ _ _ _ dX11_whose_79 hp hS
    · have hp := hp.2 c_1
      refine lv_aload_n hx hb dX11_whose_45 rfl (lv_at hl 0 rfl) ?_
      refine lv_aload_n hx hb dX11_whose_46 rfl (lv_at hl 0 rfl) ?_
      refine lv_iload_n hx hb dX11_whose_47 rfl (lv_at hl 1 rfl) ?_
      refine q_cvI (As := [.int x1]) (rest := [.ref (g.2.2 300)]) hC hS hl.1 (rX11_rowOf hp) cwX11_392 yvX11_rowOf (rcv_300 hC hS) rfl rfl (Nat.le_of_ble_eq_true rfl) (rmk (by decide) (by decide)) dX11_whose_48 (fun r_2 w_3 H locs hp hS => ?_)
      refine lv_iload hx hb dX11_whose_51 (lv_at hl 5 rfl) ?_
      refine lv_iload_n hx hb dX11_whose_53 rfl (lv_at hl 2 rfl) ?_
      refine lv_iconst hx hb dX11_whose_54 kI_0 ?_
      exact False.elim hp
set_option maxHeartbeats 4000000 in
set_option maxRecDepth 100000 in
theorem rX11_whose {l : Launch} {g : Gw} {w : Wd} {post : Int32 → Wd → Prop}   {x1 : Int32} {x2 : Int32} {x3 : Int32} (hp : pX11_whose post x1 x2 x3 w) : MtI tabM l yX11_whose cX11_whose 6 (some .int) 3 g w [.ref (g.2.2 300), .int x1, .int x2, .int x3] post := by
  refine q_entI tabM_nd (by decide) rfl (Nat.le_of_ble_eq_true rfl) ?_
  intro p e s m args below meth c A Q ls hC hR hS hl
  have hx := hC.1
  have hb := hC.2.1
  have hl : lv_has ls 6 [(0, .ref (g.2.2 300)), (1, .int x1), (2, .int x2), (3, .int x3)] := hl
  unfold pX11_whose at hp
  refine lv_aload_n hx hb dX11_whose_0 rfl (lv_at hl 0 rfl) ?_
  refine lv_iload_n hx hb dX11_whose_1 rfl (lv_at hl 1 rfl) ?_
  refine q_cvI (As := [.int x1]) (rest := []) hC hS hl.1 (rX11_isSeal hp) cwX11_383 yvX11_isSeal (rcv_300 hC hS) rfl rfl (Nat.le_of_ble_eq_true rfl) (rmk (by decide) (by decide)) dX11_whose_2 (fun r_1 w_2 H locs hp hS => ?_)
  refine lv_if_eq (tgt := 23) hx hb dX11_whose_5 (by decide) (fun c_3 => ?_) (fun c_3 => ?_)
  · have hp := hp.1 c_3
    refine lv_iconst hx hb dX11_whose_23 kI_m1 ?_
    exact hR _ _ _ _ _ _ dX11_whose_24 hp hS
  · have hp := hp.2 c_3
    refine lv_iload_n hx hb dX11_whose_8 rfl (lv_at hl 2 rfl) ?_
    refine q_csI (As := [.int x2]) (rest := []) hC hS hl.1 (rX11_isHeat hp) cwX11_364 ysX11_isHeat rfl rfl (Nat.le_of_ble_eq_true rfl) (rmk (by decide) (by decide)) dX11_whose_9 (fun r_4 w_5 H locs hp hS => ?_)
    refine lv_if_eq (tgt := 23) hx hb dX11_whose_12 (by decide) (fun c_6 => ?_) (fun c_6 => ?_)
    · have hp := hp.1 c_6
      refine lv_iconst hx hb dX11_whose_23 kI_m1 ?_
      exact hR _ _ _ _ _ _ dX11_whose_24 hp hS
    · have hp := hp.2 c_6
      refine lv_aload_n hx hb dX11_whose_15 rfl (lv_at hl 0 rfl) ?_
      refine lv_iload_n hx hb dX11_whose_16 rfl (lv_at hl 3 rfl) ?_
      refine q_cvI (As := [.int x3]) (rest := []) hC hS hl.1 (rX11_isRow hp) cwX11_358 yvX11_isRow (rcv_300 hC hS) rfl rfl (Nat.le_of_ble_eq_true rfl) (rmk (by decide) (by decide)) dX11_whose_17 (fun r_7 w_8 H locs hp hS => ?_)
      refine lv_if_ne (tgt := 25) hx hb dX11_whose_20 (by decide) (fun c_9 => ?_) (fun c_9 => ?_)
      · have hp := hp.1 c_9
        refine lv_iconst hx hb dX11_whose_25 kI_0 ?_
        refine lv_istore (lv' := [(4, .int (0 : Int32)), (0, .ref (g.2.2 300)), (1, .int x1), (2, .int x2), (3, .int x3)]) hx hb dX11_whose_26 hl (by decide) rfl (fun ls hl => ?_)
        refine lv_iconst hx hb dX11_whose_28 kI_0 ?_
        refine lv_istore (lv' := [(5, .int (0 : Int32)), (4, .int (0 : Int32)), (0, .ref (g.2.2 300)), (1, .int x1), (2, .int x2), (3, .int x3)]) hx hb dX11_whose_29 hl (by decide) rfl (fun ls hl => ?_)
        obtain ⟨n9, hp⟩ := hp
        exact bX11_whose_31 hC hR n9 x1 x2 x3 (0 : Int32) (0 : Int32) w_8 _ _ _ hp hS (lv_sub hl [2, 3, 4, 5, 1, 0] rfl)
      · have hp := hp.2 c_9
        refine lv_iconst hx hb dX11_whose_23 kI_m1 ?_
        exact hR _ _ _ _ _ _ dX11_whose_24 hp hS
def pX11_bitsOf_4 (post : Int32 → Wd → Prop) : Nat → Int32 → Int32 → Wd → Prop
  | 0, _, _, _ => False
  | n + 1, x1, x2, w => (x2 = 0 → (post x1 w)) ∧ (¬ x2 = 0 → (∀ x1_2, x1_2 = x1 + (1 : Int32) → ∀ x2_3, x2_3 = (x2 &&& (x2 - (1 : Int32))) → pX11_bitsOf_4 post n x1_2 x2_3 w))
def pX11_bitsOf (post : Int32 → Wd → Prop) (x0 : Int32) (w : Wd) : Prop := ∃ n9, pX11_bitsOf_4 post n9 (0 : Int32) x0 w
set_option maxHeartbeats 4000000 in
set_option maxRecDepth 100000 in
theorem bX11_bitsOf_4 {p : Program} {l : Launch} {e : Env} {s : State} {m : MethodId} {args : Array Value} {below : List Frame} {meth : Method} {c : Code} {Q : State → Prop} {A : Nat → Prop} {g : Gw} {post : Int32 → Wd → Prop}  (hC : Cx p s m args c cX11_bitsOf RX11 3 g) (hR : RtI tabM p l e (rk 1) s m args below meth c Q cX11_bitsOf A g post)  : ∀ (n : Nat) (x1 : Int32) (x2 : Int32) (w : Wd) (H : Heap) (locs : List Loc) (ls : Array Slot), pX11_bitsOf_4 post n x1 x2 w → St tabM A s.heap g w H locs → lv_has ls 3 [(1, .int x1), (2, .int x2)] → W p l e (rk 1) s m args below meth c H locs 0 0 Q (F0 m 4 ls []) := by
  have hx := hC.1
  have hb := hC.2.1
  intro n
  induction n with
  | zero =>
    intro x1 x2 w H locs ls hp hS hl
    exact False.elim hp
  | succ n ih =>
    intro x1 x2 w H locs ls hp hS hl
    unfold pX11_bitsOf_4 at hp
    refine lv_iload_n hx hb dX11_bitsOf_4 rfl (lv_at hl 1 rfl) ?_
    refine lv_if_eq (tgt := 20) hx hb dX11_bitsOf_5 (by decide) (fun c_1 => ?_) (fun c_1 => ?_)
    · have hp := hp.1 c_1
      refine lv_iload_n hx hb dX11_bitsOf_20 rfl (lv_at hl 0 rfl) ?_
      exact hR _ _ _ _ _ _ dX11_bitsOf_21 hp hS
    · have hp := hp.2 c_1
      obtain ⟨x1_2, ex1_2⟩ : ∃ y : Int32, y = x1 + (1 : Int32) := ⟨_, rfl⟩
      have hp := hp x1_2 ex1_2
      refine lv_iinc (v := x1_2) (lv' := [(1, .int x1_2), (2, .int x2)]) hx hb dX11_bitsOf_8 hl (k := 0) rfl (by rw [ex1_2]; rfl) (by decide) rfl (fun ls hl => ?_)
      refine lv_iload_n hx hb dX11_bitsOf_11 rfl (lv_at hl 1 rfl) ?_
      refine lv_iload_n hx hb dX11_bitsOf_12 rfl (lv_at hl 1 rfl) ?_
      refine lv_iconst hx hb dX11_bitsOf_13 kI_1 ?_
      refine lv_isub hx hb dX11_bitsOf_14 ?_
      refine lv_iand hx hb dX11_bitsOf_15 ?_
      refine lv_topi (fun x2_3 ex2_3 => ?_)
      have hp := hp x2_3 ex2_3
      refine lv_istore_n (lv' := [(2, .int x2_3), (1, .int x1_2)]) hx hb dX11_bitsOf_16 rfl hl (by decide) rfl (fun ls hl => ?_)
      refine lv_goto (tgt := 4) hx hb dX11_bitsOf_17 (by decide) ?_
      exact ih x1_2 x2_3 w _ _ _ hp hS (lv_sub hl [1, 0] rfl)
set_option maxHeartbeats 4000000 in
set_option maxRecDepth 100000 in
theorem rX11_bitsOf {l : Launch} {g : Gw} {w : Wd} {post : Int32 → Wd → Prop}   {x0 : Int32} (hp : pX11_bitsOf post x0 w) : MtI tabM l yX11_bitsOf cX11_bitsOf 3 (some .int) 1 g w [.int x0] post := by
  refine q_entI tabM_nd (by decide) rfl (Nat.le_of_ble_eq_true rfl) ?_
  intro p e s m args below meth c A Q ls hC hR hS hl
  have hx := hC.1
  have hb := hC.2.1
  have hl : lv_has ls 3 [(0, .int x0)] := hl
  unfold pX11_bitsOf at hp
  refine lv_iconst hx hb dX11_bitsOf_0 kI_0 ?_
  refine lv_istore_n (lv' := [(1, .int (0 : Int32)), (0, .int x0)]) hx hb dX11_bitsOf_1 rfl hl (by decide) rfl (fun ls hl => ?_)
  refine lv_iload_n hx hb dX11_bitsOf_2 rfl (lv_at hl 1 rfl) ?_
  refine lv_istore_n (lv' := [(2, .int x0), (1, .int (0 : Int32)), (0, .int x0)]) hx hb dX11_bitsOf_3 rfl hl (by decide) rfl (fun ls hl => ?_)
  obtain ⟨n9, hp⟩ := hp
  exact bX11_bitsOf_4 hC hR n9 (0 : Int32) x0 w _ _ _ hp hS (lv_sub hl [1, 0] rfl)
def pX11_made_76 (k25 : Int32 → Int32 → Int32 → Int32 → Wd → Prop) (post : Int32 → Wd → Prop) (x1 : Int32) (x2 : Int32) (x3 : Int32) (x4 : Int32) (w : Wd) : Prop := ∀ x4_1, x4_1 = x4 + (1 : Int32) → k25 x1 x2 x3 x4_1 w
def pX11_made_25 (post : Int32 → Wd → Prop) : Nat → Int32 → Int32 → Int32 → Int32 → Wd → Prop
  | 0, _, _, _, _, _ => False
  | n + 1, x1, x2, x3, x4, w => ((w.2.1 341 (216 : Int32).toNatClampNeg) ≤ x4 → (post x3 w)) ∧ (¬ (w.2.1 341 (216 : Int32).toNatClampNeg) ≤ x4 → (pX11_rowOf (fun r_2 w_3 => pX11_turnedRow (fun r_4 w_5 => (¬ (x1 &&& r_4) = x1 → (pX11_made_76 (pX11_made_25 post n) post x1 x2 x3 x4 w_5)) ∧ ((x1 &&& r_4) = x1 → (pX11_bitsOf (fun r_7 w_8 => (x2 < r_7 → (pX11_made_76 (pX11_made_25 post n) post x1 x2 x3 x4 w_8)) ∧ (¬ x2 < r_7 → (∀ x3_10, x3_10 = (x3 ||| ((1 : Int32) <<< (x4 &&& 31))) → pX11_made_76 (pX11_made_25 post n) post x1 x2 x3_10 x4 w_8))) (r_4 - x1) w_5))) r_2 w_3) x4 w))
def pX11_made (post : Int32 → Wd → Prop) (x1 : Int32) (x2 : Int32) (w : Wd) : Prop := pX11_isRow (fun r_1 w_2 => (r_1 = 0 → (post (-1 : Int32) w_2)) ∧ (¬ r_1 = 0 → (pX11_isIn (fun r_4 w_5 => (¬ r_4 = 0 → (∃ n9, pX11_made_25 post n9 x1 x2 (0 : Int32) (0 : Int32) w_5)) ∧ (r_4 = 0 → (post (-1 : Int32) w_5))) x2 (0 : Int32) (12 : Int32) w_2))) x1 w
set_option maxHeartbeats 4000000 in
set_option maxRecDepth 100000 in
theorem bX11_made_76 {p : Program} {l : Launch} {e : Env} {s : State} {m : MethodId} {args : Array Value} {below : List Frame} {meth : Method} {c : Code} {Q : State → Prop} {A : Nat → Prop} {g : Gw} {post : Int32 → Wd → Prop}  (hC : Cx p s m args c cX11_made RX11 6 g) (hR : RtI tabM p l e (rk 3) s m args below meth c Q cX11_made A g post)  {k25 : Int32 → Int32 → Int32 → Int32 → Wd → Prop} (hk25 : ∀ (x1 : Int32) (x2 : Int32) (x3 : Int32) (x4 : Int32) (w : Wd) (H : Heap) (locs : List Loc) (ls : Array Slot), k25 x1 x2 x3 x4 w → St tabM A s.heap g w H locs → lv_has ls 6 [(0, .ref (g.2.2 300)), (1, .int x1), (2, .int x2), (3, .int x3), (4, .int x4)] → W p l e (rk 3) s m args below meth c H locs 0 0 Q (F0 m 25 ls [])) : ∀ (x1 : Int32) (x2 : Int32) (x3 : Int32) (x4 : Int32) (w : Wd) (H : Heap) (locs : List Loc) (ls : Array Slot), pX11_made_76 k25 post x1 x2 x3 x4 w → St tabM A s.heap g w H locs → lv_has ls 6 [(0, .ref (g.2.2 300)), (1, .int x1), (2, .int x2), (3, .int x3), (4, .int x4)] → W p l e (rk 3) s m args below meth c H locs 0 0 Q (F0 m 76 ls []) := by
  have hx := hC.1
  have hb := hC.2.1
  intro x1 x2 x3 x4 w H locs ls hp hS hl
  unfold pX11_made_76 at hp
  obtain ⟨x4_1, ex4_1⟩ : ∃ y : Int32, y = x4 + (1 : Int32) := ⟨_, rfl⟩
  have hp := hp x4_1 ex4_1
  refine lv_iinc (v := x4_1) (lv' := [(4, .int x4_1), (0, .ref (g.2.2 300)), (1, .int x1), (2, .int x2), (3, .int x3)]) hx hb dX11_made_76 hl (k := 4) rfl (by rw [ex4_1]; rfl) (by decide) rfl (fun ls hl => ?_)
  refine lv_goto (tgt := 25) hx hb dX11_made_79 (by decide) ?_
  exact hk25 x1 x2 x3 x4_1 w _ _ _ hp hS (lv_sub hl [1, 2, 3, 4, 0] rfl)
set_option maxHeartbeats 4000000 in
set_option maxRecDepth 100000 in
theorem bX11_made_25 {p : Program} {l : Launch} {e : Env} {s : State} {m : MethodId} {args : Array Value} {below : List Frame} {meth : Method} {c : Code} {Q : State → Prop} {A : Nat → Prop} {g : Gw} {post : Int32 → Wd → Prop}  (hC : Cx p s m args c cX11_made RX11 6 g) (hR : RtI tabM p l e (rk 3) s m args below meth c Q cX11_made A g post)  : ∀ (n : Nat) (x1 : Int32) (x2 : Int32) (x3 : Int32) (x4 : Int32) (w : Wd) (H : Heap) (locs : List Loc) (ls : Array Slot), pX11_made_25 post n x1 x2 x3 x4 w → St tabM A s.heap g w H locs → lv_has ls 6 [(0, .ref (g.2.2 300)), (1, .int x1), (2, .int x2), (3, .int x3), (4, .int x4)] → W p l e (rk 3) s m args below meth c H locs 0 0 Q (F0 m 25 ls []) := by
  have hx := hC.1
  have hb := hC.2.1
  intro n
  induction n with
  | zero =>
    intro x1 x2 x3 x4 w H locs ls hp hS hl
    exact False.elim hp
  | succ n ih =>
    intro x1 x2 x3 x4 w H locs ls hp hS hl
    unfold pX11_made_25 at hp
    refine lv_iload hx hb dX11_made_25 (lv_at hl 4 rfl) ?_
    refine lv_aload_n hx hb dX11_made_27 rfl (lv_at hl 0 rfl) ?_
    refine G_300_40 hC hS m274 dX11_made_28 ?_
    refine lv_sipush hx hb dX11_made_31 kS_216 ?_
    refine La_341 hC hS (by unfold vp_in; decide) dX11_made_34 ?_
    refine lv_icmp_ge (tgt := 82) hx hb dX11_made_35 (by decide) (fun c_1 => ?_) (fun c_1 => ?_)
    · have hp := hp.1 c_1
      refine lv_iload_n hx hb dX11_made_82 rfl (lv_at hl 3 rfl) ?_
      exact hR _ _ _ _ _ _ dX11_made_83 hp hS
    · have hp := hp.2 c_1
      refine lv_aload_n hx hb dX11_made_38 rfl (lv_at hl 0 rfl) ?_
      refine lv_aload_n hx hb dX11_made_39 rfl (lv_at hl 0 rfl) ?_
      refine lv_iload hx hb dX11_made_40 (lv_at hl 4 rfl) ?_
      refine q_cvI (As := [.int x4]) (rest := [.ref (g.2.2 300)]) hC hS hl.1 (rX11_rowOf hp) cwX11_392 yvX11_rowOf (rcv_300 hC hS) rfl rfl (Nat.le_of_ble_eq_true rfl) (rmk (by decide) (by decide)) dX11_made_42 (fun r_2 w_3 H locs hp hS => ?_)
      refine q_cvI (As := [.int r_2]) (rest := []) hC hS hl.1 (rX11_turnedRow hp) cwX11_349 yvX11_turnedRow (rcv_300 hC hS) rfl rfl (Nat.le_of_ble_eq_true rfl) (rmk (by decide) (by decide)) dX11_made_45 (fun r_4 w_5 H locs hp hS => ?_)
      refine lv_istore (lv' := [(5, .int r_4), (0, .ref (g.2.2 300)), (1, .int x1), (2, .int x2), (3, .int x3), (4, .int x4)]) hx hb dX11_made_48 hl (by decide) rfl (fun ls hl => ?_)
      refine lv_iload_n hx hb dX11_made_50 rfl (lv_at hl 2 rfl) ?_
      refine lv_iload hx hb dX11_made_51 (lv_at hl 0 rfl) ?_
      refine lv_iand hx hb dX11_made_53 ?_
      refine lv_iload_n hx hb dX11_made_54 rfl (lv_at hl 2 rfl) ?_
      refine lv_icmp_ne (tgt := 76) hx hb dX11_made_55 (by decide) (fun c_6 => ?_) (fun c_6 => ?_)
      · have hp := hp.1 c_6
        exact bX11_made_76 hC hR ih x1 x2 x3 x4 w_5 _ _ _ hp hS (lv_sub hl [1, 2, 3, 4, 5] rfl)
      · have hp := hp.2 c_6
        refine lv_iload hx hb dX11_made_58 (lv_at hl 0 rfl) ?_
        refine lv_iload_n hx hb dX11_made_60 rfl (lv_at hl 2 rfl) ?_
        refine lv_isub hx hb dX11_made_61 ?_
        refine q_csI (As := [.int (r_4 - x1)]) (rest := []) hC hS hl.1 (rX11_bitsOf hp) cwX11_352 ysX11_bitsOf rfl rfl (Nat.le_of_ble_eq_true rfl) (rmk (by decide) (by decide)) dX11_made_62 (fun r_7 w_8 H locs hp hS => ?_)
        refine lv_iload_n hx hb dX11_made_65 rfl (lv_at hl 3 rfl) ?_
        refine lv_icmp_gt (tgt := 76) hx hb dX11_made_66 (by decide) (fun c_9 => ?_) (fun c_9 => ?_)
        · have hp := hp.1 c_9
          exact bX11_made_76 hC hR ih x1 x2 x3 x4 w_8 _ _ _ hp hS (lv_sub hl [1, 2, 3, 4, 5] rfl)
        · have hp := hp.2 c_9
          refine lv_iload_n hx hb dX11_made_69 rfl (lv_at hl 4 rfl) ?_
          refine lv_iconst hx hb dX11_made_70 kI_1 ?_
          refine lv_iload hx hb dX11_made_71 (lv_at hl 5 rfl) ?_
          refine lv_ishl hx hb dX11_made_73 ?_
          refine lv_ior hx hb dX11_made_74 ?_
          refine lv_topi (fun x3_10 ex3_10 => ?_)
          have hp := hp x3_10 ex3_10
          refine lv_istore_n (lv' := [(3, .int x3_10), (5, .int r_4), (0, .ref (g.2.2 300)), (1, .int x1), (2, .int x2), (4, .int x4)]) hx hb dX11_made_75 rfl hl (by decide) rfl (fun ls hl => ?_)
          exact bX11_made_76 hC hR ih x1 x2 x3_10 x4 w_8 _ _ _ hp hS (lv_sub hl [2, 3, 4, 0, 5] rfl)
set_option maxHeartbeats 4000000 in
set_option maxRecDepth 100000 in
theorem rX11_made {l : Launch} {g : Gw} {w : Wd} {post : Int32 → Wd → Prop}   {x1 : Int32} {x2 : Int32} (hp : pX11_made post x1 x2 w) : MtI tabM l yX11_made cX11_made 6 (some .int) 3 g w [.ref (g.2.2 300), .int x1, .int x2] post := by
  refine q_entI tabM_nd (by decide) rfl (Nat.le_of_ble_eq_true rfl) ?_
  intro p e s m args below meth c A Q ls hC hR hS hl
  have hx := hC.1
  have hb := hC.2.1
  have hl : lv_has ls 6 [(0, .ref (g.2.2 300)), (1, .int x1), (2, .int x2)] := hl
  unfold pX11_made at hp
  refine lv_aload_n hx hb dX11_made_0 rfl (lv_at hl 0 rfl) ?_
  refine lv_iload_n hx hb dX11_made_1 rfl (lv_at hl 1 rfl) ?_
  refine q_cvI (As := [.int x1]) (rest := []) hC hS hl.1 (rX11_isRow hp) cwX11_358 yvX11_isRow (rcv_300 hC hS) rfl rfl (Nat.le_of_ble_eq_true rfl) (rmk (by decide) (by decide)) dX11_made_2 (fun r_1 w_2 H locs hp hS => ?_)
  refine lv_if_eq (tgt := 18) hx hb dX11_made_5 (by decide) (fun c_3 => ?_) (fun c_3 => ?_)
  · have hp := hp.1 c_3
    refine lv_iconst hx hb dX11_made_18 kI_m1 ?_
    exact hR _ _ _ _ _ _ dX11_made_19 hp hS
  · have hp := hp.2 c_3
    refine lv_iload_n hx hb dX11_made_8 rfl (lv_at hl 2 rfl) ?_
    refine lv_iconst hx hb dX11_made_9 kI_0 ?_
    refine lv_bipush hx hb dX11_made_10 kB_12 ?_
    refine q_csI (As := [.int x2, .int (0 : Int32), .int (12 : Int32)]) (rest := []) hC hS hl.1 (rX11_isIn hp) cwX11_345 ysX11_isIn rfl rfl (Nat.le_of_ble_eq_true rfl) (rmk (by decide) (by decide)) dX11_made_12 (fun r_4 w_5 H locs hp hS => ?_)
    refine lv_if_ne (tgt := 20) hx hb dX11_made_15 (by decide) (fun c_6 => ?_) (fun c_6 => ?_)
    · have hp := hp.1 c_6
      refine lv_iconst hx hb dX11_made_20 kI_0 ?_
      refine lv_istore_n (lv' := [(3, .int (0 : Int32)), (0, .ref (g.2.2 300)), (1, .int x1), (2, .int x2)]) hx hb dX11_made_21 rfl hl (by decide) rfl (fun ls hl => ?_)
      refine lv_iconst hx hb dX11_made_22 kI_0 ?_
      refine lv_istore (lv' := [(4, .int (0 : Int32)), (3, .int (0 : Int32)), (0, .ref (g.2.2 300)), (1, .int x1), (2, .int x2)]) hx hb dX11_made_23 hl (by decide) rfl (fun ls hl => ?_)
      obtain ⟨n9, hp⟩ := hp
      exact bX11_made_25 hC hR n9 x1 x2 (0 : Int32) (0 : Int32) w_5 _ _ _ hp hS (lv_sub hl [2, 3, 4, 1, 0] rfl)
    · have hp := hp.2 c_6
      refine lv_iconst hx hb dX11_made_18 kI_m1 ?_
      exact hR _ _ _ _ _ _ dX11_made_19 hp hS
def pX11_apart (post : Int32 → Wd → Prop) (x1 : Int32) (x2 : Int32) (x3 : Int32) (w : Wd) : Prop := pX11_isSeal (fun r_1 w_2 => (r_1 = 0 → (post (-1 : Int32) w_2)) ∧ (¬ r_1 = 0 → (pX11_isSeal (fun r_4 w_5 => (r_4 = 0 → (post (-1 : Int32) w_5)) ∧ (¬ r_4 = 0 → (pX11_rowOf (fun r_7 w_8 => (x3 = 0 → (pX11_rowOf (fun r_10 w_11 => pX11_bitsOf (fun r_12 w_13 => post r_12 w_13) (r_7 ^^^ r_10) w_11) x2 w_8)) ∧ (¬ x3 = 0 → (pX11_rowOf (fun r_14 w_15 => pX11_turnedRow (fun r_16 w_17 => pX11_bitsOf (fun r_18 w_19 => post r_18 w_19) (r_7 ^^^ r_16) w_17) r_14 w_15) x2 w_8))) x1 w_5))) x2 w_2))) x1 w
set_option maxHeartbeats 4000000 in
set_option maxRecDepth 100000 in
theorem rX11_apart {l : Launch} {g : Gw} {w : Wd} {post : Int32 → Wd → Prop}   {x1 : Int32} {x2 : Int32} {x3 : Int32} (hp : pX11_apart post x1 x2 x3 w) : MtI tabM l yX11_apart cX11_apart 4 (some .int) 3 g w [.ref (g.2.2 300), .int x1, .int x2, .int x3] post := by
  refine q_entI tabM_nd (by decide) rfl (Nat.le_of_ble_eq_true rfl) ?_
  intro p e s m args below meth c A Q ls hC hR hS hl
  have hx := hC.1
  have hb := hC.2.1
  have hl : lv_has ls 4 [(0, .ref (g.2.2 300)), (1, .int x1), (2, .int x2), (3, .int x3)] := hl
  unfold pX11_apart at hp
  refine lv_aload_n hx hb dX11_apart_0 rfl (lv_at hl 0 rfl) ?_
  refine lv_iload_n hx hb dX11_apart_1 rfl (lv_at hl 1 rfl) ?_
  refine q_cvI (As := [.int x1]) (rest := []) hC hS hl.1 (rX11_isSeal hp) cwX11_383 yvX11_isSeal (rcv_300 hC hS) rfl rfl (Nat.le_of_ble_eq_true rfl) (rmk (by decide) (by decide)) dX11_apart_2 (fun r_1 w_2 H locs hp hS => ?_)
  refine lv_if_eq (tgt := 49) hx hb dX11_apart_5 (by decide) (fun c_3 => ?_) (fun c_3 => ?_)
  · have hp := hp.1 c_3
    refine lv_iconst hx hb dX11_apart_49 kI_m1 ?_
    exact hR _ _ _ _ _ _ dX11_apart_50 hp hS
  · have hp := hp.2 c_3
    refine lv_aload_n hx hb dX11_apart_8 rfl (lv_at hl 0 rfl) ?_
    refine lv_iload_n hx hb dX11_apart_9 rfl (lv_at hl 2 rfl) ?_
    refine q_cvI (As := [.int x2]) (rest := []) hC hS hl.1 (rX11_isSeal hp) cwX11_383 yvX11_isSeal (rcv_300 hC hS) rfl rfl (Nat.le_of_ble_eq_true rfl) (rmk (by decide) (by decide)) dX11_apart_10 (fun r_4 w_5 H locs hp hS => ?_)
    refine lv_if_eq (tgt := 49) hx hb dX11_apart_13 (by decide) (fun c_6 => ?_) (fun c_6 => ?_)
    · have hp := hp.1 c_6
      refine lv_iconst hx hb dX11_apart_49 kI_m1 ?_
      exact hR _ _ _ _ _ _ dX11_apart_50 hp hS
    · have hp := hp.2 c_6
      refine lv_aload_n hx hb dX11_apart_16 rfl (lv_at hl 0 rfl) ?_
      refine lv_iload_n hx hb dX11_apart_17 rfl (lv_at hl 1 rfl) ?_
      refine q_cvI (As := [.int x1]) (rest := []) hC hS hl.1 (rX11_rowOf hp) cwX11_392 yvX11_rowOf (rcv_300 hC hS) rfl rfl (Nat.le_of_ble_eq_true rfl) (rmk (by decide) (by decide)) dX11_apart_18 (fun r_7 w_8 H locs hp hS => ?_)
      refine lv_iload_n hx hb dX11_apart_21 rfl (lv_at hl 3 rfl) ?_
      refine lv_if_eq (tgt := 37) hx hb dX11_apart_22 (by decide) (fun c_9 => ?_) (fun c_9 => ?_)
      · have hp := hp.1 c_9
        refine lv_aload_n hx hb dX11_apart_37 rfl (lv_at hl 0 rfl) ?_
        refine lv_iload_n hx hb dX11_apart_38 rfl (lv_at hl 2 rfl) ?_
        refine q_cvI (As := [.int x2]) (rest := [.int r_7]) hC hS hl.1 (rX11_rowOf hp) cwX11_392 yvX11_rowOf (rcv_300 hC hS) rfl rfl (Nat.le_of_ble_eq_true rfl) (rmk (by decide) (by decide)) dX11_apart_39 (fun r_10 w_11 H locs hp hS => ?_)
        refine lv_ixor hx hb dX11_apart_42 ?_
        refine q_csI (As := [.int (r_7 ^^^ r_10)]) (rest := []) hC hS hl.1 (rX11_bitsOf hp) cwX11_352 ysX11_bitsOf rfl rfl (Nat.le_of_ble_eq_true rfl) (rmk (by decide) (by decide)) dX11_apart_43 (fun r_12 w_13 H locs hp hS => ?_)
        refine lv_goto (tgt := 50) hx hb dX11_apart_46 (by decide) ?_
        exact hR _ _ _ _ _ _ dX11_apart_50 hp hS
      · have hp := hp.2 c_9
        refine lv_aload_n hx hb dX11_apart_25 rfl (lv_at hl 0 rfl) ?_
        refine lv_aload_n hx hb dX11_apart_26 rfl (lv_at hl 0 rfl) ?_
        refine lv_iload_n hx hb dX11_apart_27 rfl (lv_at hl 2 rfl) ?_
        refine q_cvI (As := [.int x2]) (rest := [.ref (g.2.2 300), .int r_7]) hC hS hl.1 (rX11_rowOf hp) cwX11_392 yvX11_rowOf (rcv_300 hC hS) rfl rfl (Nat.le_of_ble_eq_true rfl) (rmk (by decide) (by decide)) dX11_apart_28 (fun r_14 w_15 H locs hp hS => ?_)
        refine q_cvI (As := [.int r_14]) (rest := [.int r_7]) hC hS hl.1 (rX11_turnedRow hp) cwX11_349 yvX11_turnedRow (rcv_300 hC hS) rfl rfl (Nat.le_of_ble_eq_true rfl) (rmk (by decide) (by decide)) dX11_apart_31 (fun r_16 w_17 H locs hp hS => ?_)
        refine lv_goto (tgt := 42) hx hb dX11_apart_34 (by decide) ?_
        refine lv_ixor hx hb dX11_apart_42 ?_
        refine q_csI (As := [.int (r_7 ^^^ r_16)]) (rest := []) hC hS hl.1 (rX11_bitsOf hp) cwX11_352 ysX11_bitsOf rfl rfl (Nat.le_of_ble_eq_true rfl) (rmk (by decide) (by decide)) dX11_apart_43 (fun r_18 w_19 H locs hp hS => ?_)
        refine lv_goto (tgt := 50) hx hb dX11_apart_46 (by decide) ?_
        exact hR _ _ _ _ _ _ dX11_apart_50 hp hS
def pX11_heats_65 (k32 : Int32 → Int32 → Int32 → Int32 → Int32 → Wd → Prop) (post : Int32 → Wd → Prop) (x1 : Int32) (x2 : Int32) (x3 : Int32) (x4 : Int32) (x5 : Int32) (w : Wd) : Prop := ∀ x5_1, x5_1 = x5 + (1 : Int32) → k32 x1 x2 x3 x4 x5_1 w
def pX11_heats_32 (post : Int32 → Wd → Prop) : Nat → Int32 → Int32 → Int32 → Int32 → Int32 → Wd → Prop
  | 0, _, _, _, _, _, _ => False
  | n + 1, x1, x2, x3, x4, x5, w => ((9 : Int32) < x5 → (post x4 w)) ∧ (¬ (9 : Int32) < x5 → (pX11_rowOf (fun r_2 w_3 => False) x1 w))
def pX11_heats (post : Int32 → Wd → Prop) (x1 : Int32) (x2 : Int32) (x3 : Int32) (w : Wd) : Prop := pX11_isSeal (fun r_1 w_2 => (r_1 = 0 → (post (-1 : Int32) w_2)) ∧ (¬ r_1 = 0 → (pX11_isHand (fun r_4 w_5 => (r_4 = 0 → (post (-1 : Int32) w_5)) ∧ (¬ r_4 = 0 → (pX11_isRow (fun r_7 w_8 => (¬ r_7 = 0 → (∃ n9, pX11_heats_32 post n9 x1 x2 x3 (0 : Int32) (0 : Int32) w_8)) ∧ (r_7 = 0 → (post (-1 : Int32) w_8))) x3 w_5))) x2 w_2))) x1 w
set_option maxHeartbeats 4000000 in
set_option maxRecDepth 100000 in
theorem bX11_heats_65 {p : Program} {l : Launch} {e : Env} {s : State} {m : MethodId} {args : Array Value} {below : List Frame} {meth : Method} {c : Code} {Q : State → Prop} {A : Nat → Prop} {g : Gw} {post : Int32 → Wd → Prop}  (hC : Cx p s m args c cX11_heats RX11 6 g) (hR : RtI tabM p l e (rk 3) s m args below meth c Q cX11_heats A g post)  {k32 : Int32 → Int32 → Int32 → Int32 → Int32 → Wd → Prop} (hk32 : ∀ (x1 : Int32) (x2 : Int32) (x3 : Int32) (x4 : Int32) (x5 : Int32) (w : Wd) (H : Heap) (locs : List Loc) (ls : Array Slot), k32 x1 x2 x3 x4 x5 w → St tabM A s.heap g w H locs → lv_has ls 6 [(0, .ref (g.2.2 300)), (1, .int x1), (2, .int x2), (3, .int x3), (4, .int x4), (5, .int x5)] → W p l e (rk 3) s m args below meth c H locs 0 0 Q (F0 m 32 ls [])) : ∀ (x1 : Int32) (x2 : Int32) (x3 : Int32) (x4 : Int32) (x5 : Int32) (w : Wd) (H : Heap) (locs : List Loc) (ls : Array Slot), pX11_heats_65 k32 post x1 x2 x3 x4 x5 w → St tabM A s.heap g w H locs → lv_has ls 6 [(0, .ref (g.2.2 300)), (1, .int x1), (2, .int x2), (3, .int x3), (4, .int x4), (5, .int x5)] → W p l e (rk 3) s m args below meth c H locs 0 0 Q (F0 m 65 ls []) := by
  have hx := hC.1
  have hb := hC.2.1
  intro x1 x2 x3 x4 x5 w H locs ls hp hS hl
  unfold pX11_heats_65 at hp
  obtain ⟨x5_1, ex5_1⟩ : ∃ y : Int32, y = x5 + (1 : Int32) := ⟨_, rfl⟩
  have hp := hp x5_1 ex5_1
  refine lv_iinc (v := x5_1) (lv' := [(5, .int x5_1), (0, .ref (g.2.2 300)), (1, .int x1), (2, .int x2), (3, .int x3), (4, .int x4)]) hx hb dX11_heats_65 hl (k := 5) rfl (by rw [ex5_1]; rfl) (by decide) rfl (fun ls hl => ?_)
  refine lv_goto (tgt := 32) hx hb dX11_heats_68 (by decide) ?_
  exact hk32 x1 x2 x3 x4 x5_1 w _ _ _ hp hS (lv_sub hl [1, 2, 3, 4, 5, 0] rfl)
set_option maxHeartbeats 4000000 in
set_option maxRecDepth 100000 in
theorem bX11_heats_32 {p : Program} {l : Launch} {e : Env} {s : State} {m : MethodId} {args : Array Value} {below : List Frame} {meth : Method} {c : Code} {Q : State → Prop} {A : Nat → Prop} {g : Gw} {post : Int32 → Wd → Prop}  (hC : Cx p s m args c cX11_heats RX11 6 g) (hR : RtI tabM p l e (rk 3) s m args below meth c Q cX11_heats A g post)  : ∀ (n : Nat) (x1 : Int32) (x2 : Int32) (x3 : Int32) (x4 : Int32) (x5 : Int32) (w : Wd) (H : Heap) (locs : List Loc) (ls : Array Slot), pX11_heats_32 post n x1 x2 x3 x4 x5 w → St tabM A s.heap g w H locs → lv_has ls 6 [(0, .ref (g.2.2 300)), (1, .int x1), (2, .int x2), (3, .int x3), (4, .int x4), (5, .int x5)] → W p l e (rk 3) s m args below meth c H locs 0 0 Q (F0 m 32 ls []) := by
  have hx := hC.1
  have hb := hC.2.1
  intro n
  induction n with
  | zero =>
    intro x1 x2 x3 x4 x5 w H locs ls hp hS hl
    exact False.elim hp
  | succ n ih =>
    intro x1 x2 x3 x4 x5 w H locs ls hp hS hl
    unfold pX11_heats_32 at hp
    refine lv_iload hx hb dX11_heats_32 (lv_at hl 5 rfl) ?_
    refine lv_bipush hx hb dX11_heats_34 kB_9 ?_
    refine lv_icmp_gt (tgt := 71) hx hb dX11_heats_36 (by decide) (fun c_1 => ?_) (fun c_1 => ?_)
    · have hp := hp.1 c_1
      refine lv_iload hx hb dX11_heats_71 (lv_at hl 4 rfl) ?_
      exact hR _ _ _ _ _ _ dX11_heats_73 hp hS
    · have hp := hp.2 c_1
      refine lv_aload_n hx hb dX11_heats_39 rfl (lv_at hl 0 rfl) ?_
      refine lv_aload_n hx hb dX11_heats_40 rfl (lv_at hl 0 rfl) ?_
      refine lv_iload_n hx hb dX11_heats_41 rfl (lv_at hl 1 rfl) ?_
      refine q_cvI (As := [.int x1]) (rest := [.ref (g.2.2 300)]) hC hS hl.1 (rX11_rowOf hp) cwX11_392 yvX11_rowOf (rcv_300 hC hS) rfl rfl (Nat.le_of_ble_eq_true rfl) (rmk (by decide) (by decide)) dX11_heats_42 (fun r_2 w_3 H locs hp hS => ?_)
      refine lv_iload_n hx hb dX11_heats_45 rfl (lv_at hl 2 rfl) ?_
      refine lv_iload hx hb dX11_heats_46 (lv_at hl 5 rfl) ?_
      refine lv_iconst hx hb dX11_heats_48 kI_0 ?_
      exact False.elim hp
set_option maxHeartbeats 4000000 in
set_option maxRecDepth 100000 in
theorem rX11_heats {l : Launch} {g : Gw} {w : Wd} {post : Int32 → Wd → Prop}   {x1 : Int32} {x2 : Int32} {x3 : Int32} (hp : pX11_heats post x1 x2 x3 w) : MtI tabM l yX11_heats cX11_heats 6 (some .int) 3 g w [.ref (g.2.2 300), .int x1, .int x2, .int x3] post := by
  refine q_entI tabM_nd (by decide) rfl (Nat.le_of_ble_eq_true rfl) ?_
  intro p e s m args below meth c A Q ls hC hR hS hl
  have hx := hC.1
  have hb := hC.2.1
  have hl : lv_has ls 6 [(0, .ref (g.2.2 300)), (1, .int x1), (2, .int x2), (3, .int x3)] := hl
  unfold pX11_heats at hp
  refine lv_aload_n hx hb dX11_heats_0 rfl (lv_at hl 0 rfl) ?_
  refine lv_iload_n hx hb dX11_heats_1 rfl (lv_at hl 1 rfl) ?_
  refine q_cvI (As := [.int x1]) (rest := []) hC hS hl.1 (rX11_isSeal hp) cwX11_383 yvX11_isSeal (rcv_300 hC hS) rfl rfl (Nat.le_of_ble_eq_true rfl) (rmk (by decide) (by decide)) dX11_heats_2 (fun r_1 w_2 H locs hp hS => ?_)
  refine lv_if_eq (tgt := 24) hx hb dX11_heats_5 (by decide) (fun c_3 => ?_) (fun c_3 => ?_)
  · have hp := hp.1 c_3
    refine lv_iconst hx hb dX11_heats_24 kI_m1 ?_
    exact hR _ _ _ _ _ _ dX11_heats_25 hp hS
  · have hp := hp.2 c_3
    refine lv_aload_n hx hb dX11_heats_8 rfl (lv_at hl 0 rfl) ?_
    refine lv_iload_n hx hb dX11_heats_9 rfl (lv_at hl 2 rfl) ?_
    refine q_cvI (As := [.int x2]) (rest := []) hC hS hl.1 (rX11_isHand hp) cwX11_361 yvX11_isHand (rcv_300 hC hS) rfl rfl (Nat.le_of_ble_eq_true rfl) (rmk (by decide) (by decide)) dX11_heats_10 (fun r_4 w_5 H locs hp hS => ?_)
    refine lv_if_eq (tgt := 24) hx hb dX11_heats_13 (by decide) (fun c_6 => ?_) (fun c_6 => ?_)
    · have hp := hp.1 c_6
      refine lv_iconst hx hb dX11_heats_24 kI_m1 ?_
      exact hR _ _ _ _ _ _ dX11_heats_25 hp hS
    · have hp := hp.2 c_6
      refine lv_aload_n hx hb dX11_heats_16 rfl (lv_at hl 0 rfl) ?_
      refine lv_iload_n hx hb dX11_heats_17 rfl (lv_at hl 3 rfl) ?_
      refine q_cvI (As := [.int x3]) (rest := []) hC hS hl.1 (rX11_isRow hp) cwX11_358 yvX11_isRow (rcv_300 hC hS) rfl rfl (Nat.le_of_ble_eq_true rfl) (rmk (by decide) (by decide)) dX11_heats_18 (fun r_7 w_8 H locs hp hS => ?_)
      refine lv_if_ne (tgt := 26) hx hb dX11_heats_21 (by decide) (fun c_9 => ?_) (fun c_9 => ?_)
      · have hp := hp.1 c_9
        refine lv_iconst hx hb dX11_heats_26 kI_0 ?_
        refine lv_istore (lv' := [(4, .int (0 : Int32)), (0, .ref (g.2.2 300)), (1, .int x1), (2, .int x2), (3, .int x3)]) hx hb dX11_heats_27 hl (by decide) rfl (fun ls hl => ?_)
        refine lv_iconst hx hb dX11_heats_29 kI_0 ?_
        refine lv_istore (lv' := [(5, .int (0 : Int32)), (4, .int (0 : Int32)), (0, .ref (g.2.2 300)), (1, .int x1), (2, .int x2), (3, .int x3)]) hx hb dX11_heats_30 hl (by decide) rfl (fun ls hl => ?_)
        obtain ⟨n9, hp⟩ := hp
        exact bX11_heats_32 hC hR n9 x1 x2 x3 (0 : Int32) (0 : Int32) w_8 _ _ _ hp hS (lv_sub hl [2, 3, 4, 5, 1, 0] rfl)
      · have hp := hp.2 c_9
        refine lv_iconst hx hb dX11_heats_24 kI_m1 ?_
        exact hR _ _ _ _ _ _ dX11_heats_25 hp hS
def pX11_canCast (post : Int32 → Wd → Prop) (x1 : Int32) (x2 : Int32) (x3 : Int32) (w : Wd) : Prop := pX11_isSeal (fun r_1 w_2 => (r_1 = 0 → (post (0 : Int32) w_2)) ∧ (¬ r_1 = 0 → (pX11_isHand (fun r_4 w_5 => (r_4 = 0 → (post (0 : Int32) w_5)) ∧ (¬ r_4 = 0 → (pX11_isHeat (fun r_7 w_8 => (r_7 = 0 → (post (0 : Int32) w_8)) ∧ (¬ r_7 = 0 → (post (1 : Int32) w_8))) x3 w_5))) x2 w_2))) x1 w
set_option maxHeartbeats 4000000 in
set_option maxRecDepth 100000 in
theorem rX11_canCast {l : Launch} {g : Gw} {w : Wd} {post : Int32 → Wd → Prop}   {x1 : Int32} {x2 : Int32} {x3 : Int32} (hp : pX11_canCast post x1 x2 x3 w) : MtI tabM l yX11_canCast cX11_canCast 4 (some .boolean) 3 g w [.ref (g.2.2 300), .int x1, .int x2, .int x3] post := by
  refine q_entZ tabM_nd (by decide) rfl (Nat.le_of_ble_eq_true rfl) ?_
  intro p e s m args below meth c A Q ls hC hR hS hl
  have hx := hC.1
  have hb := hC.2.1
  have hl : lv_has ls 4 [(0, .ref (g.2.2 300)), (1, .int x1), (2, .int x2), (3, .int x3)] := hl
  unfold pX11_canCast at hp
  refine lv_aload_n hx hb dX11_canCast_0 rfl (lv_at hl 0 rfl) ?_
  refine lv_iload_n hx hb dX11_canCast_1 rfl (lv_at hl 1 rfl) ?_
  refine q_cvI (As := [.int x1]) (rest := []) hC hS hl.1 (rX11_isSeal hp) cwX11_383 yvX11_isSeal (rcv_300 hC hS) rfl rfl (Nat.le_of_ble_eq_true rfl) (rmk (by decide) (by decide)) dX11_canCast_2 (fun r_1 w_2 H locs hp hS => ?_)
  refine lv_if_eq (tgt := 27) hx hb dX11_canCast_5 (by decide) (fun c_3 => ?_) (fun c_3 => ?_)
  · have hp := hp.1 c_3
    refine lv_iconst hx hb dX11_canCast_27 kI_0 ?_
    exact hR _ _ _ _ _ _ dX11_canCast_28 (by decide) hp hS
  · have hp := hp.2 c_3
    refine lv_aload_n hx hb dX11_canCast_8 rfl (lv_at hl 0 rfl) ?_
    refine lv_iload_n hx hb dX11_canCast_9 rfl (lv_at hl 2 rfl) ?_
    refine q_cvI (As := [.int x2]) (rest := []) hC hS hl.1 (rX11_isHand hp) cwX11_361 yvX11_isHand (rcv_300 hC hS) rfl rfl (Nat.le_of_ble_eq_true rfl) (rmk (by decide) (by decide)) dX11_canCast_10 (fun r_4 w_5 H locs hp hS => ?_)
    refine lv_if_eq (tgt := 27) hx hb dX11_canCast_13 (by decide) (fun c_6 => ?_) (fun c_6 => ?_)
    · have hp := hp.1 c_6
      refine lv_iconst hx hb dX11_canCast_27 kI_0 ?_
      exact hR _ _ _ _ _ _ dX11_canCast_28 (by decide) hp hS
    · have hp := hp.2 c_6
      refine lv_iload_n hx hb dX11_canCast_16 rfl (lv_at hl 3 rfl) ?_
      refine q_csI (As := [.int x3]) (rest := []) hC hS hl.1 (rX11_isHeat hp) cwX11_364 ysX11_isHeat rfl rfl (Nat.le_of_ble_eq_true rfl) (rmk (by decide) (by decide)) dX11_canCast_17 (fun r_7 w_8 H locs hp hS => ?_)
      refine lv_if_eq (tgt := 27) hx hb dX11_canCast_20 (by decide) (fun c_9 => ?_) (fun c_9 => ?_)
      · have hp := hp.1 c_9
        refine lv_iconst hx hb dX11_canCast_27 kI_0 ?_
        exact hR _ _ _ _ _ _ dX11_canCast_28 (by decide) hp hS
      · have hp := hp.2 c_9
        refine lv_iconst hx hb dX11_canCast_23 kI_1 ?_
        refine lv_goto (tgt := 28) hx hb dX11_canCast_24 (by decide) ?_
        exact hR _ _ _ _ _ _ dX11_canCast_28 (by decide) hp hS
def pX11_luck (post : Int32 → Wd → Prop) (x1 : Int32) (x2 : Int32) (x3 : Int32) (x4 : Int32) (w : Wd) : Prop := pX11_canCast (fun r_1 w_2 => (r_1 = 0 → (post (-1 : Int32) w_2)) ∧ (¬ r_1 = 0 → (pX11_isRow (fun r_4 w_5 => (r_4 = 0 → (post (-1 : Int32) w_5)) ∧ (¬ r_4 = 0 → (False))) x4 w_2))) x1 x2 x3 w
set_option maxHeartbeats 4000000 in
set_option maxRecDepth 100000 in
theorem rX11_luck {l : Launch} {g : Gw} {w : Wd} {post : Int32 → Wd → Prop}   {x1 : Int32} {x2 : Int32} {x3 : Int32} {x4 : Int32} (hp : pX11_luck post x1 x2 x3 x4 w) : MtI tabM l yX11_luck cX11_luck 5 (some .int) 4 g w [.ref (g.2.2 300), .int x1, .int x2, .int x3, .int x4] post := by
  refine q_entI tabM_nd (by decide) rfl (Nat.le_of_ble_eq_true rfl) ?_
  intro p e s m args below meth c A Q ls hC hR hS hl
  have hx := hC.1
  have hb := hC.2.1
  have hl : lv_has ls 5 [(0, .ref (g.2.2 300)), (1, .int x1), (2, .int x2), (3, .int x3), (4, .int x4)] := hl
  unfold pX11_luck at hp
  refine lv_aload_n hx hb dX11_luck_0 rfl (lv_at hl 0 rfl) ?_
  refine lv_iload_n hx hb dX11_luck_1 rfl (lv_at hl 1 rfl) ?_
  refine lv_iload_n hx hb dX11_luck_2 rfl (lv_at hl 2 rfl) ?_
  refine lv_iload_n hx hb dX11_luck_3 rfl (lv_at hl 3 rfl) ?_
  refine q_cvI (As := [.int x1, .int x2, .int x3]) (rest := []) hC hS hl.1 (rX11_canCast hp) cwX11_398 yvX11_canCast (rcv_300 hC hS) rfl rfl (Nat.le_of_ble_eq_true rfl) (rmk (by decide) (by decide)) dX11_luck_4 (fun r_1 w_2 H locs hp hS => ?_)
  refine lv_if_eq (tgt := 31) hx hb dX11_luck_7 (by decide) (fun c_3 => ?_) (fun c_3 => ?_)
  · have hp := hp.1 c_3
    refine lv_iconst hx hb dX11_luck_31 kI_m1 ?_
    exact hR _ _ _ _ _ _ dX11_luck_32 hp hS
  · have hp := hp.2 c_3
    refine lv_aload_n hx hb dX11_luck_10 rfl (lv_at hl 0 rfl) ?_
    refine lv_iload hx hb dX11_luck_11 (lv_at hl 4 rfl) ?_
    refine q_cvI (As := [.int x4]) (rest := []) hC hS hl.1 (rX11_isRow hp) cwX11_358 yvX11_isRow (rcv_300 hC hS) rfl rfl (Nat.le_of_ble_eq_true rfl) (rmk (by decide) (by decide)) dX11_luck_13 (fun r_4 w_5 H locs hp hS => ?_)
    refine lv_if_eq (tgt := 31) hx hb dX11_luck_16 (by decide) (fun c_6 => ?_) (fun c_6 => ?_)
    · have hp := hp.1 c_6
      refine lv_iconst hx hb dX11_luck_31 kI_m1 ?_
      exact hR _ _ _ _ _ _ dX11_luck_32 hp hS
    · have hp := hp.2 c_6
      refine lv_aload_n hx hb dX11_luck_19 rfl (lv_at hl 0 rfl) ?_
      refine lv_iload_n hx hb dX11_luck_20 rfl (lv_at hl 1 rfl) ?_
      refine lv_iload_n hx hb dX11_luck_21 rfl (lv_at hl 2 rfl) ?_
      refine lv_iload_n hx hb dX11_luck_22 rfl (lv_at hl 3 rfl) ?_
      refine lv_iload hx hb dX11_luck_23 (lv_at hl 4 rfl) ?_
      exact False.elim hp
def pX11_likely_162 (k67 : Int32 → Int32 → Int32 → Int32 → Wd → Prop) (post : Int32 → Wd → Prop) (x4 : Int32) (x5 : Int32) (x6 : Int32) (x7 : Int32) (w : Wd) : Prop := ∀ x7_1, x7_1 = x7 + (1 : Int32) → k67 x4 x5 x6 x7_1 w
def pX11_likely_149 (k67 : Int32 → Int32 → Int32 → Int32 → Wd → Prop) (post : Int32 → Wd → Prop) (x4 : Int32) (x7 : Int32) (x8 : Int32) (w : Wd) : Prop := vp_in x7 100 ∧ ∀ x5_1, x5_1 = (w.2.1 345 x7.toNatClampNeg) → pX11_likely_162 k67 post x4 x5_1 x8 x7 w
def pX11_likely_111 (k80 : Int32 → Int32 → Int32 → Int32 → Int32 → Int32 → Wd → Prop) (post : Int32 → Wd → Prop) (x4 : Int32) (x5 : Int32) (x6 : Int32) (x7 : Int32) (x9 : Int32) (t0 : Int32) (t1 : Int32) (w : Wd) : Prop := ∀ x8_1, x8_1 = (t0 + t1) → ∀ x9_2, x9_2 = x9 + (1 : Int32) → k80 x4 x5 x6 x7 x8_1 x9_2 w
def pX11_likely_80 (k67 : Int32 → Int32 → Int32 → Int32 → Wd → Prop) (post : Int32 → Wd → Prop) : Nat → Int32 → Int32 → Int32 → Int32 → Int32 → Int32 → Wd → Prop
  | 0, _, _, _, _, _, _, _ => False
  | n + 1, x4, x5, x6, x7, x8, x9, w => ((100 : Int32) ≤ x9 → ((x8 < x6 → (pX11_likely_162 k67 post x4 x5 x6 x7 w)) ∧ (¬ x8 < x6 → ((¬ x8 = x6 → (pX11_likely_149 k67 post x4 x7 x8 w)) ∧ (x8 = x6 → (vp_in x7 100 ∧ ((w.2.1 345 x7.toNatClampNeg) < x5 → (pX11_likely_149 k67 post x4 x7 x8 w)) ∧ (¬ (w.2.1 345 x7.toNatClampNeg) < x5 → (pX11_likely_162 k67 post x4 x5 x6 x7 w)))))))) ∧ (¬ (100 : Int32) ≤ x9 → (vp_in x9 100 ∧ vp_in x7 100 ∧ (¬ (w.2.1 345 x9.toNatClampNeg) = (w.2.1 345 x7.toNatClampNeg) → (pX11_likely_111 (pX11_likely_80 k67 post n) post x4 x5 x6 x7 x9 x8 (0 : Int32) w)) ∧ ((w.2.1 345 x9.toNatClampNeg) = (w.2.1 345 x7.toNatClampNeg) → (pX11_likely_111 (pX11_likely_80 k67 post n) post x4 x5 x6 x7 x9 x8 (1 : Int32) w))))
def pX11_likely_67 (post : Int32 → Wd → Prop) : Nat → Int32 → Int32 → Int32 → Int32 → Wd → Prop
  | 0, _, _, _, _, _ => False
  | n + 1, x4, x5, x6, x7, w => ((100 : Int32) ≤ x7 → ((¬ x4 = 0 → (post x6 w)) ∧ (x4 = 0 → (post x5 w)))) ∧ (¬ (100 : Int32) ≤ x7 → (∃ n9, pX11_likely_80 (pX11_likely_67 post n) post n9 x4 x5 x6 x7 (0 : Int32) (0 : Int32) w))
def pX11_likely_25 (post : Int32 → Wd → Prop) : Nat → Int32 → Int32 → Int32 → Int32 → Int32 → Wd → Prop
  | 0, _, _, _, _, _, _ => False
  | n + 1, x1, x2, x3, x4, x5, w => ((100 : Int32) ≤ x5 → (∃ n9, pX11_likely_67 post n9 x4 (-1 : Int32) (0 : Int32) (0 : Int32) w)) ∧ (¬ (100 : Int32) ≤ x5 → (pX11_rowOf (fun r_2 w_3 => False) x1 w))
def pX11_likely (post : Int32 → Wd → Prop) (x1 : Int32) (x2 : Int32) (x3 : Int32) (x4 : Int32) (w : Wd) : Prop := pX11_canCast (fun r_1 w_2 => (r_1 = 0 → (post (-1 : Int32) w_2)) ∧ (¬ r_1 = 0 → (pX11_isIn (fun r_4 w_5 => (¬ r_4 = 0 → (∃ n9, pX11_likely_25 post n9 x1 x2 x3 x4 (0 : Int32) w_5)) ∧ (r_4 = 0 → (post (-1 : Int32) w_5))) x4 (0 : Int32) (1 : Int32) w_2))) x1 x2 x3 w
set_option maxHeartbeats 4000000 in
set_option maxRecDepth 100000 in
theorem bX11_likely_162 {p : Program} {l : Launch} {e : Env} {s : State} {m : MethodId} {args : Array Value} {below : List Frame} {meth : Method} {c : Code} {Q : State → Prop} {A : Nat → Prop} {g : Gw} {post : Int32 → Wd → Prop}  (hC : Cx p s m args c cX11_likely RX11 10 g) (hR : RtI tabM p l e (rk 4) s m args below meth c Q cX11_likely A g post)  {k67 : Int32 → Int32 → Int32 → Int32 → Wd → Prop} (hk67 : ∀ (x4 : Int32) (x5 : Int32) (x6 : Int32) (x7 : Int32) (w : Wd) (H : Heap) (locs : List Loc) (ls : Array Slot), k67 x4 x5 x6 x7 w → St tabM A s.heap g w H locs → lv_has ls 10 [(0, .ref (g.2.2 300)), (4, .int x4), (5, .int x5), (6, .int x6), (7, .int x7)] → W p l e (rk 4) s m args below meth c H locs 0 0 Q (F0 m 67 ls [])) : ∀ (x4 : Int32) (x5 : Int32) (x6 : Int32) (x7 : Int32) (w : Wd) (H : Heap) (locs : List Loc) (ls : Array Slot), pX11_likely_162 k67 post x4 x5 x6 x7 w → St tabM A s.heap g w H locs → lv_has ls 10 [(0, .ref (g.2.2 300)), (4, .int x4), (5, .int x5), (6, .int x6), (7, .int x7)] → W p l e (rk 4) s m args below meth c H locs 0 0 Q (F0 m 162 ls []) := by
  have hx := hC.1
  have hb := hC.2.1
  intro x4 x5 x6 x7 w H locs ls hp hS hl
  unfold pX11_likely_162 at hp
  obtain ⟨x7_1, ex7_1⟩ : ∃ y : Int32, y = x7 + (1 : Int32) := ⟨_, rfl⟩
  have hp := hp x7_1 ex7_1
  refine lv_iinc (v := x7_1) (lv' := [(7, .int x7_1), (0, .ref (g.2.2 300)), (4, .int x4), (5, .int x5), (6, .int x6)]) hx hb dX11_likely_162 hl (k := 4) rfl (by rw [ex7_1]; rfl) (by decide) rfl (fun ls hl => ?_)
  refine lv_goto (tgt := 67) hx hb dX11_likely_165 (by decide) ?_
  exact hk67 x4 x5 x6 x7_1 w _ _ _ hp hS (lv_sub hl [1, 2, 3, 4, 0] rfl)
set_option maxHeartbeats 4000000 in
set_option maxRecDepth 100000 in
theorem bX11_likely_149 {p : Program} {l : Launch} {e : Env} {s : State} {m : MethodId} {args : Array Value} {below : List Frame} {meth : Method} {c : Code} {Q : State → Prop} {A : Nat → Prop} {g : Gw} {post : Int32 → Wd → Prop}  (hC : Cx p s m args c cX11_likely RX11 10 g) (hR : RtI tabM p l e (rk 4) s m args below meth c Q cX11_likely A g post)  {k67 : Int32 → Int32 → Int32 → Int32 → Wd → Prop} (hk67 : ∀ (x4 : Int32) (x5 : Int32) (x6 : Int32) (x7 : Int32) (w : Wd) (H : Heap) (locs : List Loc) (ls : Array Slot), k67 x4 x5 x6 x7 w → St tabM A s.heap g w H locs → lv_has ls 10 [(0, .ref (g.2.2 300)), (4, .int x4), (5, .int x5), (6, .int x6), (7, .int x7)] → W p l e (rk 4) s m args below meth c H locs 0 0 Q (F0 m 67 ls [])) : ∀ (x4 : Int32) (x7 : Int32) (x8 : Int32) (w : Wd) (H : Heap) (locs : List Loc) (ls : Array Slot), pX11_likely_149 k67 post x4 x7 x8 w → St tabM A s.heap g w H locs → lv_has ls 10 [(0, .ref (g.2.2 300)), (4, .int x4), (7, .int x7), (8, .int x8)] → W p l e (rk 4) s m args below meth c H locs 0 0 Q (F0 m 149 ls []) := by
  have hx := hC.1
  have hb := hC.2.1
  intro x4 x7 x8 w H locs ls hp hS hl
  unfold pX11_likely_149 at hp
  refine lv_iload hx hb dX11_likely_149 (lv_at hl 3 rfl) ?_
  refine lv_istore (lv' := [(6, .int x8), (0, .ref (g.2.2 300)), (4, .int x4), (7, .int x7), (8, .int x8)]) hx hb dX11_likely_151 hl (by decide) rfl (fun ls hl => ?_)
  refine lv_aload_n hx hb dX11_likely_153 rfl (lv_at hl 1 rfl) ?_
  refine G_300_44 hC hS m276 dX11_likely_154 ?_
  refine lv_iload hx hb dX11_likely_157 (lv_at hl 3 rfl) ?_
  refine La_345 hC hS hp.1 dX11_likely_159 ?_
  have hp := hp.2
  refine lv_topi (fun x5_1 ex5_1 => ?_)
  have hp := hp x5_1 ex5_1
  refine lv_istore (lv' := [(5, .int x5_1), (6, .int x8), (0, .ref (g.2.2 300)), (4, .int x4), (7, .int x7), (8, .int x8)]) hx hb dX11_likely_160 hl (by decide) rfl (fun ls hl => ?_)
  exact bX11_likely_162 hC hR hk67 x4 x5_1 x8 x7 w _ _ _ hp hS (lv_sub hl [2, 3, 0, 1, 4] rfl)
set_option maxHeartbeats 4000000 in
set_option maxRecDepth 100000 in
theorem bX11_likely_111 {p : Program} {l : Launch} {e : Env} {s : State} {m : MethodId} {args : Array Value} {below : List Frame} {meth : Method} {c : Code} {Q : State → Prop} {A : Nat → Prop} {g : Gw} {post : Int32 → Wd → Prop}  (hC : Cx p s m args c cX11_likely RX11 10 g) (hR : RtI tabM p l e (rk 4) s m args below meth c Q cX11_likely A g post)  {k80 : Int32 → Int32 → Int32 → Int32 → Int32 → Int32 → Wd → Prop} (hk80 : ∀ (x4 : Int32) (x5 : Int32) (x6 : Int32) (x7 : Int32) (x8 : Int32) (x9 : Int32) (w : Wd) (H : Heap) (locs : List Loc) (ls : Array Slot), k80 x4 x5 x6 x7 x8 x9 w → St tabM A s.heap g w H locs → lv_has ls 10 [(0, .ref (g.2.2 300)), (4, .int x4), (5, .int x5), (6, .int x6), (7, .int x7), (8, .int x8), (9, .int x9)] → W p l e (rk 4) s m args below meth c H locs 0 0 Q (F0 m 80 ls [])) : ∀ (x4 : Int32) (x5 : Int32) (x6 : Int32) (x7 : Int32) (x9 : Int32) (t0 : Int32) (t1 : Int32) (w : Wd) (H : Heap) (locs : List Loc) (ls : Array Slot), pX11_likely_111 k80 post x4 x5 x6 x7 x9 t0 t1 w → St tabM A s.heap g w H locs → lv_has ls 10 [(0, .ref (g.2.2 300)), (4, .int x4), (5, .int x5), (6, .int x6), (7, .int x7), (9, .int x9)] → W p l e (rk 4) s m args below meth c H locs 0 0 Q (F0 m 111 ls [.int t1, .int t0]) := by
  have hx := hC.1
  have hb := hC.2.1
  intro x4 x5 x6 x7 x9 t0 t1 w H locs ls hp hS hl
  unfold pX11_likely_111 at hp
  refine lv_iadd hx hb dX11_likely_111 ?_
  refine lv_topi (fun x8_1 ex8_1 => ?_)
  have hp := hp x8_1 ex8_1
  refine lv_istore (lv' := [(8, .int x8_1), (0, .ref (g.2.2 300)), (4, .int x4), (5, .int x5), (6, .int x6), (7, .int x7), (9, .int x9)]) hx hb dX11_likely_112 hl (by decide) rfl (fun ls hl => ?_)
  obtain ⟨x9_2, ex9_2⟩ : ∃ y : Int32, y = x9 + (1 : Int32) := ⟨_, rfl⟩
  have hp := hp x9_2 ex9_2
  refine lv_iinc (v := x9_2) (lv' := [(9, .int x9_2), (8, .int x8_1), (0, .ref (g.2.2 300)), (4, .int x4), (5, .int x5), (6, .int x6), (7, .int x7)]) hx hb dX11_likely_114 hl (k := 6) rfl (by rw [ex9_2]; rfl) (by decide) rfl (fun ls hl => ?_)
  refine lv_goto (tgt := 80) hx hb dX11_likely_117 (by decide) ?_
  exact hk80 x4 x5 x6 x7 x8_1 x9_2 w _ _ _ hp hS (lv_sub hl [2, 3, 4, 5, 6, 1, 0] rfl)
set_option maxHeartbeats 4000000 in
set_option maxRecDepth 100000 in
theorem bX11_likely_80 {p : Program} {l : Launch} {e : Env} {s : State} {m : MethodId} {args : Array Value} {below : List Frame} {meth : Method} {c : Code} {Q : State → Prop} {A : Nat → Prop} {g : Gw} {post : Int32 → Wd → Prop}  (hC : Cx p s m args c cX11_likely RX11 10 g) (hR : RtI tabM p l e (rk 4) s m args below meth c Q cX11_likely A g post)  {k67 : Int32 → Int32 → Int32 → Int32 → Wd → Prop} (hk67 : ∀ (x4 : Int32) (x5 : Int32) (x6 : Int32) (x7 : Int32) (w : Wd) (H : Heap) (locs : List Loc) (ls : Array Slot), k67 x4 x5 x6 x7 w → St tabM A s.heap g w H locs → lv_has ls 10 [(0, .ref (g.2.2 300)), (4, .int x4), (5, .int x5), (6, .int x6), (7, .int x7)] → W p l e (rk 4) s m args below meth c H locs 0 0 Q (F0 m 67 ls [])) : ∀ (n : Nat) (x4 : Int32) (x5 : Int32) (x6 : Int32) (x7 : Int32) (x8 : Int32) (x9 : Int32) (w : Wd) (H : Heap) (locs : List Loc) (ls : Array Slot), pX11_likely_80 k67 post n x4 x5 x6 x7 x8 x9 w → St tabM A s.heap g w H locs → lv_has ls 10 [(0, .ref (g.2.2 300)), (4, .int x4), (5, .int x5), (6, .int x6), (7, .int x7), (8, .int x8), (9, .int x9)] → W p l e (rk 4) s m args below meth c H locs 0 0 Q (F0 m 80 ls []) := by
  have hx := hC.1
  have hb := hC.2.1
  intro n
  induction n with
  | zero =>
    intro x4 x5 x6 x7 x8 x9 w H locs ls hp hS hl
    exact False.elim hp
  | succ n ih =>
    intro x4 x5 x6 x7 x8 x9 w H locs ls hp hS hl
    unfold pX11_likely_80 at hp
    refine lv_iload hx hb dX11_likely_80 (lv_at hl 6 rfl) ?_
    refine lv_bipush hx hb dX11_likely_82 kB_100 ?_
    refine lv_icmp_ge (tgt := 120) hx hb dX11_likely_84 (by decide) (fun c_1 => ?_) (fun c_1 => ?_)
    · have hp := hp.1 c_1
      refine lv_iload hx hb dX11_likely_120 (lv_at hl 5 rfl) ?_
      refine lv_iload hx hb dX11_likely_122 (lv_at hl 3 rfl) ?_
      refine lv_icmp_lt (tgt := 162) hx hb dX11_likely_124 (by decide) (fun c_2 => ?_) (fun c_2 => ?_)
      · have hp := hp.1 c_2
        exact bX11_likely_162 hC hR hk67 x4 x5 x6 x7 w _ _ _ hp hS (lv_sub hl [0, 1, 2, 3, 4] rfl)
      · have hp := hp.2 c_2
        refine lv_iload hx hb dX11_likely_127 (lv_at hl 5 rfl) ?_
        refine lv_iload hx hb dX11_likely_129 (lv_at hl 3 rfl) ?_
        refine lv_icmp_ne (tgt := 149) hx hb dX11_likely_131 (by decide) (fun c_3 => ?_) (fun c_3 => ?_)
        · have hp := hp.1 c_3
          exact bX11_likely_149 hC hR hk67 x4 x7 x8 w _ _ _ hp hS (lv_sub hl [0, 1, 4, 5] rfl)
        · have hp := hp.2 c_3
          refine lv_aload_n hx hb dX11_likely_134 rfl (lv_at hl 0 rfl) ?_
          refine G_300_44 hC hS m276 dX11_likely_135 ?_
          refine lv_iload hx hb dX11_likely_138 (lv_at hl 4 rfl) ?_
          refine La_345 hC hS hp.1 dX11_likely_140 ?_
          have hp := hp.2
          refine lv_iload hx hb dX11_likely_141 (lv_at hl 2 rfl) ?_
          refine lv_icmp_lt (tgt := 149) hx hb dX11_likely_143 (by decide) (fun c_4 => ?_) (fun c_4 => ?_)
          · have hp := hp.1 c_4
            exact bX11_likely_149 hC hR hk67 x4 x7 x8 w _ _ _ hp hS (lv_sub hl [0, 1, 4, 5] rfl)
          · have hp := hp.2 c_4
            refine lv_goto (tgt := 162) hx hb dX11_likely_146 (by decide) ?_
            exact bX11_likely_162 hC hR hk67 x4 x5 x6 x7 w _ _ _ hp hS (lv_sub hl [0, 1, 2, 3, 4] rfl)
    · have hp := hp.2 c_1
      refine lv_iload hx hb dX11_likely_87 (lv_at hl 5 rfl) ?_
      refine lv_aload_n hx hb dX11_likely_89 rfl (lv_at hl 0 rfl) ?_
      refine G_300_44 hC hS m276 dX11_likely_90 ?_
      refine lv_iload hx hb dX11_likely_93 (lv_at hl 6 rfl) ?_
      refine La_345 hC hS hp.1 dX11_likely_95 ?_
      have hp := hp.2
      refine lv_aload_n hx hb dX11_likely_96 rfl (lv_at hl 0 rfl) ?_
      refine G_300_44 hC hS m276 dX11_likely_97 ?_
      refine lv_iload hx hb dX11_likely_100 (lv_at hl 4 rfl) ?_
      refine La_345 hC hS hp.1 dX11_likely_102 ?_
      have hp := hp.2
      refine lv_icmp_ne (tgt := 110) hx hb dX11_likely_103 (by decide) (fun c_5 => ?_) (fun c_5 => ?_)
      · have hp := hp.1 c_5
        refine lv_iconst hx hb dX11_likely_110 kI_0 ?_
        exact bX11_likely_111 hC hR ih x4 x5 x6 x7 x9 x8 (0 : Int32) w _ _ _ hp hS (lv_sub hl [0, 1, 2, 3, 4, 6] rfl)
      · have hp := hp.2 c_5
        refine lv_iconst hx hb dX11_likely_106 kI_1 ?_
        refine lv_goto (tgt := 111) hx hb dX11_likely_107 (by decide) ?_
        exact bX11_likely_111 hC hR ih x4 x5 x6 x7 x9 x8 (1 : Int32) w _ _ _ hp hS (lv_sub hl [0, 1, 2, 3, 4, 6] rfl)
set_option maxHeartbeats 4000000 in
set_option maxRecDepth 100000 in
theorem bX11_likely_67 {p : Program} {l : Launch} {e : Env} {s : State} {m : MethodId} {args : Array Value} {below : List Frame} {meth : Method} {c : Code} {Q : State → Prop} {A : Nat → Prop} {g : Gw} {post : Int32 → Wd → Prop}  (hC : Cx p s m args c cX11_likely RX11 10 g) (hR : RtI tabM p l e (rk 4) s m args below meth c Q cX11_likely A g post)  : ∀ (n : Nat) (x4 : Int32) (x5 : Int32) (x6 : Int32) (x7 : Int32) (w : Wd) (H : Heap) (locs : List Loc) (ls : Array Slot), pX11_likely_67 post n x4 x5 x6 x7 w → St tabM A s.heap g w H locs → lv_has ls 10 [(0, .ref (g.2.2 300)), (4, .int x4), (5, .int x5), (6, .int x6), (7, .int x7)] → W p l e (rk 4) s m args below meth c H locs 0 0 Q (F0 m 67 ls []) := by
  have hx := hC.1
  have hb := hC.2.1
  intro n
  induction n with
  | zero =>
    intro x4 x5 x6 x7 w H locs ls hp hS hl
    exact False.elim hp
  | succ n ih =>
    intro x4 x5 x6 x7 w H locs ls hp hS hl
    unfold pX11_likely_67 at hp
    refine lv_iload hx hb dX11_likely_67 (lv_at hl 4 rfl) ?_
    refine lv_bipush hx hb dX11_likely_69 kB_100 ?_
    refine lv_icmp_ge (tgt := 168) hx hb dX11_likely_71 (by decide) (fun c_1 => ?_) (fun c_1 => ?_)
    · have hp := hp.1 c_1
      refine lv_iload hx hb dX11_likely_168 (lv_at hl 1 rfl) ?_
      refine lv_if_ne (tgt := 178) hx hb dX11_likely_170 (by decide) (fun c_2 => ?_) (fun c_2 => ?_)
      · have hp := hp.1 c_2
        refine lv_iload hx hb dX11_likely_178 (lv_at hl 3 rfl) ?_
        exact hR _ _ _ _ _ _ dX11_likely_180 hp hS
      · have hp := hp.2 c_2
        refine lv_iload hx hb dX11_likely_173 (lv_at hl 2 rfl) ?_
        refine lv_goto (tgt := 180) hx hb dX11_likely_175 (by decide) ?_
        exact hR _ _ _ _ _ _ dX11_likely_180 hp hS
    · have hp := hp.2 c_1
      refine lv_iconst hx hb dX11_likely_74 kI_0 ?_
      refine lv_istore (lv' := [(8, .int (0 : Int32)), (0, .ref (g.2.2 300)), (4, .int x4), (5, .int x5), (6, .int x6), (7, .int x7)]) hx hb dX11_likely_75 hl (by decide) rfl (fun ls hl => ?_)
      refine lv_iconst hx hb dX11_likely_77 kI_0 ?_
      refine lv_istore (lv' := [(9, .int (0 : Int32)), (8, .int (0 : Int32)), (0, .ref (g.2.2 300)), (4, .int x4), (5, .int x5), (6, .int x6), (7, .int x7)]) hx hb dX11_likely_78 hl (by decide) rfl (fun ls hl => ?_)
      obtain ⟨n9, hp⟩ := hp
      exact bX11_likely_80 hC hR ih n9 x4 x5 x6 x7 (0 : Int32) (0 : Int32) w _ _ _ hp hS (lv_sub hl [2, 3, 4, 5, 6, 1, 0] rfl)
set_option maxHeartbeats 4000000 in
set_option maxRecDepth 100000 in
theorem bX11_likely_25 {p : Program} {l : Launch} {e : Env} {s : State} {m : MethodId} {args : Array Value} {below : List Frame} {meth : Method} {c : Code} {Q : State → Prop} {A : Nat → Prop} {g : Gw} {post : Int32 → Wd → Prop}  (hC : Cx p s m args c cX11_likely RX11 10 g) (hR : RtI tabM p l e (rk 4) s m args below meth c Q cX11_likely A g post)  : ∀ (n : Nat) (x1 : Int32) (x2 : Int32) (x3 : Int32) (x4 : Int32) (x5 : Int32) (w : Wd) (H : Heap) (locs : List Loc) (ls : Array Slot), pX11_likely_25 post n x1 x2 x3 x4 x5 w → St tabM A s.heap g w H locs → lv_has ls 10 [(0, .ref (g.2.2 300)), (1, .int x1), (2, .int x2), (3, .int x3), (4, .int x4), (5, .int x5)] → W p l e (rk 4) s m args below meth c H locs 0 0 Q (F0 m 25 ls []) := by
  have hx := hC.1
  have hb := hC.2.1
  intro n
  induction n with
  | zero =>
    intro x1 x2 x3 x4 x5 w H locs ls hp hS hl
    exact False.elim hp
  | succ n ih =>
    intro x1 x2 x3 x4 x5 w H locs ls hp hS hl
    unfold pX11_likely_25 at hp
    refine lv_iload hx hb dX11_likely_25 (lv_at hl 5 rfl) ?_
    refine lv_bipush hx hb dX11_likely_27 kB_100 ?_
    refine lv_icmp_ge (tgt := 58) hx hb dX11_likely_29 (by decide) (fun c_1 => ?_) (fun c_1 => ?_)
    · have hp := hp.1 c_1
      refine lv_iconst hx hb dX11_likely_58 kI_m1 ?_
      refine lv_istore (lv' := [(5, .int (-1 : Int32)), (0, .ref (g.2.2 300)), (1, .int x1), (2, .int x2), (3, .int x3), (4, .int x4)]) hx hb dX11_likely_59 hl (by decide) rfl (fun ls hl => ?_)
      refine lv_iconst hx hb dX11_likely_61 kI_0 ?_
      refine lv_istore (lv' := [(6, .int (0 : Int32)), (5, .int (-1 : Int32)), (0, .ref (g.2.2 300)), (1, .int x1), (2, .int x2), (3, .int x3), (4, .int x4)]) hx hb dX11_likely_62 hl (by decide) rfl (fun ls hl => ?_)
      refine lv_iconst hx hb dX11_likely_64 kI_0 ?_
      refine lv_istore (lv' := [(7, .int (0 : Int32)), (6, .int (0 : Int32)), (5, .int (-1 : Int32)), (0, .ref (g.2.2 300)), (1, .int x1), (2, .int x2), (3, .int x3), (4, .int x4)]) hx hb dX11_likely_65 hl (by decide) rfl (fun ls hl => ?_)
      obtain ⟨n9, hp⟩ := hp
      exact bX11_likely_67 hC hR n9 x4 (-1 : Int32) (0 : Int32) (0 : Int32) w _ _ _ hp hS (lv_sub hl [3, 7, 2, 1, 0] rfl)
    · have hp := hp.2 c_1
      refine lv_aload_n hx hb dX11_likely_32 rfl (lv_at hl 0 rfl) ?_
      refine G_300_44 hC hS m276 dX11_likely_33 ?_
      refine lv_iload hx hb dX11_likely_36 (lv_at hl 5 rfl) ?_
      refine lv_aload_n hx hb dX11_likely_38 rfl (lv_at hl 0 rfl) ?_
      refine lv_aload_n hx hb dX11_likely_39 rfl (lv_at hl 0 rfl) ?_
      refine lv_iload_n hx hb dX11_likely_40 rfl (lv_at hl 1 rfl) ?_
      refine q_cvI (As := [.int x1]) (rest := [.ref (g.2.2 300), .int x5, .ref (g.2.2 345)]) hC hS hl.1 (rX11_rowOf hp) cwX11_392 yvX11_rowOf (rcv_300 hC hS) rfl rfl (Nat.le_of_ble_eq_true rfl) (rmk (by decide) (by decide)) dX11_likely_41 (fun r_2 w_3 H locs hp hS => ?_)
      refine lv_iload_n hx hb dX11_likely_44 rfl (lv_at hl 2 rfl) ?_
      refine lv_iload_n hx hb dX11_likely_45 rfl (lv_at hl 3 rfl) ?_
      refine lv_iload hx hb dX11_likely_46 (lv_at hl 5 rfl) ?_
      exact False.elim hp
set_option maxHeartbeats 4000000 in
set_option maxRecDepth 100000 in
theorem rX11_likely {l : Launch} {g : Gw} {w : Wd} {post : Int32 → Wd → Prop}   {x1 : Int32} {x2 : Int32} {x3 : Int32} {x4 : Int32} (hp : pX11_likely post x1 x2 x3 x4 w) : MtI tabM l yX11_likely cX11_likely 10 (some .int) 4 g w [.ref (g.2.2 300), .int x1, .int x2, .int x3, .int x4] post := by
  refine q_entI tabM_nd (by decide) rfl (Nat.le_of_ble_eq_true rfl) ?_
  intro p e s m args below meth c A Q ls hC hR hS hl
  have hx := hC.1
  have hb := hC.2.1
  have hl : lv_has ls 10 [(0, .ref (g.2.2 300)), (1, .int x1), (2, .int x2), (3, .int x3), (4, .int x4)] := hl
  unfold pX11_likely at hp
  refine lv_aload_n hx hb dX11_likely_0 rfl (lv_at hl 0 rfl) ?_
  refine lv_iload_n hx hb dX11_likely_1 rfl (lv_at hl 1 rfl) ?_
  refine lv_iload_n hx hb dX11_likely_2 rfl (lv_at hl 2 rfl) ?_
  refine lv_iload_n hx hb dX11_likely_3 rfl (lv_at hl 3 rfl) ?_
  refine q_cvI (As := [.int x1, .int x2, .int x3]) (rest := []) hC hS hl.1 (rX11_canCast hp) cwX11_398 yvX11_canCast (rcv_300 hC hS) rfl rfl (Nat.le_of_ble_eq_true rfl) (rmk (by decide) (by decide)) dX11_likely_4 (fun r_1 w_2 H locs hp hS => ?_)
  refine lv_if_eq (tgt := 20) hx hb dX11_likely_7 (by decide) (fun c_3 => ?_) (fun c_3 => ?_)
  · have hp := hp.1 c_3
    refine lv_iconst hx hb dX11_likely_20 kI_m1 ?_
    exact hR _ _ _ _ _ _ dX11_likely_21 hp hS
  · have hp := hp.2 c_3
    refine lv_iload hx hb dX11_likely_10 (lv_at hl 4 rfl) ?_
    refine lv_iconst hx hb dX11_likely_12 kI_0 ?_
    refine lv_iconst hx hb dX11_likely_13 kI_1 ?_
    refine q_csI (As := [.int x4, .int (0 : Int32), .int (1 : Int32)]) (rest := []) hC hS hl.1 (rX11_isIn hp) cwX11_345 ysX11_isIn rfl rfl (Nat.le_of_ble_eq_true rfl) (rmk (by decide) (by decide)) dX11_likely_14 (fun r_4 w_5 H locs hp hS => ?_)
    refine lv_if_ne (tgt := 22) hx hb dX11_likely_17 (by decide) (fun c_6 => ?_) (fun c_6 => ?_)
    · have hp := hp.1 c_6
      refine lv_iconst hx hb dX11_likely_22 kI_0 ?_
      refine lv_istore (lv' := [(5, .int (0 : Int32)), (0, .ref (g.2.2 300)), (1, .int x1), (2, .int x2), (3, .int x3), (4, .int x4)]) hx hb dX11_likely_23 hl (by decide) rfl (fun ls hl => ?_)
      obtain ⟨n9, hp⟩ := hp
      exact bX11_likely_25 hC hR n9 x1 x2 x3 x4 (0 : Int32) w_5 _ _ _ hp hS (lv_sub hl [1, 2, 3, 4, 5, 0] rfl)
    · have hp := hp.2 c_6
      refine lv_iconst hx hb dX11_likely_20 kI_m1 ?_
      exact hR _ _ _ _ _ _ dX11_likely_21 hp hS
def pX11_fades_22 (post : Int32 → Wd → Prop) : Nat → Int32 → Int32 → Int32 → Int32 → Wd → Prop
  | 0, _, _, _, _, _ => False
  | n + 1, x2, x3, x4, x5, w => ((4096 : Int32) < x5 → (post (-1 : Int32) w)) ∧ (¬ (4096 : Int32) < x5 → ((¬ x4 = 0 → (False)) ∧ (x4 = 0 → (post x5 w))))
def pX11_fades (post : Int32 → Wd → Prop) (x1 : Int32) (x2 : Int32) (x3 : Int32) (w : Wd) : Prop := pX11_canCast (fun r_1 w_2 => (¬ r_1 = 0 → (pX11_rowOf (fun r_4 w_5 => ∃ n9, pX11_fades_22 post n9 x2 x3 r_4 (0 : Int32) w_5) x1 w_2)) ∧ (r_1 = 0 → (post (-1 : Int32) w_2))) x1 x2 x3 w
set_option maxHeartbeats 4000000 in
set_option maxRecDepth 100000 in
theorem bX11_fades_22 {p : Program} {l : Launch} {e : Env} {s : State} {m : MethodId} {args : Array Value} {below : List Frame} {meth : Method} {c : Code} {Q : State → Prop} {A : Nat → Prop} {g : Gw} {post : Int32 → Wd → Prop}  (hC : Cx p s m args c cX11_fades RX11 6 g) (hR : RtI tabM p l e (rk 4) s m args below meth c Q cX11_fades A g post)  : ∀ (n : Nat) (x2 : Int32) (x3 : Int32) (x4 : Int32) (x5 : Int32) (w : Wd) (H : Heap) (locs : List Loc) (ls : Array Slot), pX11_fades_22 post n x2 x3 x4 x5 w → St tabM A s.heap g w H locs → lv_has ls 6 [(0, .ref (g.2.2 300)), (2, .int x2), (3, .int x3), (4, .int x4), (5, .int x5)] → W p l e (rk 4) s m args below meth c H locs 0 0 Q (F0 m 22 ls []) := by
  have hx := hC.1
  have hb := hC.2.1
  intro n
  induction n with
  | zero =>
    intro x2 x3 x4 x5 w H locs ls hp hS hl
    exact False.elim hp
  | succ n ih =>
    intro x2 x3 x4 x5 w H locs ls hp hS hl
    unfold pX11_fades_22 at hp
    refine lv_iload hx hb dX11_fades_22 (lv_at hl 4 rfl) ?_
    refine lv_sipush hx hb dX11_fades_24 kS_4096 ?_
    refine lv_icmp_gt (tgt := 55) hx hb dX11_fades_27 (by decide) (fun c_1 => ?_) (fun c_1 => ?_)
    · have hp := hp.1 c_1
      refine lv_iconst hx hb dX11_fades_55 kI_m1 ?_
      exact hR _ _ _ _ _ _ dX11_fades_56 hp hS
    · have hp := hp.2 c_1
      refine lv_iload hx hb dX11_fades_30 (lv_at hl 3 rfl) ?_
      refine lv_if_ne (tgt := 38) hx hb dX11_fades_32 (by decide) (fun c_2 => ?_) (fun c_2 => ?_)
      · have hp := hp.1 c_2
        refine lv_aload_n hx hb dX11_fades_38 rfl (lv_at hl 0 rfl) ?_
        refine lv_iload hx hb dX11_fades_39 (lv_at hl 3 rfl) ?_
        refine lv_iload_n hx hb dX11_fades_41 rfl (lv_at hl 1 rfl) ?_
        refine lv_iload_n hx hb dX11_fades_42 rfl (lv_at hl 2 rfl) ?_
        refine lv_iconst hx hb dX11_fades_43 kI_0 ?_
        exact False.elim hp
      · have hp := hp.2 c_2
        refine lv_iload hx hb dX11_fades_35 (lv_at hl 4 rfl) ?_
        exact hR _ _ _ _ _ _ dX11_fades_37 hp hS
set_option maxHeartbeats 4000000 in
set_option maxRecDepth 100000 in
theorem rX11_fades {l : Launch} {g : Gw} {w : Wd} {post : Int32 → Wd → Prop}   {x1 : Int32} {x2 : Int32} {x3 : Int32} (hp : pX11_fades post x1 x2 x3 w) : MtI tabM l yX11_fades cX11_fades 6 (some .int) 4 g w [.ref (g.2.2 300), .int x1, .int x2, .int x3] post := by
  refine q_entI tabM_nd (by decide) rfl (Nat.le_of_ble_eq_true rfl) ?_
  intro p e s m args below meth c A Q ls hC hR hS hl
  have hx := hC.1
  have hb := hC.2.1
  have hl : lv_has ls 6 [(0, .ref (g.2.2 300)), (1, .int x1), (2, .int x2), (3, .int x3)] := hl
  unfold pX11_fades at hp
  refine lv_aload_n hx hb dX11_fades_0 rfl (lv_at hl 0 rfl) ?_
  refine lv_iload_n hx hb dX11_fades_1 rfl (lv_at hl 1 rfl) ?_
  refine lv_iload_n hx hb dX11_fades_2 rfl (lv_at hl 2 rfl) ?_
  refine lv_iload_n hx hb dX11_fades_3 rfl (lv_at hl 3 rfl) ?_
  refine q_cvI (As := [.int x1, .int x2, .int x3]) (rest := []) hC hS hl.1 (rX11_canCast hp) cwX11_398 yvX11_canCast (rcv_300 hC hS) rfl rfl (Nat.le_of_ble_eq_true rfl) (rmk (by decide) (by decide)) dX11_fades_4 (fun r_1 w_2 H locs hp hS => ?_)
  refine lv_if_ne (tgt := 12) hx hb dX11_fades_7 (by decide) (fun c_3 => ?_) (fun c_3 => ?_)
  · have hp := hp.1 c_3
    refine lv_aload_n hx hb dX11_fades_12 rfl (lv_at hl 0 rfl) ?_
    refine lv_iload_n hx hb dX11_fades_13 rfl (lv_at hl 1 rfl) ?_
    refine q_cvI (As := [.int x1]) (rest := []) hC hS hl.1 (rX11_rowOf hp) cwX11_392 yvX11_rowOf (rcv_300 hC hS) rfl rfl (Nat.le_of_ble_eq_true rfl) (rmk (by decide) (by decide)) dX11_fades_14 (fun r_4 w_5 H locs hp hS => ?_)
    refine lv_istore (lv' := [(4, .int r_4), (0, .ref (g.2.2 300)), (1, .int x1), (2, .int x2), (3, .int x3)]) hx hb dX11_fades_17 hl (by decide) rfl (fun ls hl => ?_)
    refine lv_iconst hx hb dX11_fades_19 kI_0 ?_
    refine lv_istore (lv' := [(5, .int (0 : Int32)), (4, .int r_4), (0, .ref (g.2.2 300)), (1, .int x1), (2, .int x2), (3, .int x3)]) hx hb dX11_fades_20 hl (by decide) rfl (fun ls hl => ?_)
    obtain ⟨n9, hp⟩ := hp
    exact bX11_fades_22 hC hR n9 x2 x3 r_4 (0 : Int32) w_5 _ _ _ hp hS (lv_sub hl [2, 4, 5, 1, 0] rfl)
  · have hp := hp.2 c_3
    refine lv_iconst hx hb dX11_fades_10 kI_m1 ?_
    exact hR _ _ _ _ _ _ dX11_fades_11 hp hS
def pX11_kinOf_5 (post : Int32 → Wd → Prop) : Nat → Int32 → Int32 → Wd → Prop
  | 0, _, _, _ => False
  | n + 1, x3, x4, w => (x3 = x4 → (post x3 w)) ∧ (¬ x3 = x4 → ((x3 ≤ x4 → (vp_in (((4 : Int32) * x4) + (1 : Int32)) 221 ∧ ∀ x4_3, x4_3 = (w.2.1 341 (((4 : Int32) * x4) + (1 : Int32)).toNatClampNeg) → pX11_kinOf_5 post n x3 x4_3 w)) ∧ (¬ x3 ≤ x4 → (vp_in (((4 : Int32) * x3) + (1 : Int32)) 221 ∧ ∀ x3_4, x3_4 = (w.2.1 341 (((4 : Int32) * x3) + (1 : Int32)).toNatClampNeg) → pX11_kinOf_5 post n x3_4 x4 w))))
def pX11_kinOf (post : Int32 → Wd → Prop) (x1 : Int32) (x2 : Int32) (w : Wd) : Prop := ∃ n9, pX11_kinOf_5 post n9 x1 x2 w
set_option maxHeartbeats 4000000 in
set_option maxRecDepth 100000 in
theorem bX11_kinOf_5 {p : Program} {l : Launch} {e : Env} {s : State} {m : MethodId} {args : Array Value} {below : List Frame} {meth : Method} {c : Code} {Q : State → Prop} {A : Nat → Prop} {g : Gw} {post : Int32 → Wd → Prop}  (hC : Cx p s m args c cX11_kinOf RX11 5 g) (hR : RtI tabM p l e (rk 1) s m args below meth c Q cX11_kinOf A g post)  : ∀ (n : Nat) (x3 : Int32) (x4 : Int32) (w : Wd) (H : Heap) (locs : List Loc) (ls : Array Slot), pX11_kinOf_5 post n x3 x4 w → St tabM A s.heap g w H locs → lv_has ls 5 [(0, .ref (g.2.2 300)), (3, .int x3), (4, .int x4)] → W p l e (rk 1) s m args below meth c H locs 0 0 Q (F0 m 5 ls []) := by
  have hx := hC.1
  have hb := hC.2.1
  intro n
  induction n with
  | zero =>
    intro x3 x4 w H locs ls hp hS hl
    exact False.elim hp
  | succ n ih =>
    intro x3 x4 w H locs ls hp hS hl
    unfold pX11_kinOf_5 at hp
    refine lv_iload_n hx hb dX11_kinOf_5 rfl (lv_at hl 1 rfl) ?_
    refine lv_iload hx hb dX11_kinOf_6 (lv_at hl 2 rfl) ?_
    refine lv_icmp_eq (tgt := 47) hx hb dX11_kinOf_8 (by decide) (fun c_1 => ?_) (fun c_1 => ?_)
    · have hp := hp.1 c_1
      refine lv_iload_n hx hb dX11_kinOf_47 rfl (lv_at hl 1 rfl) ?_
      exact hR _ _ _ _ _ _ dX11_kinOf_48 hp hS
    · have hp := hp.2 c_1
      refine lv_iload_n hx hb dX11_kinOf_11 rfl (lv_at hl 1 rfl) ?_
      refine lv_iload hx hb dX11_kinOf_12 (lv_at hl 2 rfl) ?_
      refine lv_icmp_le (tgt := 31) hx hb dX11_kinOf_14 (by decide) (fun c_2 => ?_) (fun c_2 => ?_)
      · have hp := hp.1 c_2
        refine lv_aload_n hx hb dX11_kinOf_31 rfl (lv_at hl 0 rfl) ?_
        refine G_300_40 hC hS m274 dX11_kinOf_32 ?_
        refine lv_iconst hx hb dX11_kinOf_35 kI_4 ?_
        refine lv_iload hx hb dX11_kinOf_36 (lv_at hl 2 rfl) ?_
        refine lv_imul hx hb dX11_kinOf_38 ?_
        refine lv_iconst hx hb dX11_kinOf_39 kI_1 ?_
        refine lv_iadd hx hb dX11_kinOf_40 ?_
        refine La_341 hC hS hp.1 dX11_kinOf_41 ?_
        have hp := hp.2
        refine lv_topi (fun x4_3 ex4_3 => ?_)
        have hp := hp x4_3 ex4_3
        refine lv_istore (lv' := [(4, .int x4_3), (0, .ref (g.2.2 300)), (3, .int x3)]) hx hb dX11_kinOf_42 hl (by decide) rfl (fun ls hl => ?_)
        refine lv_goto (tgt := 5) hx hb dX11_kinOf_44 (by decide) ?_
        exact ih x3 x4_3 w _ _ _ hp hS (lv_sub hl [1, 2, 0] rfl)
      · have hp := hp.2 c_2
        refine lv_aload_n hx hb dX11_kinOf_17 rfl (lv_at hl 0 rfl) ?_
        refine G_300_40 hC hS m274 dX11_kinOf_18 ?_
        refine lv_iconst hx hb dX11_kinOf_21 kI_4 ?_
        refine lv_iload_n hx hb dX11_kinOf_22 rfl (lv_at hl 1 rfl) ?_
        refine lv_imul hx hb dX11_kinOf_23 ?_
        refine lv_iconst hx hb dX11_kinOf_24 kI_1 ?_
        refine lv_iadd hx hb dX11_kinOf_25 ?_
        refine La_341 hC hS hp.1 dX11_kinOf_26 ?_
        have hp := hp.2
        refine lv_topi (fun x3_4 ex3_4 => ?_)
        have hp := hp x3_4 ex3_4
        refine lv_istore_n (lv' := [(3, .int x3_4), (0, .ref (g.2.2 300)), (4, .int x4)]) hx hb dX11_kinOf_27 rfl hl (by decide) rfl (fun ls hl => ?_)
        refine lv_goto (tgt := 5) hx hb dX11_kinOf_28 (by decide) ?_
        exact ih x3_4 x4 w _ _ _ hp hS (lv_sub hl [1, 0, 2] rfl)
set_option maxHeartbeats 4000000 in
set_option maxRecDepth 100000 in
theorem rX11_kinOf {l : Launch} {g : Gw} {w : Wd} {post : Int32 → Wd → Prop}   {x1 : Int32} {x2 : Int32} (hp : pX11_kinOf post x1 x2 w) : MtI tabM l yX11_kinOf cX11_kinOf 5 (some .int) 1 g w [.ref (g.2.2 300), .int x1, .int x2] post := by
  refine q_entI tabM_nd (by decide) rfl (Nat.le_of_ble_eq_true rfl) ?_
  intro p e s m args below meth c A Q ls hC hR hS hl
  have hx := hC.1
  have hb := hC.2.1
  have hl : lv_has ls 5 [(0, .ref (g.2.2 300)), (1, .int x1), (2, .int x2)] := hl
  unfold pX11_kinOf at hp
  refine lv_iload_n hx hb dX11_kinOf_0 rfl (lv_at hl 1 rfl) ?_
  refine lv_istore_n (lv' := [(3, .int x1), (0, .ref (g.2.2 300)), (1, .int x1), (2, .int x2)]) hx hb dX11_kinOf_1 rfl hl (by decide) rfl (fun ls hl => ?_)
  refine lv_iload_n hx hb dX11_kinOf_2 rfl (lv_at hl 3 rfl) ?_
  refine lv_istore (lv' := [(4, .int x2), (3, .int x1), (0, .ref (g.2.2 300)), (1, .int x1), (2, .int x2)]) hx hb dX11_kinOf_3 hl (by decide) rfl (fun ls hl => ?_)
  obtain ⟨n9, hp⟩ := hp
  exact bX11_kinOf_5 hC hR n9 x1 x2 w _ _ _ hp hS (lv_sub hl [2, 1, 0] rfl)
def pX11_kin (post : Int32 → Wd → Prop) (x1 : Int32) (x2 : Int32) (x3 : Int32) (w : Wd) : Prop := pX11_isSeal (fun r_1 w_2 => (r_1 = 0 → (post (-1 : Int32) w_2)) ∧ (¬ r_1 = 0 → (pX11_isSeal (fun r_4 w_5 => (r_4 = 0 → (post (-1 : Int32) w_5)) ∧ (¬ r_4 = 0 → (pX11_isIn (fun r_7 w_8 => (¬ r_7 = 0 → (pX11_kinOf (fun r_10 w_11 => (¬ x3 = 0 → (pX11_deep (fun r_13 w_14 => pX11_deep (fun r_15 w_16 => pX11_deep (fun r_17 w_18 => post ((r_13 + r_15) - ((2 : Int32) * r_17)) w_18) r_10 w_16) x2 w_14) x1 w_11)) ∧ (x3 = 0 → (post r_10 w_11))) x1 x2 w_8)) ∧ (r_7 = 0 → (post (-1 : Int32) w_8))) x3 (0 : Int32) (1 : Int32) w_5))) x2 w_2))) x1 w
set_option maxHeartbeats 4000000 in
set_option maxRecDepth 100000 in
theorem rX11_kin {l : Launch} {g : Gw} {w : Wd} {post : Int32 → Wd → Prop}   {x1 : Int32} {x2 : Int32} {x3 : Int32} (hp : pX11_kin post x1 x2 x3 w) : MtI tabM l yX11_kin cX11_kin 5 (some .int) 3 g w [.ref (g.2.2 300), .int x1, .int x2, .int x3] post := by
  refine q_entI tabM_nd (by decide) rfl (Nat.le_of_ble_eq_true rfl) ?_
  intro p e s m args below meth c A Q ls hC hR hS hl
  have hx := hC.1
  have hb := hC.2.1
  have hl : lv_has ls 5 [(0, .ref (g.2.2 300)), (1, .int x1), (2, .int x2), (3, .int x3)] := hl
  unfold pX11_kin at hp
  refine lv_aload_n hx hb dX11_kin_0 rfl (lv_at hl 0 rfl) ?_
  refine lv_iload_n hx hb dX11_kin_1 rfl (lv_at hl 1 rfl) ?_
  refine q_cvI (As := [.int x1]) (rest := []) hC hS hl.1 (rX11_isSeal hp) cwX11_383 yvX11_isSeal (rcv_300 hC hS) rfl rfl (Nat.le_of_ble_eq_true rfl) (rmk (by decide) (by decide)) dX11_kin_2 (fun r_1 w_2 H locs hp hS => ?_)
  refine lv_if_eq (tgt := 25) hx hb dX11_kin_5 (by decide) (fun c_3 => ?_) (fun c_3 => ?_)
  · have hp := hp.1 c_3
    refine lv_iconst hx hb dX11_kin_25 kI_m1 ?_
    exact hR _ _ _ _ _ _ dX11_kin_26 hp hS
  · have hp := hp.2 c_3
    refine lv_aload_n hx hb dX11_kin_8 rfl (lv_at hl 0 rfl) ?_
    refine lv_iload_n hx hb dX11_kin_9 rfl (lv_at hl 2 rfl) ?_
    refine q_cvI (As := [.int x2]) (rest := []) hC hS hl.1 (rX11_isSeal hp) cwX11_383 yvX11_isSeal (rcv_300 hC hS) rfl rfl (Nat.le_of_ble_eq_true rfl) (rmk (by decide) (by decide)) dX11_kin_10 (fun r_4 w_5 H locs hp hS => ?_)
    refine lv_if_eq (tgt := 25) hx hb dX11_kin_13 (by decide) (fun c_6 => ?_) (fun c_6 => ?_)
    · have hp := hp.1 c_6
      refine lv_iconst hx hb dX11_kin_25 kI_m1 ?_
      exact hR _ _ _ _ _ _ dX11_kin_26 hp hS
    · have hp := hp.2 c_6
      refine lv_iload_n hx hb dX11_kin_16 rfl (lv_at hl 3 rfl) ?_
      refine lv_iconst hx hb dX11_kin_17 kI_0 ?_
      refine lv_iconst hx hb dX11_kin_18 kI_1 ?_
      refine q_csI (As := [.int x3, .int (0 : Int32), .int (1 : Int32)]) (rest := []) hC hS hl.1 (rX11_isIn hp) cwX11_345 ysX11_isIn rfl rfl (Nat.le_of_ble_eq_true rfl) (rmk (by decide) (by decide)) dX11_kin_19 (fun r_7 w_8 H locs hp hS => ?_)
      refine lv_if_ne (tgt := 27) hx hb dX11_kin_22 (by decide) (fun c_9 => ?_) (fun c_9 => ?_)
      · have hp := hp.1 c_9
        refine lv_aload_n hx hb dX11_kin_27 rfl (lv_at hl 0 rfl) ?_
        refine lv_iload_n hx hb dX11_kin_28 rfl (lv_at hl 1 rfl) ?_
        refine lv_iload_n hx hb dX11_kin_29 rfl (lv_at hl 2 rfl) ?_
        refine q_cvI (As := [.int x1, .int x2]) (rest := []) hC hS hl.1 (rX11_kinOf hp) cwX11_404 yvX11_kinOf (rcv_300 hC hS) rfl rfl (Nat.le_of_ble_eq_true rfl) (rmk (by decide) (by decide)) dX11_kin_30 (fun r_10 w_11 H locs hp hS => ?_)
        refine lv_istore (lv' := [(4, .int r_10), (0, .ref (g.2.2 300)), (1, .int x1), (2, .int x2), (3, .int x3)]) hx hb dX11_kin_33 hl (by decide) rfl (fun ls hl => ?_)
        refine lv_iload_n hx hb dX11_kin_35 rfl (lv_at hl 4 rfl) ?_
        refine lv_if_ne (tgt := 44) hx hb dX11_kin_36 (by decide) (fun c_12 => ?_) (fun c_12 => ?_)
        · have hp := hp.1 c_12
          refine lv_aload_n hx hb dX11_kin_44 rfl (lv_at hl 1 rfl) ?_
          refine lv_iload_n hx hb dX11_kin_45 rfl (lv_at hl 2 rfl) ?_
          refine q_cvI (As := [.int x1]) (rest := []) hC hS hl.1 (rX11_deep hp) cwX11_386 yvX11_deep (rcv_300 hC hS) rfl rfl (Nat.le_of_ble_eq_true rfl) (rmk (by decide) (by decide)) dX11_kin_46 (fun r_13 w_14 H locs hp hS => ?_)
          refine lv_aload_n hx hb dX11_kin_49 rfl (lv_at hl 1 rfl) ?_
          refine lv_iload_n hx hb dX11_kin_50 rfl (lv_at hl 3 rfl) ?_
          refine q_cvI (As := [.int x2]) (rest := [.int r_13]) hC hS hl.1 (rX11_deep hp) cwX11_386 yvX11_deep (rcv_300 hC hS) rfl rfl (Nat.le_of_ble_eq_true rfl) (rmk (by decide) (by decide)) dX11_kin_51 (fun r_15 w_16 H locs hp hS => ?_)
          refine lv_iadd hx hb dX11_kin_54 ?_
          refine lv_iconst hx hb dX11_kin_55 kI_2 ?_
          refine lv_aload_n hx hb dX11_kin_56 rfl (lv_at hl 1 rfl) ?_
          refine lv_iload hx hb dX11_kin_57 (lv_at hl 0 rfl) ?_
          refine q_cvI (As := [.int r_10]) (rest := [.int (2 : Int32), .int (r_13 + r_15)]) hC hS hl.1 (rX11_deep hp) cwX11_386 yvX11_deep (rcv_300 hC hS) rfl rfl (Nat.le_of_ble_eq_true rfl) (rmk (by decide) (by decide)) dX11_kin_59 (fun r_17 w_18 H locs hp hS => ?_)
          refine lv_imul hx hb dX11_kin_62 ?_
          refine lv_isub hx hb dX11_kin_63 ?_
          exact hR _ _ _ _ _ _ dX11_kin_64 hp hS
        · have hp := hp.2 c_12
          refine lv_iload hx hb dX11_kin_39 (lv_at hl 0 rfl) ?_
          refine lv_goto (tgt := 64) hx hb dX11_kin_41 (by decide) ?_
          exact hR _ _ _ _ _ _ dX11_kin_64 hp hS
      · have hp := hp.2 c_9
        refine lv_iconst hx hb dX11_kin_25 kI_m1 ?_
        exact hR _ _ _ _ _ _ dX11_kin_26 hp hS
def pX11_thumb_42 (post : Int32 → Wd → Prop) : Nat → Int32 → Int32 → Wd → Prop
  | 0, _, _, _ => False
  | n + 1, x3, x4, w => (x3 ≤ 0 → (post (-1 : Int32) w)) ∧ (¬ x3 ≤ 0 → (vp_in (((4 : Int32) * x3) + (1 : Int32)) 221 ∧ ∀ x5_2, x5_2 = (w.2.1 341 (((4 : Int32) * x3) + (1 : Int32)).toNatClampNeg) → pX11_width (fun r_3 w_4 => ∀ x4_5, x4_5 = ((r_3 - (1 : Int32)) - x4) → pX11_rowOf (fun r_6 w_7 => (¬ ((r_6 >>> (x4_5 &&& 31)) &&& (1 : Int32)) = 0 → (pX11_thumb_42 post n x5_2 x4_5 w_7)) ∧ (((r_6 >>> (x4_5 &&& 31)) &&& (1 : Int32)) = 0 → (vp_in (((4 : Int32) * x3) + (2 : Int32)) 221 ∧ post (w_7.2.1 341 (((4 : Int32) * x3) + (2 : Int32)).toNatClampNeg) w_7))) x5_2 w_4) w))
def pX11_thumb (post : Int32 → Wd → Prop) (x1 : Int32) (x2 : Int32) (w : Wd) : Prop := pX11_isSeal (fun r_1 w_2 => (r_1 = 0 → (post (-2 : Int32) w_2)) ∧ (¬ r_1 = 0 → (pX11_width (fun r_4 w_5 => pX11_isIn (fun r_6 w_7 => (r_6 = 0 → (post (-2 : Int32) w_7)) ∧ (¬ r_6 = 0 → (pX11_rowOf (fun r_9 w_10 => (¬ ((r_9 >>> (x2 &&& 31)) &&& (1 : Int32)) = 0 → (∃ n9, pX11_thumb_42 post n9 x1 x2 w_10)) ∧ (((r_9 >>> (x2 &&& 31)) &&& (1 : Int32)) = 0 → (post (-2 : Int32) w_10))) x1 w_7))) x2 (0 : Int32) (r_4 - (1 : Int32)) w_5) w_2))) x1 w
set_option maxHeartbeats 4000000 in
set_option maxRecDepth 100000 in
theorem bX11_thumb_42 {p : Program} {l : Launch} {e : Env} {s : State} {m : MethodId} {args : Array Value} {below : List Frame} {meth : Method} {c : Code} {Q : State → Prop} {A : Nat → Prop} {g : Gw} {post : Int32 → Wd → Prop}  (hC : Cx p s m args c cX11_thumb RX11 6 g) (hR : RtI tabM p l e (rk 3) s m args below meth c Q cX11_thumb A g post)  : ∀ (n : Nat) (x3 : Int32) (x4 : Int32) (w : Wd) (H : Heap) (locs : List Loc) (ls : Array Slot), pX11_thumb_42 post n x3 x4 w → St tabM A s.heap g w H locs → lv_has ls 6 [(0, .ref (g.2.2 300)), (3, .int x3), (4, .int x4)] → W p l e (rk 3) s m args below meth c H locs 0 0 Q (F0 m 42 ls []) := by
  have hx := hC.1
  have hb := hC.2.1
  intro n
  induction n with
  | zero =>
    intro x3 x4 w H locs ls hp hS hl
    exact False.elim hp
  | succ n ih =>
    intro x3 x4 w H locs ls hp hS hl
    unfold pX11_thumb_42 at hp
    refine lv_iload_n hx hb dX11_thumb_42 rfl (lv_at hl 1 rfl) ?_
    refine lv_if_le (tgt := 100) hx hb dX11_thumb_43 (by decide) (fun c_1 => ?_) (fun c_1 => ?_)
    · have hp := hp.1 c_1
      refine lv_iconst hx hb dX11_thumb_100 kI_m1 ?_
      exact hR _ _ _ _ _ _ dX11_thumb_101 hp hS
    · have hp := hp.2 c_1
      refine lv_aload_n hx hb dX11_thumb_46 rfl (lv_at hl 0 rfl) ?_
      refine G_300_40 hC hS m274 dX11_thumb_47 ?_
      refine lv_iconst hx hb dX11_thumb_50 kI_4 ?_
      refine lv_iload_n hx hb dX11_thumb_51 rfl (lv_at hl 1 rfl) ?_
      refine lv_imul hx hb dX11_thumb_52 ?_
      refine lv_iconst hx hb dX11_thumb_53 kI_1 ?_
      refine lv_iadd hx hb dX11_thumb_54 ?_
      refine La_341 hC hS hp.1 dX11_thumb_55 ?_
      have hp := hp.2
      refine lv_topi (fun x5_2 ex5_2 => ?_)
      have hp := hp x5_2 ex5_2
      refine lv_istore (lv' := [(5, .int x5_2), (0, .ref (g.2.2 300)), (3, .int x3), (4, .int x4)]) hx hb dX11_thumb_56 hl (by decide) rfl (fun ls hl => ?_)
      refine lv_aload_n hx hb dX11_thumb_58 rfl (lv_at hl 1 rfl) ?_
      refine q_cvI (As := []) (rest := []) hC hS hl.1 (rX11_width hp) cwX11_342 yvX11_width (rcv_300 hC hS) rfl rfl (Nat.le_of_ble_eq_true rfl) (rmk (by decide) (by decide)) dX11_thumb_59 (fun r_3 w_4 H locs hp hS => ?_)
      refine lv_iconst hx hb dX11_thumb_62 kI_1 ?_
      refine lv_isub hx hb dX11_thumb_63 ?_
      refine lv_iload hx hb dX11_thumb_64 (lv_at hl 3 rfl) ?_
      refine lv_isub hx hb dX11_thumb_66 ?_
      refine lv_topi (fun x4_5 ex4_5 => ?_)
      have hp := hp x4_5 ex4_5
      refine lv_istore (lv' := [(4, .int x4_5), (5, .int x5_2), (0, .ref (g.2.2 300)), (3, .int x3)]) hx hb dX11_thumb_67 hl (by decide) rfl (fun ls hl => ?_)
      refine lv_aload_n hx hb dX11_thumb_69 rfl (lv_at hl 2 rfl) ?_
      refine lv_iload hx hb dX11_thumb_70 (lv_at hl 1 rfl) ?_
      refine q_cvI (As := [.int x5_2]) (rest := []) hC hS hl.1 (rX11_rowOf hp) cwX11_392 yvX11_rowOf (rcv_300 hC hS) rfl rfl (Nat.le_of_ble_eq_true rfl) (rmk (by decide) (by decide)) dX11_thumb_72 (fun r_6 w_7 H locs hp hS => ?_)
      refine lv_iload hx hb dX11_thumb_75 (lv_at hl 0 rfl) ?_
      refine lv_ishr hx hb dX11_thumb_77 ?_
      refine lv_iconst hx hb dX11_thumb_78 kI_1 ?_
      refine lv_iand hx hb dX11_thumb_79 ?_
      refine lv_if_ne (tgt := 94) hx hb dX11_thumb_80 (by decide) (fun c_8 => ?_) (fun c_8 => ?_)
      · have hp := hp.1 c_8
        refine lv_iload hx hb dX11_thumb_94 (lv_at hl 1 rfl) ?_
        refine lv_istore_n (lv' := [(3, .int x5_2), (4, .int x4_5), (5, .int x5_2), (0, .ref (g.2.2 300))]) hx hb dX11_thumb_96 rfl hl (by decide) rfl (fun ls hl => ?_)
        refine lv_goto (tgt := 42) hx hb dX11_thumb_97 (by decide) ?_
        exact ih x5_2 x4_5 w_7 _ _ _ hp hS (lv_sub hl [3, 0, 1] rfl)
      · have hp := hp.2 c_8
        refine lv_aload_n hx hb dX11_thumb_83 rfl (lv_at hl 2 rfl) ?_
        refine G_300_40 hC hS m274 dX11_thumb_84 ?_
        refine lv_iconst hx hb dX11_thumb_87 kI_4 ?_
        refine lv_iload_n hx hb dX11_thumb_88 rfl (lv_at hl 3 rfl) ?_
        refine lv_imul hx hb dX11_thumb_89 ?_
        refine lv_iconst hx hb dX11_thumb_90 kI_2 ?_
        refine lv_iadd hx hb dX11_thumb_91 ?_
        refine La_341 hC hS hp.1 dX11_thumb_92 ?_
        have hp := hp.2
        exact hR _ _ _ _ _ _ dX11_thumb_93 hp hS
set_option maxHeartbeats 4000000 in
set_option maxRecDepth 100000 in
theorem rX11_thumb {l : Launch} {g : Gw} {w : Wd} {post : Int32 → Wd → Prop}   {x1 : Int32} {x2 : Int32} (hp : pX11_thumb post x1 x2 w) : MtI tabM l yX11_thumb cX11_thumb 6 (some .int) 3 g w [.ref (g.2.2 300), .int x1, .int x2] post := by
  refine q_entI tabM_nd (by decide) rfl (Nat.le_of_ble_eq_true rfl) ?_
  intro p e s m args below meth c A Q ls hC hR hS hl
  have hx := hC.1
  have hb := hC.2.1
  have hl : lv_has ls 6 [(0, .ref (g.2.2 300)), (1, .int x1), (2, .int x2)] := hl
  unfold pX11_thumb at hp
  refine lv_aload_n hx hb dX11_thumb_0 rfl (lv_at hl 0 rfl) ?_
  refine lv_iload_n hx hb dX11_thumb_1 rfl (lv_at hl 1 rfl) ?_
  refine q_cvI (As := [.int x1]) (rest := []) hC hS hl.1 (rX11_isSeal hp) cwX11_383 yvX11_isSeal (rcv_300 hC hS) rfl rfl (Nat.le_of_ble_eq_true rfl) (rmk (by decide) (by decide)) dX11_thumb_2 (fun r_1 w_2 H locs hp hS => ?_)
  refine lv_if_eq (tgt := 34) hx hb dX11_thumb_5 (by decide) (fun c_3 => ?_) (fun c_3 => ?_)
  · have hp := hp.1 c_3
    refine lv_bipush hx hb dX11_thumb_34 kB_m2 ?_
    exact hR _ _ _ _ _ _ dX11_thumb_36 hp hS
  · have hp := hp.2 c_3
    refine lv_iload_n hx hb dX11_thumb_8 rfl (lv_at hl 2 rfl) ?_
    refine lv_iconst hx hb dX11_thumb_9 kI_0 ?_
    refine lv_aload_n hx hb dX11_thumb_10 rfl (lv_at hl 0 rfl) ?_
    refine q_cvI (As := []) (rest := [.int (0 : Int32), .int x2]) hC hS hl.1 (rX11_width hp) cwX11_342 yvX11_width (rcv_300 hC hS) rfl rfl (Nat.le_of_ble_eq_true rfl) (rmk (by decide) (by decide)) dX11_thumb_11 (fun r_4 w_5 H locs hp hS => ?_)
    refine lv_iconst hx hb dX11_thumb_14 kI_1 ?_
    refine lv_isub hx hb dX11_thumb_15 ?_
    refine q_csI (As := [.int x2, .int (0 : Int32), .int (r_4 - (1 : Int32))]) (rest := []) hC hS hl.1 (rX11_isIn hp) cwX11_345 ysX11_isIn rfl rfl (Nat.le_of_ble_eq_true rfl) (rmk (by decide) (by decide)) dX11_thumb_16 (fun r_6 w_7 H locs hp hS => ?_)
    refine lv_if_eq (tgt := 34) hx hb dX11_thumb_19 (by decide) (fun c_8 => ?_) (fun c_8 => ?_)
    · have hp := hp.1 c_8
      refine lv_bipush hx hb dX11_thumb_34 kB_m2 ?_
      exact hR _ _ _ _ _ _ dX11_thumb_36 hp hS
    · have hp := hp.2 c_8
      refine lv_aload_n hx hb dX11_thumb_22 rfl (lv_at hl 0 rfl) ?_
      refine lv_iload_n hx hb dX11_thumb_23 rfl (lv_at hl 1 rfl) ?_
      refine q_cvI (As := [.int x1]) (rest := []) hC hS hl.1 (rX11_rowOf hp) cwX11_392 yvX11_rowOf (rcv_300 hC hS) rfl rfl (Nat.le_of_ble_eq_true rfl) (rmk (by decide) (by decide)) dX11_thumb_24 (fun r_9 w_10 H locs hp hS => ?_)
      refine lv_iload_n hx hb dX11_thumb_27 rfl (lv_at hl 2 rfl) ?_
      refine lv_ishr hx hb dX11_thumb_28 ?_
      refine lv_iconst hx hb dX11_thumb_29 kI_1 ?_
      refine lv_iand hx hb dX11_thumb_30 ?_
      refine lv_if_ne (tgt := 37) hx hb dX11_thumb_31 (by decide) (fun c_11 => ?_) (fun c_11 => ?_)
      · have hp := hp.1 c_11
        refine lv_iload_n hx hb dX11_thumb_37 rfl (lv_at hl 1 rfl) ?_
        refine lv_istore_n (lv' := [(3, .int x1), (0, .ref (g.2.2 300)), (1, .int x1), (2, .int x2)]) hx hb dX11_thumb_38 rfl hl (by decide) rfl (fun ls hl => ?_)
        refine lv_iload_n hx hb dX11_thumb_39 rfl (lv_at hl 3 rfl) ?_
        refine lv_istore (lv' := [(4, .int x2), (3, .int x1), (0, .ref (g.2.2 300)), (1, .int x1), (2, .int x2)]) hx hb dX11_thumb_40 hl (by decide) rfl (fun ls hl => ?_)
        obtain ⟨n9, hp⟩ := hp
        exact bX11_thumb_42 hC hR n9 x1 x2 w_10 _ _ _ hp hS (lv_sub hl [2, 1, 0] rfl)
      · have hp := hp.2 c_11
        refine lv_bipush hx hb dX11_thumb_34 kB_m2 ?_
        exact hR _ _ _ _ _ _ dX11_thumb_36 hp hS
