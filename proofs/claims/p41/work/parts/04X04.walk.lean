def pX10_kin_108 (post : Int32 → Wd → Prop) (x1 : Int32) (x2 : Int32) (x3 : Int32) (x4 : Int32) (w : Wd) : Prop := (x3 = 0 → (post x4 w)) ∧ (¬ x3 = 0 → (pX10_isSeal (fun r_2 w_3 => (¬ r_2 = 0 → (vp_in x1 24 ∧ vp_in x2 24 ∧ vp_in x4 24 ∧ post (((w_3.2.1 166 x1.toNatClampNeg) + (w_3.2.1 166 x2.toNatClampNeg)) - ((2 : Int32) * (w_3.2.1 166 x4.toNatClampNeg))) w_3)) ∧ (r_2 = 0 → (post x4 w_3))) x4 w))
def pX10_kin_102 (k36 : Int32 → Int32 → Int32 → Int32 → Int32 → Int32 → Wd → Prop) (post : Int32 → Wd → Prop) (x1 : Int32) (x2 : Int32) (x3 : Int32) (x4 : Int32) (x5 : Int32) (x6 : Int32) (w : Wd) : Prop := ∀ x6_1, x6_1 = x6 + (1 : Int32) → k36 x1 x2 x3 x4 x5 x6_1 w
def pX10_kin_36 (post : Int32 → Wd → Prop) : Nat → Int32 → Int32 → Int32 → Int32 → Int32 → Int32 → Wd → Prop
  | 0, _, _, _, _, _, _, _ => False
  | n + 1, x1, x2, x3, x4, x5, x6, w => ((48 : Int32) ≤ x6 → (pX10_kin_108 post x1 x2 x3 x4 w)) ∧ (¬ (48 : Int32) ≤ x6 → ((x4 = x5 → (pX10_kin_108 post x1 x2 x3 x4 w)) ∧ (¬ x4 = x5 → (pX10_isSeal (fun r_3 w_4 => (r_3 = 0 → (pX10_kin_108 post x1 x2 x3 x4 w_4)) ∧ (¬ r_3 = 0 → (pX10_isSeal (fun r_6 w_7 => (r_6 = 0 → (pX10_kin_108 post x1 x2 x3 x4 w_7)) ∧ (¬ r_6 = 0 → ((x4 ≤ x5 → (vp_in x5 24 ∧ ∀ x5_10, x5_10 = (w_7.2.1 163 x5.toNatClampNeg) → pX10_kin_102 (pX10_kin_36 post n) post x1 x2 x3 x4 x5_10 x6 w_7)) ∧ (¬ x4 ≤ x5 → (vp_in x4 24 ∧ ∀ x4_11, x4_11 = (w_7.2.1 163 x4.toNatClampNeg) → pX10_kin_102 (pX10_kin_36 post n) post x1 x2 x3 x4_11 x5 x6 w_7))))) x5 w_4))) x4 w))))
def pX10_kin (post : Int32 → Wd → Prop) (x1 : Int32) (x2 : Int32) (x3 : Int32) (w : Wd) : Prop := pX10_isSeal (fun r_1 w_2 => (r_1 = 0 → (post (-1 : Int32) w_2)) ∧ (¬ r_1 = 0 → (pX10_isSeal (fun r_4 w_5 => (r_4 = 0 → (post (-1 : Int32) w_5)) ∧ (¬ r_4 = 0 → ((x3 < 0 → (post (-1 : Int32) w_5)) ∧ (¬ x3 < 0 → ((x3 ≤ (1 : Int32) → (∃ n9, pX10_kin_36 post n9 x1 x2 x3 x1 x2 (0 : Int32) w_5)) ∧ (¬ x3 ≤ (1 : Int32) → (post (-1 : Int32) w_5))))))) x2 w_2))) x1 w
set_option maxHeartbeats 4000000 in
set_option maxRecDepth 100000 in
theorem bX10_kin_108 {p : Program} {l : Launch} {e : Env} {s : State} {m : MethodId} {args : Array Value} {below : List Frame} {meth : Method} {c : Code} {Q : State → Prop} {A : Nat → Prop} {g : Gw} {post : Int32 → Wd → Prop}  (hC : Cx p s m args c cX10_kin RX10 7 g) (hR : RtI tabX p l e (rk 2) s m args below meth c Q cX10_kin A g post)  : ∀ (x1 : Int32) (x2 : Int32) (x3 : Int32) (x4 : Int32) (w : Wd) (H : Heap) (locs : List Loc) (ls : Array Slot), pX10_kin_108 post x1 x2 x3 x4 w → St tabX A s.heap g w H locs → lv_has ls 7 [(0, .ref (g.2.2 0)), (1, .int x1), (2, .int x2), (3, .int x3), (4, .int x4)] → W p l e (rk 2) s m args below meth c H locs 0 0 Q (F0 m 108 ls []) := by
  have hx := hC.1
  have hb := hC.2.1
  intro x1 x2 x3 x4 w H locs ls hp hS hl
  unfold pX10_kin_108 at hp
  refine lv_iload_n hx hb dX10_kin_108 rfl (lv_at hl 3 rfl) ?_
  refine lv_if_eq (tgt := 121) hx hb dX10_kin_109 (by decide) (fun c_1 => ?_) (fun c_1 => ?_)
  · have hp := hp.1 c_1
    refine lv_iload hx hb dX10_kin_121 (lv_at hl 4 rfl) ?_
    exact hR _ _ _ _ _ _ dX10_kin_123 hp hS
  · have hp := hp.2 c_1
    refine lv_aload_n hx hb dX10_kin_112 rfl (lv_at hl 0 rfl) ?_
    refine lv_iload hx hb dX10_kin_113 (lv_at hl 4 rfl) ?_
    refine q_cvI (As := [.int x4]) (rest := []) hC hS hl.1 (rX10_isSeal hp) cwX10_149 yvX10_isSeal (rcv_0 hC hS) rfl rfl (Nat.le_of_ble_eq_true rfl) (rmk (by decide) (by decide)) dX10_kin_115 (fun r_2 w_3 H locs hp hS => ?_)
    refine lv_if_ne (tgt := 124) hx hb dX10_kin_118 (by decide) (fun c_4 => ?_) (fun c_4 => ?_)
    · have hp := hp.1 c_4
      refine lv_aload_n hx hb dX10_kin_124 rfl (lv_at hl 0 rfl) ?_
      refine G_0_3 hC hS m30 dX10_kin_125 ?_
      refine G_160_5 hC hS m617 dX10_kin_128 ?_
      refine lv_iload_n hx hb dX10_kin_131 rfl (lv_at hl 1 rfl) ?_
      refine La_166 hC hS hp.1 dX10_kin_132 ?_
      have hp := hp.2
      refine lv_aload_n hx hb dX10_kin_133 rfl (lv_at hl 0 rfl) ?_
      refine G_0_3 hC hS m30 dX10_kin_134 ?_
      refine G_160_5 hC hS m617 dX10_kin_137 ?_
      refine lv_iload_n hx hb dX10_kin_140 rfl (lv_at hl 2 rfl) ?_
      refine La_166 hC hS hp.1 dX10_kin_141 ?_
      have hp := hp.2
      refine lv_iadd hx hb dX10_kin_142 ?_
      refine lv_iconst hx hb dX10_kin_143 kI_2 ?_
      refine lv_aload_n hx hb dX10_kin_144 rfl (lv_at hl 0 rfl) ?_
      refine G_0_3 hC hS m30 dX10_kin_145 ?_
      refine G_160_5 hC hS m617 dX10_kin_148 ?_
      refine lv_iload hx hb dX10_kin_151 (lv_at hl 4 rfl) ?_
      refine La_166 hC hS hp.1 dX10_kin_153 ?_
      have hp := hp.2
      refine lv_imul hx hb dX10_kin_154 ?_
      refine lv_isub hx hb dX10_kin_155 ?_
      exact hR _ _ _ _ _ _ dX10_kin_156 hp hS
    · have hp := hp.2 c_4
      refine lv_iload hx hb dX10_kin_121 (lv_at hl 4 rfl) ?_
      exact hR _ _ _ _ _ _ dX10_kin_123 hp hS
set_option maxHeartbeats 4000000 in
set_option maxRecDepth 100000 in
theorem bX10_kin_102 {p : Program} {l : Launch} {e : Env} {s : State} {m : MethodId} {args : Array Value} {below : List Frame} {meth : Method} {c : Code} {Q : State → Prop} {A : Nat → Prop} {g : Gw} {post : Int32 → Wd → Prop}  (hC : Cx p s m args c cX10_kin RX10 7 g) (hR : RtI tabX p l e (rk 2) s m args below meth c Q cX10_kin A g post)  {k36 : Int32 → Int32 → Int32 → Int32 → Int32 → Int32 → Wd → Prop} (hk36 : ∀ (x1 : Int32) (x2 : Int32) (x3 : Int32) (x4 : Int32) (x5 : Int32) (x6 : Int32) (w : Wd) (H : Heap) (locs : List Loc) (ls : Array Slot), k36 x1 x2 x3 x4 x5 x6 w → St tabX A s.heap g w H locs → lv_has ls 7 [(0, .ref (g.2.2 0)), (1, .int x1), (2, .int x2), (3, .int x3), (4, .int x4), (5, .int x5), (6, .int x6)] → W p l e (rk 2) s m args below meth c H locs 0 0 Q (F0 m 36 ls [])) : ∀ (x1 : Int32) (x2 : Int32) (x3 : Int32) (x4 : Int32) (x5 : Int32) (x6 : Int32) (w : Wd) (H : Heap) (locs : List Loc) (ls : Array Slot), pX10_kin_102 k36 post x1 x2 x3 x4 x5 x6 w → St tabX A s.heap g w H locs → lv_has ls 7 [(0, .ref (g.2.2 0)), (1, .int x1), (2, .int x2), (3, .int x3), (4, .int x4), (5, .int x5), (6, .int x6)] → W p l e (rk 2) s m args below meth c H locs 0 0 Q (F0 m 102 ls []) := by
  have hx := hC.1
  have hb := hC.2.1
  intro x1 x2 x3 x4 x5 x6 w H locs ls hp hS hl
  unfold pX10_kin_102 at hp
  obtain ⟨x6_1, ex6_1⟩ : ∃ y : Int32, y = x6 + (1 : Int32) := ⟨_, rfl⟩
  have hp := hp x6_1 ex6_1
  refine lv_iinc (v := x6_1) (lv' := [(6, .int x6_1), (0, .ref (g.2.2 0)), (1, .int x1), (2, .int x2), (3, .int x3), (4, .int x4), (5, .int x5)]) hx hb dX10_kin_102 hl (k := 6) rfl (by rw [ex6_1]; rfl) (by decide) rfl (fun ls hl => ?_)
  refine lv_goto (tgt := 36) hx hb dX10_kin_105 (by decide) ?_
  exact hk36 x1 x2 x3 x4 x5 x6_1 w _ _ _ hp hS (lv_sub hl [1, 2, 3, 4, 5, 6, 0] rfl)
set_option maxHeartbeats 4000000 in
set_option maxRecDepth 100000 in
theorem bX10_kin_36 {p : Program} {l : Launch} {e : Env} {s : State} {m : MethodId} {args : Array Value} {below : List Frame} {meth : Method} {c : Code} {Q : State → Prop} {A : Nat → Prop} {g : Gw} {post : Int32 → Wd → Prop}  (hC : Cx p s m args c cX10_kin RX10 7 g) (hR : RtI tabX p l e (rk 2) s m args below meth c Q cX10_kin A g post)  : ∀ (n : Nat) (x1 : Int32) (x2 : Int32) (x3 : Int32) (x4 : Int32) (x5 : Int32) (x6 : Int32) (w : Wd) (H : Heap) (locs : List Loc) (ls : Array Slot), pX10_kin_36 post n x1 x2 x3 x4 x5 x6 w → St tabX A s.heap g w H locs → lv_has ls 7 [(0, .ref (g.2.2 0)), (1, .int x1), (2, .int x2), (3, .int x3), (4, .int x4), (5, .int x5), (6, .int x6)] → W p l e (rk 2) s m args below meth c H locs 0 0 Q (F0 m 36 ls []) := by
  have hx := hC.1
  have hb := hC.2.1
  intro n
  induction n with
  | zero =>
    intro x1 x2 x3 x4 x5 x6 w H locs ls hp hS hl
    exact False.elim hp
  | succ n ih =>
    intro x1 x2 x3 x4 x5 x6 w H locs ls hp hS hl
    unfold pX10_kin_36 at hp
    refine lv_iload hx hb dX10_kin_36 (lv_at hl 6 rfl) ?_
    refine lv_bipush hx hb dX10_kin_38 kB_48 ?_
    refine lv_icmp_ge (tgt := 108) hx hb dX10_kin_40 (by decide) (fun c_1 => ?_) (fun c_1 => ?_)
    · have hp := hp.1 c_1
      exact bX10_kin_108 hC hR x1 x2 x3 x4 w _ _ _ hp hS (lv_sub hl [0, 1, 2, 3, 4] rfl)
    · have hp := hp.2 c_1
      refine lv_iload hx hb dX10_kin_43 (lv_at hl 4 rfl) ?_
      refine lv_iload hx hb dX10_kin_45 (lv_at hl 5 rfl) ?_
      refine lv_icmp_eq (tgt := 108) hx hb dX10_kin_47 (by decide) (fun c_2 => ?_) (fun c_2 => ?_)
      · have hp := hp.1 c_2
        exact bX10_kin_108 hC hR x1 x2 x3 x4 w _ _ _ hp hS (lv_sub hl [0, 1, 2, 3, 4] rfl)
      · have hp := hp.2 c_2
        refine lv_aload_n hx hb dX10_kin_50 rfl (lv_at hl 0 rfl) ?_
        refine lv_iload hx hb dX10_kin_51 (lv_at hl 4 rfl) ?_
        refine q_cvI (As := [.int x4]) (rest := []) hC hS hl.1 (rX10_isSeal hp) cwX10_149 yvX10_isSeal (rcv_0 hC hS) rfl rfl (Nat.le_of_ble_eq_true rfl) (rmk (by decide) (by decide)) dX10_kin_53 (fun r_3 w_4 H locs hp hS => ?_)
        refine lv_if_eq (tgt := 108) hx hb dX10_kin_56 (by decide) (fun c_5 => ?_) (fun c_5 => ?_)
        · have hp := hp.1 c_5
          exact bX10_kin_108 hC hR x1 x2 x3 x4 w_4 _ _ _ hp hS (lv_sub hl [0, 1, 2, 3, 4] rfl)
        · have hp := hp.2 c_5
          refine lv_aload_n hx hb dX10_kin_59 rfl (lv_at hl 0 rfl) ?_
          refine lv_iload hx hb dX10_kin_60 (lv_at hl 5 rfl) ?_
          refine q_cvI (As := [.int x5]) (rest := []) hC hS hl.1 (rX10_isSeal hp) cwX10_149 yvX10_isSeal (rcv_0 hC hS) rfl rfl (Nat.le_of_ble_eq_true rfl) (rmk (by decide) (by decide)) dX10_kin_62 (fun r_6 w_7 H locs hp hS => ?_)
          refine lv_if_eq (tgt := 108) hx hb dX10_kin_65 (by decide) (fun c_8 => ?_) (fun c_8 => ?_)
          · have hp := hp.1 c_8
            exact bX10_kin_108 hC hR x1 x2 x3 x4 w_7 _ _ _ hp hS (lv_sub hl [0, 1, 2, 3, 4] rfl)
          · have hp := hp.2 c_8
            refine lv_iload hx hb dX10_kin_68 (lv_at hl 4 rfl) ?_
            refine lv_iload hx hb dX10_kin_70 (lv_at hl 5 rfl) ?_
            refine lv_icmp_le (tgt := 90) hx hb dX10_kin_72 (by decide) (fun c_9 => ?_) (fun c_9 => ?_)
            · have hp := hp.1 c_9
              refine lv_aload_n hx hb dX10_kin_90 rfl (lv_at hl 0 rfl) ?_
              refine G_0_3 hC hS m30 dX10_kin_91 ?_
              refine G_160_2 hC hS m614 dX10_kin_94 ?_
              refine lv_iload hx hb dX10_kin_97 (lv_at hl 5 rfl) ?_
              refine La_163 hC hS hp.1 dX10_kin_99 ?_
              have hp := hp.2
              refine lv_topi (fun x5_10 ex5_10 => ?_)
              have hp := hp x5_10 ex5_10
              refine lv_istore (lv' := [(5, .int x5_10), (0, .ref (g.2.2 0)), (1, .int x1), (2, .int x2), (3, .int x3), (4, .int x4), (6, .int x6)]) hx hb dX10_kin_100 hl (by decide) rfl (fun ls hl => ?_)
              exact bX10_kin_102 hC hR ih x1 x2 x3 x4 x5_10 x6 w_7 _ _ _ hp hS (lv_sub hl [1, 2, 3, 4, 5, 0, 6] rfl)
            · have hp := hp.2 c_9
              refine lv_aload_n hx hb dX10_kin_75 rfl (lv_at hl 0 rfl) ?_
              refine G_0_3 hC hS m30 dX10_kin_76 ?_
              refine G_160_2 hC hS m614 dX10_kin_79 ?_
              refine lv_iload hx hb dX10_kin_82 (lv_at hl 4 rfl) ?_
              refine La_163 hC hS hp.1 dX10_kin_84 ?_
              have hp := hp.2
              refine lv_topi (fun x4_11 ex4_11 => ?_)
              have hp := hp x4_11 ex4_11
              refine lv_istore (lv' := [(4, .int x4_11), (0, .ref (g.2.2 0)), (1, .int x1), (2, .int x2), (3, .int x3), (5, .int x5), (6, .int x6)]) hx hb dX10_kin_85 hl (by decide) rfl (fun ls hl => ?_)
              refine lv_goto (tgt := 102) hx hb dX10_kin_87 (by decide) ?_
              exact bX10_kin_102 hC hR ih x1 x2 x3 x4_11 x5 x6 w_7 _ _ _ hp hS (lv_sub hl [1, 2, 3, 4, 0, 5, 6] rfl)
set_option maxHeartbeats 4000000 in
set_option maxRecDepth 100000 in
theorem rX10_kin {l : Launch} {g : Gw} {w : Wd} {post : Int32 → Wd → Prop}   {x1 : Int32} {x2 : Int32} {x3 : Int32} (hp : pX10_kin post x1 x2 x3 w) : MtI tabX l yX10_kin cX10_kin 7 (some .int) 2 g w [.ref (g.2.2 0), .int x1, .int x2, .int x3] post := by
  refine q_entI tabX_nd (by decide) rfl (Nat.le_of_ble_eq_true rfl) ?_
  intro p e s m args below meth c A Q ls hC hR hS hl
  have hx := hC.1
  have hb := hC.2.1
  have hl : lv_has ls 7 [(0, .ref (g.2.2 0)), (1, .int x1), (2, .int x2), (3, .int x3)] := hl
  unfold pX10_kin at hp
  refine lv_aload_n hx hb dX10_kin_0 rfl (lv_at hl 0 rfl) ?_
  refine lv_iload_n hx hb dX10_kin_1 rfl (lv_at hl 1 rfl) ?_
  refine q_cvI (As := [.int x1]) (rest := []) hC hS hl.1 (rX10_isSeal hp) cwX10_149 yvX10_isSeal (rcv_0 hC hS) rfl rfl (Nat.le_of_ble_eq_true rfl) (rmk (by decide) (by decide)) dX10_kin_2 (fun r_1 w_2 H locs hp hS => ?_)
  refine lv_if_eq (tgt := 25) hx hb dX10_kin_5 (by decide) (fun c_3 => ?_) (fun c_3 => ?_)
  · have hp := hp.1 c_3
    refine lv_iconst hx hb dX10_kin_25 kI_m1 ?_
    exact hR _ _ _ _ _ _ dX10_kin_26 hp hS
  · have hp := hp.2 c_3
    refine lv_aload_n hx hb dX10_kin_8 rfl (lv_at hl 0 rfl) ?_
    refine lv_iload_n hx hb dX10_kin_9 rfl (lv_at hl 2 rfl) ?_
    refine q_cvI (As := [.int x2]) (rest := []) hC hS hl.1 (rX10_isSeal hp) cwX10_149 yvX10_isSeal (rcv_0 hC hS) rfl rfl (Nat.le_of_ble_eq_true rfl) (rmk (by decide) (by decide)) dX10_kin_10 (fun r_4 w_5 H locs hp hS => ?_)
    refine lv_if_eq (tgt := 25) hx hb dX10_kin_13 (by decide) (fun c_6 => ?_) (fun c_6 => ?_)
    · have hp := hp.1 c_6
      refine lv_iconst hx hb dX10_kin_25 kI_m1 ?_
      exact hR _ _ _ _ _ _ dX10_kin_26 hp hS
    · have hp := hp.2 c_6
      refine lv_iload_n hx hb dX10_kin_16 rfl (lv_at hl 3 rfl) ?_
      refine lv_if_lt (tgt := 25) hx hb dX10_kin_17 (by decide) (fun c_7 => ?_) (fun c_7 => ?_)
      · have hp := hp.1 c_7
        refine lv_iconst hx hb dX10_kin_25 kI_m1 ?_
        exact hR _ _ _ _ _ _ dX10_kin_26 hp hS
      · have hp := hp.2 c_7
        refine lv_iload_n hx hb dX10_kin_20 rfl (lv_at hl 3 rfl) ?_
        refine lv_iconst hx hb dX10_kin_21 kI_1 ?_
        refine lv_icmp_le (tgt := 27) hx hb dX10_kin_22 (by decide) (fun c_8 => ?_) (fun c_8 => ?_)
        · have hp := hp.1 c_8
          refine lv_iload_n hx hb dX10_kin_27 rfl (lv_at hl 1 rfl) ?_
          refine lv_istore (lv' := [(4, .int x1), (0, .ref (g.2.2 0)), (1, .int x1), (2, .int x2), (3, .int x3)]) hx hb dX10_kin_28 hl (by decide) rfl (fun ls hl => ?_)
          refine lv_iload_n hx hb dX10_kin_30 rfl (lv_at hl 3 rfl) ?_
          refine lv_istore (lv' := [(5, .int x2), (4, .int x1), (0, .ref (g.2.2 0)), (1, .int x1), (2, .int x2), (3, .int x3)]) hx hb dX10_kin_31 hl (by decide) rfl (fun ls hl => ?_)
          refine lv_iconst hx hb dX10_kin_33 kI_0 ?_
          refine lv_istore (lv' := [(6, .int (0 : Int32)), (5, .int x2), (4, .int x1), (0, .ref (g.2.2 0)), (1, .int x1), (2, .int x2), (3, .int x3)]) hx hb dX10_kin_34 hl (by decide) rfl (fun ls hl => ?_)
          obtain ⟨n9, hp⟩ := hp
          exact bX10_kin_36 hC hR n9 x1 x2 x3 x1 x2 (0 : Int32) w_5 _ _ _ hp hS (lv_sub hl [3, 4, 5, 6, 2, 1, 0] rfl)
        · have hp := hp.2 c_8
          refine lv_iconst hx hb dX10_kin_25 kI_m1 ?_
          exact hR _ _ _ _ _ _ dX10_kin_26 hp hS
def pX10_thumb_20 (post : Int32 → Wd → Prop) : Nat → Int32 → Int32 → Int32 → Wd → Prop
  | 0, _, _, _, _ => False
  | n + 1, x3, x4, x5, w => ((24 : Int32) ≤ x5 → (post (-1 : Int32) w)) ∧ (¬ (24 : Int32) ≤ x5 → ((x3 ≤ 0 → (post (-1 : Int32) w)) ∧ (¬ x3 ≤ 0 → (vp_in x3 24 ∧ ∀ x6_3, x6_3 = (w.2.1 163 x3.toNatClampNeg) → ∀ x4_4, x4_4 = (((w.1 (rl (w.2.2.2.2 0)) 0) - (1 : Int32)) - x4) → pX10_sealHas (fun r_5 w_6 => (¬ r_5 = 0 → (∀ x5_8, x5_8 = x5 + (1 : Int32) → pX10_thumb_20 post n x6_3 x4_4 x5_8 w_6)) ∧ (r_5 = 0 → (vp_in x3 24 ∧ post (w_6.2.1 164 x3.toNatClampNeg) w_6))) x6_3 x4_4 w))))
def pX10_thumb (post : Int32 → Wd → Prop) (x1 : Int32) (x2 : Int32) (w : Wd) : Prop := pX10_sealHas (fun r_1 w_2 => (¬ r_1 = 0 → (∃ n9, pX10_thumb_20 post n9 x1 x2 (0 : Int32) w_2)) ∧ (r_1 = 0 → (post (-2 : Int32) w_2))) x1 x2 w
set_option maxHeartbeats 4000000 in
set_option maxRecDepth 100000 in
theorem bX10_thumb_20 {p : Program} {l : Launch} {e : Env} {s : State} {m : MethodId} {args : Array Value} {below : List Frame} {meth : Method} {c : Code} {Q : State → Prop} {A : Nat → Prop} {g : Gw} {post : Int32 → Wd → Prop}  (hC : Cx p s m args c cX10_thumb RX10 7 g) (hR : RtI tabX p l e (rk 3) s m args below meth c Q cX10_thumb A g post)  : ∀ (n : Nat) (x3 : Int32) (x4 : Int32) (x5 : Int32) (w : Wd) (H : Heap) (locs : List Loc) (ls : Array Slot), pX10_thumb_20 post n x3 x4 x5 w → St tabX A s.heap g w H locs → lv_has ls 7 [(0, .ref (g.2.2 0)), (3, .int x3), (4, .int x4), (5, .int x5)] → W p l e (rk 3) s m args below meth c H locs 0 0 Q (F0 m 20 ls []) := by
  have hx := hC.1
  have hb := hC.2.1
  intro n
  induction n with
  | zero =>
    intro x3 x4 x5 w H locs ls hp hS hl
    exact False.elim hp
  | succ n ih =>
    intro x3 x4 x5 w H locs ls hp hS hl
    unfold pX10_thumb_20 at hp
    refine lv_iload hx hb dX10_thumb_20 (lv_at hl 3 rfl) ?_
    refine lv_bipush hx hb dX10_thumb_22 kB_24 ?_
    refine lv_icmp_ge (tgt := 86) hx hb dX10_thumb_24 (by decide) (fun c_1 => ?_) (fun c_1 => ?_)
    · have hp := hp.1 c_1
      refine lv_iconst hx hb dX10_thumb_86 kI_m1 ?_
      exact hR _ _ _ _ _ _ dX10_thumb_87 hp hS
    · have hp := hp.2 c_1
      refine lv_iload_n hx hb dX10_thumb_27 rfl (lv_at hl 1 rfl) ?_
      refine lv_if_le (tgt := 86) hx hb dX10_thumb_28 (by decide) (fun c_2 => ?_) (fun c_2 => ?_)
      · have hp := hp.1 c_2
        refine lv_iconst hx hb dX10_thumb_86 kI_m1 ?_
        exact hR _ _ _ _ _ _ dX10_thumb_87 hp hS
      · have hp := hp.2 c_2
        refine lv_aload_n hx hb dX10_thumb_31 rfl (lv_at hl 0 rfl) ?_
        refine G_0_3 hC hS m30 dX10_thumb_32 ?_
        refine G_160_2 hC hS m614 dX10_thumb_35 ?_
        refine lv_iload_n hx hb dX10_thumb_38 rfl (lv_at hl 1 rfl) ?_
        refine La_163 hC hS hp.1 dX10_thumb_39 ?_
        have hp := hp.2
        refine lv_topi (fun x6_3 ex6_3 => ?_)
        have hp := hp x6_3 ex6_3
        refine lv_istore (lv' := [(6, .int x6_3), (0, .ref (g.2.2 0)), (3, .int x3), (4, .int x4), (5, .int x5)]) hx hb dX10_thumb_40 hl (by decide) rfl (fun ls hl => ?_)
        refine lv_aload_n hx hb dX10_thumb_42 rfl (lv_at hl 1 rfl) ?_
        refine G_0_16 hC hS m21 dX10_thumb_43 ?_
        refine GR_0 hC hS m678 dX10_thumb_46 ?_
        refine lv_iconst hx hb dX10_thumb_49 kI_1 ?_
        refine lv_isub hx hb dX10_thumb_50 ?_
        refine lv_iload hx hb dX10_thumb_51 (lv_at hl 3 rfl) ?_
        refine lv_isub hx hb dX10_thumb_53 ?_
        refine lv_topi (fun x4_4 ex4_4 => ?_)
        have hp := hp x4_4 ex4_4
        refine lv_istore (lv' := [(4, .int x4_4), (6, .int x6_3), (0, .ref (g.2.2 0)), (3, .int x3), (5, .int x5)]) hx hb dX10_thumb_54 hl (by decide) rfl (fun ls hl => ?_)
        refine lv_aload_n hx hb dX10_thumb_56 rfl (lv_at hl 2 rfl) ?_
        refine lv_iload hx hb dX10_thumb_57 (lv_at hl 1 rfl) ?_
        refine lv_iload hx hb dX10_thumb_59 (lv_at hl 0 rfl) ?_
        refine q_cvI (As := [.int x6_3, .int x4_4]) (rest := []) hC hS hl.1 (rX10_sealHas hp) cwX10_214 yvX10_sealHas (rcv_0 hC hS) rfl rfl (Nat.le_of_ble_eq_true rfl) (rmk (by decide) (by decide)) dX10_thumb_61 (fun r_5 w_6 H locs hp hS => ?_)
        refine lv_if_ne (tgt := 77) hx hb dX10_thumb_64 (by decide) (fun c_7 => ?_) (fun c_7 => ?_)
        · have hp := hp.1 c_7
          refine lv_iload hx hb dX10_thumb_77 (lv_at hl 1 rfl) ?_
          refine lv_istore_n (lv' := [(3, .int x6_3), (4, .int x4_4), (6, .int x6_3), (0, .ref (g.2.2 0)), (5, .int x5)]) hx hb dX10_thumb_79 rfl hl (by decide) rfl (fun ls hl => ?_)
          obtain ⟨x5_8, ex5_8⟩ : ∃ y : Int32, y = x5 + (1 : Int32) := ⟨_, rfl⟩
          have hp := hp x5_8 ex5_8
          refine lv_iinc (v := x5_8) (lv' := [(5, .int x5_8), (3, .int x6_3), (4, .int x4_4), (6, .int x6_3), (0, .ref (g.2.2 0))]) hx hb dX10_thumb_80 hl (k := 4) rfl (by rw [ex5_8]; rfl) (by decide) rfl (fun ls hl => ?_)
          refine lv_goto (tgt := 20) hx hb dX10_thumb_83 (by decide) ?_
          exact ih x6_3 x4_4 x5_8 w_6 _ _ _ hp hS (lv_sub hl [4, 1, 2, 0] rfl)
        · have hp := hp.2 c_7
          refine lv_aload_n hx hb dX10_thumb_67 rfl (lv_at hl 2 rfl) ?_
          refine G_0_3 hC hS m30 dX10_thumb_68 ?_
          refine G_160_3 hC hS m615 dX10_thumb_71 ?_
          refine lv_iload_n hx hb dX10_thumb_74 rfl (lv_at hl 3 rfl) ?_
          refine La_164 hC hS hp.1 dX10_thumb_75 ?_
          have hp := hp.2
          exact hR _ _ _ _ _ _ dX10_thumb_76 hp hS
set_option maxHeartbeats 4000000 in
set_option maxRecDepth 100000 in
theorem rX10_thumb {l : Launch} {g : Gw} {w : Wd} {post : Int32 → Wd → Prop}   {x1 : Int32} {x2 : Int32} (hp : pX10_thumb post x1 x2 w) : MtI tabX l yX10_thumb cX10_thumb 7 (some .int) 3 g w [.ref (g.2.2 0), .int x1, .int x2] post := by
  refine q_entI tabX_nd (by decide) rfl (Nat.le_of_ble_eq_true rfl) ?_
  intro p e s m args below meth c A Q ls hC hR hS hl
  have hx := hC.1
  have hb := hC.2.1
  have hl : lv_has ls 7 [(0, .ref (g.2.2 0)), (1, .int x1), (2, .int x2)] := hl
  unfold pX10_thumb at hp
  refine lv_aload_n hx hb dX10_thumb_0 rfl (lv_at hl 0 rfl) ?_
  refine lv_iload_n hx hb dX10_thumb_1 rfl (lv_at hl 1 rfl) ?_
  refine lv_iload_n hx hb dX10_thumb_2 rfl (lv_at hl 2 rfl) ?_
  refine q_cvI (As := [.int x1, .int x2]) (rest := []) hC hS hl.1 (rX10_sealHas hp) cwX10_214 yvX10_sealHas (rcv_0 hC hS) rfl rfl (Nat.le_of_ble_eq_true rfl) (rmk (by decide) (by decide)) dX10_thumb_3 (fun r_1 w_2 H locs hp hS => ?_)
  refine lv_if_ne (tgt := 12) hx hb dX10_thumb_6 (by decide) (fun c_3 => ?_) (fun c_3 => ?_)
  · have hp := hp.1 c_3
    refine lv_iload_n hx hb dX10_thumb_12 rfl (lv_at hl 1 rfl) ?_
    refine lv_istore_n (lv' := [(3, .int x1), (0, .ref (g.2.2 0)), (1, .int x1), (2, .int x2)]) hx hb dX10_thumb_13 rfl hl (by decide) rfl (fun ls hl => ?_)
    refine lv_iload_n hx hb dX10_thumb_14 rfl (lv_at hl 3 rfl) ?_
    refine lv_istore (lv' := [(4, .int x2), (3, .int x1), (0, .ref (g.2.2 0)), (1, .int x1), (2, .int x2)]) hx hb dX10_thumb_15 hl (by decide) rfl (fun ls hl => ?_)
    refine lv_iconst hx hb dX10_thumb_17 kI_0 ?_
    refine lv_istore (lv' := [(5, .int (0 : Int32)), (4, .int x2), (3, .int x1), (0, .ref (g.2.2 0)), (1, .int x1), (2, .int x2)]) hx hb dX10_thumb_18 hl (by decide) rfl (fun ls hl => ?_)
    obtain ⟨n9, hp⟩ := hp
    exact bX10_thumb_20 hC hR n9 x1 x2 (0 : Int32) w_2 _ _ _ hp hS (lv_sub hl [3, 2, 1, 0] rfl)
  · have hp := hp.2 c_3
    refine lv_bipush hx hb dX10_thumb_9 kB_m2 ?_
    exact hR _ _ _ _ _ _ dX10_thumb_11 hp hS
def pX10_marksIn_46 (k6 : Int32 → Int32 → Int32 → Int32 → Int32 → Wd → Prop) (post : Int32 → Wd → Prop) (x1 : Int32) (x2 : Int32) (x3 : Int32) (x4 : Int32) (x5 : Int32) (w : Wd) : Prop := ∀ x5_1, x5_1 = x5 + (1 : Int32) → k6 x1 x2 x3 x4 x5_1 w
def pX10_marksIn_6 (post : Int32 → Wd → Prop) : Nat → Int32 → Int32 → Int32 → Int32 → Int32 → Wd → Prop
  | 0, _, _, _, _, _, _ => False
  | n + 1, x1, x2, x3, x4, x5, w => ((w.1 (rl (w.2.2.2.2 0)) 0) ≤ x5 → (post x4 w)) ∧ (¬ (w.1 (rl (w.2.2.2.2 0)) 0) ≤ x5 → ((((x1 >>> (x5 &&& 31)) &&& (1 : Int32)) = 0 → (pX10_marksIn_46 (pX10_marksIn_6 post n) post x1 x2 x3 x4 x5 w)) ∧ (¬ ((x1 >>> (x5 &&& 31)) &&& (1 : Int32)) = 0 → (¬ (w.1 (rl (w.2.2.2.2 0)) 0) = 0 ∧ (¬ ((x5 * x2) / (w.1 (rl (w.2.2.2.2 0)) 0)) = x3 → (pX10_marksIn_46 (pX10_marksIn_6 post n) post x1 x2 x3 x4 x5 w)) ∧ (((x5 * x2) / (w.1 (rl (w.2.2.2.2 0)) 0)) = x3 → (∀ x4_4, x4_4 = x4 + (1 : Int32) → pX10_marksIn_46 (pX10_marksIn_6 post n) post x1 x2 x3 x4_4 x5 w))))))
def pX10_marksIn (post : Int32 → Wd → Prop) (x1 : Int32) (x2 : Int32) (x3 : Int32) (w : Wd) : Prop := ∃ n9, pX10_marksIn_6 post n9 x1 x2 x3 (0 : Int32) (0 : Int32) w
set_option maxHeartbeats 4000000 in
set_option maxRecDepth 100000 in
theorem bX10_marksIn_46 {p : Program} {l : Launch} {e : Env} {s : State} {m : MethodId} {args : Array Value} {below : List Frame} {meth : Method} {c : Code} {Q : State → Prop} {A : Nat → Prop} {g : Gw} {post : Int32 → Wd → Prop}  (hC : Cx p s m args c cX10_marksIn RX10 6 g) (hR : RtI tabX p l e (rk 1) s m args below meth c Q cX10_marksIn A g post)  {k6 : Int32 → Int32 → Int32 → Int32 → Int32 → Wd → Prop} (hk6 : ∀ (x1 : Int32) (x2 : Int32) (x3 : Int32) (x4 : Int32) (x5 : Int32) (w : Wd) (H : Heap) (locs : List Loc) (ls : Array Slot), k6 x1 x2 x3 x4 x5 w → St tabX A s.heap g w H locs → lv_has ls 6 [(0, .ref (g.2.2 0)), (1, .int x1), (2, .int x2), (3, .int x3), (4, .int x4), (5, .int x5)] → W p l e (rk 1) s m args below meth c H locs 0 0 Q (F0 m 6 ls [])) : ∀ (x1 : Int32) (x2 : Int32) (x3 : Int32) (x4 : Int32) (x5 : Int32) (w : Wd) (H : Heap) (locs : List Loc) (ls : Array Slot), pX10_marksIn_46 k6 post x1 x2 x3 x4 x5 w → St tabX A s.heap g w H locs → lv_has ls 6 [(0, .ref (g.2.2 0)), (1, .int x1), (2, .int x2), (3, .int x3), (4, .int x4), (5, .int x5)] → W p l e (rk 1) s m args below meth c H locs 0 0 Q (F0 m 46 ls []) := by
  have hx := hC.1
  have hb := hC.2.1
  intro x1 x2 x3 x4 x5 w H locs ls hp hS hl
  unfold pX10_marksIn_46 at hp
  obtain ⟨x5_1, ex5_1⟩ : ∃ y : Int32, y = x5 + (1 : Int32) := ⟨_, rfl⟩
  have hp := hp x5_1 ex5_1
  refine lv_iinc (v := x5_1) (lv' := [(5, .int x5_1), (0, .ref (g.2.2 0)), (1, .int x1), (2, .int x2), (3, .int x3), (4, .int x4)]) hx hb dX10_marksIn_46 hl (k := 5) rfl (by rw [ex5_1]; rfl) (by decide) rfl (fun ls hl => ?_)
  refine lv_goto (tgt := 6) hx hb dX10_marksIn_49 (by decide) ?_
  exact hk6 x1 x2 x3 x4 x5_1 w _ _ _ hp hS (lv_sub hl [1, 2, 3, 4, 5, 0] rfl)
set_option maxHeartbeats 4000000 in
set_option maxRecDepth 100000 in
theorem bX10_marksIn_6 {p : Program} {l : Launch} {e : Env} {s : State} {m : MethodId} {args : Array Value} {below : List Frame} {meth : Method} {c : Code} {Q : State → Prop} {A : Nat → Prop} {g : Gw} {post : Int32 → Wd → Prop}  (hC : Cx p s m args c cX10_marksIn RX10 6 g) (hR : RtI tabX p l e (rk 1) s m args below meth c Q cX10_marksIn A g post)  : ∀ (n : Nat) (x1 : Int32) (x2 : Int32) (x3 : Int32) (x4 : Int32) (x5 : Int32) (w : Wd) (H : Heap) (locs : List Loc) (ls : Array Slot), pX10_marksIn_6 post n x1 x2 x3 x4 x5 w → St tabX A s.heap g w H locs → lv_has ls 6 [(0, .ref (g.2.2 0)), (1, .int x1), (2, .int x2), (3, .int x3), (4, .int x4), (5, .int x5)] → W p l e (rk 1) s m args below meth c H locs 0 0 Q (F0 m 6 ls []) := by
  have hx := hC.1
  have hb := hC.2.1
  intro n
  induction n with
  | zero =>
    intro x1 x2 x3 x4 x5 w H locs ls hp hS hl
    exact False.elim hp
  | succ n ih =>
    intro x1 x2 x3 x4 x5 w H locs ls hp hS hl
    unfold pX10_marksIn_6 at hp
    refine lv_iload hx hb dX10_marksIn_6 (lv_at hl 5 rfl) ?_
    refine lv_aload_n hx hb dX10_marksIn_8 rfl (lv_at hl 0 rfl) ?_
    refine G_0_16 hC hS m21 dX10_marksIn_9 ?_
    refine GR_0 hC hS m678 dX10_marksIn_12 ?_
    refine lv_icmp_ge (tgt := 52) hx hb dX10_marksIn_15 (by decide) (fun c_1 => ?_) (fun c_1 => ?_)
    · have hp := hp.1 c_1
      refine lv_iload hx hb dX10_marksIn_52 (lv_at hl 4 rfl) ?_
      exact hR _ _ _ _ _ _ dX10_marksIn_54 hp hS
    · have hp := hp.2 c_1
      refine lv_iload_n hx hb dX10_marksIn_18 rfl (lv_at hl 1 rfl) ?_
      refine lv_iload hx hb dX10_marksIn_19 (lv_at hl 5 rfl) ?_
      refine lv_ishr hx hb dX10_marksIn_21 ?_
      refine lv_iconst hx hb dX10_marksIn_22 kI_1 ?_
      refine lv_iand hx hb dX10_marksIn_23 ?_
      refine lv_if_eq (tgt := 46) hx hb dX10_marksIn_24 (by decide) (fun c_2 => ?_) (fun c_2 => ?_)
      · have hp := hp.1 c_2
        exact bX10_marksIn_46 hC hR ih x1 x2 x3 x4 x5 w _ _ _ hp hS (lv_sub hl [0, 1, 2, 3, 4, 5] rfl)
      · have hp := hp.2 c_2
        refine lv_iload hx hb dX10_marksIn_27 (lv_at hl 5 rfl) ?_
        refine lv_iload_n hx hb dX10_marksIn_29 rfl (lv_at hl 2 rfl) ?_
        refine lv_imul hx hb dX10_marksIn_30 ?_
        refine lv_aload_n hx hb dX10_marksIn_31 rfl (lv_at hl 0 rfl) ?_
        refine G_0_16 hC hS m21 dX10_marksIn_32 ?_
        refine GR_0 hC hS m678 dX10_marksIn_35 ?_
        refine lv_idiv hx hb dX10_marksIn_38 hp.1 ?_
        have hp := hp.2
        refine lv_iload_n hx hb dX10_marksIn_39 rfl (lv_at hl 3 rfl) ?_
        refine lv_icmp_ne (tgt := 46) hx hb dX10_marksIn_40 (by decide) (fun c_3 => ?_) (fun c_3 => ?_)
        · have hp := hp.1 c_3
          exact bX10_marksIn_46 hC hR ih x1 x2 x3 x4 x5 w _ _ _ hp hS (lv_sub hl [0, 1, 2, 3, 4, 5] rfl)
        · have hp := hp.2 c_3
          obtain ⟨x4_4, ex4_4⟩ : ∃ y : Int32, y = x4 + (1 : Int32) := ⟨_, rfl⟩
          have hp := hp x4_4 ex4_4
          refine lv_iinc (v := x4_4) (lv' := [(4, .int x4_4), (0, .ref (g.2.2 0)), (1, .int x1), (2, .int x2), (3, .int x3), (5, .int x5)]) hx hb dX10_marksIn_43 hl (k := 4) rfl (by rw [ex4_4]; rfl) (by decide) rfl (fun ls hl => ?_)
          exact bX10_marksIn_46 hC hR ih x1 x2 x3 x4_4 x5 w _ _ _ hp hS (lv_sub hl [1, 2, 3, 4, 0, 5] rfl)
set_option maxHeartbeats 4000000 in
set_option maxRecDepth 100000 in
theorem rX10_marksIn {l : Launch} {g : Gw} {w : Wd} {post : Int32 → Wd → Prop}   {x1 : Int32} {x2 : Int32} {x3 : Int32} (hp : pX10_marksIn post x1 x2 x3 w) : MtI tabX l yX10_marksIn cX10_marksIn 6 (some .int) 1 g w [.ref (g.2.2 0), .int x1, .int x2, .int x3] post := by
  refine q_entI tabX_nd (by decide) rfl (Nat.le_of_ble_eq_true rfl) ?_
  intro p e s m args below meth c A Q ls hC hR hS hl
  have hx := hC.1
  have hb := hC.2.1
  have hl : lv_has ls 6 [(0, .ref (g.2.2 0)), (1, .int x1), (2, .int x2), (3, .int x3)] := hl
  unfold pX10_marksIn at hp
  refine lv_iconst hx hb dX10_marksIn_0 kI_0 ?_
  refine lv_istore (lv' := [(4, .int (0 : Int32)), (0, .ref (g.2.2 0)), (1, .int x1), (2, .int x2), (3, .int x3)]) hx hb dX10_marksIn_1 hl (by decide) rfl (fun ls hl => ?_)
  refine lv_iconst hx hb dX10_marksIn_3 kI_0 ?_
  refine lv_istore (lv' := [(5, .int (0 : Int32)), (4, .int (0 : Int32)), (0, .ref (g.2.2 0)), (1, .int x1), (2, .int x2), (3, .int x3)]) hx hb dX10_marksIn_4 hl (by decide) rfl (fun ls hl => ?_)
  obtain ⟨n9, hp⟩ := hp
  exact bX10_marksIn_6 hC hR n9 x1 x2 x3 (0 : Int32) (0 : Int32) w _ _ _ hp hS (lv_sub hl [2, 3, 4, 5, 1, 0] rfl)
def pX10_share_144 (k64 : Int32 → Int32 → Int32 → Int32 → Int32 → Int32 → Int32 → Int32 → Wd → Prop) (post : Int32 → Wd → Prop) (x1 : Int32) (x2 : Int32) (x3 : Int32) (x4 : Int32) (x5 : Int32) (x6 : Int32) (x8 : Int32) (t0 : Int32) (t1 : Int32) (w : Wd) : Prop := ∀ x7_1, x7_1 = (t0 + t1) → ∀ x8_2, x8_2 = x8 + (1 : Int32) → k64 x1 x2 x3 x4 x5 x6 x7_1 x8_2 w
def pX10_share_130 (k64 : Int32 → Int32 → Int32 → Int32 → Int32 → Int32 → Int32 → Int32 → Wd → Prop) (post : Int32 → Wd → Prop) (x1 : Int32) (x2 : Int32) (x3 : Int32) (x4 : Int32) (x5 : Int32) (x6 : Int32) (x7 : Int32) (x8 : Int32) (t0 : Int32) (w : Wd) : Prop := (t0 = 0 → (pX10_share_144 k64 post x1 x2 x3 x4 x5 x6 x8 x7 (0 : Int32) w)) ∧ (¬ t0 = 0 → (pX10_share_144 k64 post x1 x2 x3 x4 x5 x6 x8 x7 (1 : Int32) w))
def pX10_share_129 (k64 : Int32 → Int32 → Int32 → Int32 → Int32 → Int32 → Int32 → Int32 → Wd → Prop) (post : Int32 → Wd → Prop) (x1 : Int32) (x2 : Int32) (x3 : Int32) (x4 : Int32) (x5 : Int32) (x6 : Int32) (x7 : Int32) (x8 : Int32) (w : Wd) : Prop := pX10_share_130 k64 post x1 x2 x3 x4 x5 x6 x7 x8 (0 : Int32) w
def pX10_share_125 (k64 : Int32 → Int32 → Int32 → Int32 → Int32 → Int32 → Int32 → Int32 → Wd → Prop) (post : Int32 → Wd → Prop) (x1 : Int32) (x2 : Int32) (x3 : Int32) (x4 : Int32) (x5 : Int32) (x6 : Int32) (x7 : Int32) (x8 : Int32) (w : Wd) : Prop := pX10_share_130 k64 post x1 x2 x3 x4 x5 x6 x7 x8 (1 : Int32) w
def pX10_share_64 (post : Int32 → Wd → Prop) : Nat → Int32 → Int32 → Int32 → Int32 → Int32 → Int32 → Int32 → Int32 → Wd → Prop
  | 0, _, _, _, _, _, _, _, _, _ => False
  | n + 1, x1, x2, x3, x4, x5, x6, x7, x8, w => (x2 ≤ x8 → (¬ x4 = 0 ∧ (x6 ≤ x7 → (post ((x5 / x4) + (0 : Int32)) w)) ∧ (¬ x6 ≤ x7 → (post ((x5 / x4) + (1 : Int32)) w)))) ∧ (¬ x2 ≤ x8 → (pX10_marksIn (fun r_3 w_4 => ∀ x9_5, x9_5 = ((100 : Int32) * r_3) → ¬ x4 = 0 ∧ ∀ x6_6, x6_6 = (x6 - (x9_5 / x4)) → ¬ x4 = 0 ∧ ¬ x4 = 0 ∧ ((x5 - x5 / x4 * x4) < (x9_5 - x9_5 / x4 * x4) → (pX10_share_125 (pX10_share_64 post n) post x1 x2 x3 x4 x5 x6_6 x7 x8 w_4)) ∧ (¬ (x5 - x5 / x4 * x4) < (x9_5 - x9_5 / x4 * x4) → (¬ x4 = 0 ∧ ¬ x4 = 0 ∧ (¬ (x9_5 - x9_5 / x4 * x4) = (x5 - x5 / x4 * x4) → (pX10_share_129 (pX10_share_64 post n) post x1 x2 x3 x4 x5 x6_6 x7 x8 w_4)) ∧ ((x9_5 - x9_5 / x4 * x4) = (x5 - x5 / x4 * x4) → ((x3 ≤ x8 → (pX10_share_129 (pX10_share_64 post n) post x1 x2 x3 x4 x5 x6_6 x7 x8 w_4)) ∧ (¬ x3 ≤ x8 → (pX10_share_125 (pX10_share_64 post n) post x1 x2 x3 x4 x5 x6_6 x7 x8 w_4))))))) x1 x2 x8 w))
def pX10_share (post : Int32 → Wd → Prop) (x1 : Int32) (x2 : Int32) (x3 : Int32) (w : Wd) : Prop := pX10_isRow (fun r_1 w_2 => (r_1 = 0 → (post (-1 : Int32) w_2)) ∧ (¬ r_1 = 0 → ((x2 < (1 : Int32) → (post (-1 : Int32) w_2)) ∧ (¬ x2 < (1 : Int32) → (((4 : Int32) < x2 → (post (-1 : Int32) w_2)) ∧ (¬ (4 : Int32) < x2 → ((x3 < 0 → (post (-1 : Int32) w_2)) ∧ (¬ x3 < 0 → ((x3 < x2 → (pJ6_bitCount_0f7a4 (fun r_8 w_9 => (¬ r_8 = 0 → (pX10_marksIn (fun r_11 w_12 => ∀ x5_13, x5_13 = ((100 : Int32) * r_11) → ∃ n9, pX10_share_64 post n9 x1 x2 x3 r_8 x5_13 (100 : Int32) (0 : Int32) (0 : Int32) w_12) x1 x2 x3 w_9)) ∧ (r_8 = 0 → (post (0 : Int32) w_9))) x1 w_2)) ∧ (¬ x3 < x2 → (post (-1 : Int32) w_2))))))))))) x1 w
set_option maxHeartbeats 4000000 in
set_option maxRecDepth 100000 in
theorem bX10_share_144 {p : Program} {l : Launch} {e : Env} {s : State} {m : MethodId} {args : Array Value} {below : List Frame} {meth : Method} {c : Code} {Q : State → Prop} {A : Nat → Prop} {g : Gw} {post : Int32 → Wd → Prop}  (hC : Cx p s m args c cX10_share RX10 11 g) (hR : RtI tabX p l e (rk 3) s m args below meth c Q cX10_share A g post)  {k64 : Int32 → Int32 → Int32 → Int32 → Int32 → Int32 → Int32 → Int32 → Wd → Prop} (hk64 : ∀ (x1 : Int32) (x2 : Int32) (x3 : Int32) (x4 : Int32) (x5 : Int32) (x6 : Int32) (x7 : Int32) (x8 : Int32) (w : Wd) (H : Heap) (locs : List Loc) (ls : Array Slot), k64 x1 x2 x3 x4 x5 x6 x7 x8 w → St tabX A s.heap g w H locs → lv_has ls 11 [(0, .ref (g.2.2 0)), (1, .int x1), (2, .int x2), (3, .int x3), (4, .int x4), (5, .int x5), (6, .int x6), (7, .int x7), (8, .int x8)] → W p l e (rk 3) s m args below meth c H locs 0 0 Q (F0 m 64 ls [])) : ∀ (x1 : Int32) (x2 : Int32) (x3 : Int32) (x4 : Int32) (x5 : Int32) (x6 : Int32) (x8 : Int32) (t0 : Int32) (t1 : Int32) (w : Wd) (H : Heap) (locs : List Loc) (ls : Array Slot), pX10_share_144 k64 post x1 x2 x3 x4 x5 x6 x8 t0 t1 w → St tabX A s.heap g w H locs → lv_has ls 11 [(0, .ref (g.2.2 0)), (1, .int x1), (2, .int x2), (3, .int x3), (4, .int x4), (5, .int x5), (6, .int x6), (8, .int x8)] → W p l e (rk 3) s m args below meth c H locs 0 0 Q (F0 m 144 ls [.int t1, .int t0]) := by
  have hx := hC.1
  have hb := hC.2.1
  intro x1 x2 x3 x4 x5 x6 x8 t0 t1 w H locs ls hp hS hl
  unfold pX10_share_144 at hp
  refine lv_iadd hx hb dX10_share_144 ?_
  refine lv_topi (fun x7_1 ex7_1 => ?_)
  have hp := hp x7_1 ex7_1
  refine lv_istore (lv' := [(7, .int x7_1), (0, .ref (g.2.2 0)), (1, .int x1), (2, .int x2), (3, .int x3), (4, .int x4), (5, .int x5), (6, .int x6), (8, .int x8)]) hx hb dX10_share_145 hl (by decide) rfl (fun ls hl => ?_)
  obtain ⟨x8_2, ex8_2⟩ : ∃ y : Int32, y = x8 + (1 : Int32) := ⟨_, rfl⟩
  have hp := hp x8_2 ex8_2
  refine lv_iinc (v := x8_2) (lv' := [(8, .int x8_2), (7, .int x7_1), (0, .ref (g.2.2 0)), (1, .int x1), (2, .int x2), (3, .int x3), (4, .int x4), (5, .int x5), (6, .int x6)]) hx hb dX10_share_147 hl (k := 8) rfl (by rw [ex8_2]; rfl) (by decide) rfl (fun ls hl => ?_)
  refine lv_goto (tgt := 64) hx hb dX10_share_150 (by decide) ?_
  exact hk64 x1 x2 x3 x4 x5 x6 x7_1 x8_2 w _ _ _ hp hS (lv_sub hl [2, 3, 4, 5, 6, 7, 8, 1, 0] rfl)
set_option maxHeartbeats 4000000 in
set_option maxRecDepth 100000 in
theorem bX10_share_130 {p : Program} {l : Launch} {e : Env} {s : State} {m : MethodId} {args : Array Value} {below : List Frame} {meth : Method} {c : Code} {Q : State → Prop} {A : Nat → Prop} {g : Gw} {post : Int32 → Wd → Prop}  (hC : Cx p s m args c cX10_share RX10 11 g) (hR : RtI tabX p l e (rk 3) s m args below meth c Q cX10_share A g post)  {k64 : Int32 → Int32 → Int32 → Int32 → Int32 → Int32 → Int32 → Int32 → Wd → Prop} (hk64 : ∀ (x1 : Int32) (x2 : Int32) (x3 : Int32) (x4 : Int32) (x5 : Int32) (x6 : Int32) (x7 : Int32) (x8 : Int32) (w : Wd) (H : Heap) (locs : List Loc) (ls : Array Slot), k64 x1 x2 x3 x4 x5 x6 x7 x8 w → St tabX A s.heap g w H locs → lv_has ls 11 [(0, .ref (g.2.2 0)), (1, .int x1), (2, .int x2), (3, .int x3), (4, .int x4), (5, .int x5), (6, .int x6), (7, .int x7), (8, .int x8)] → W p l e (rk 3) s m args below meth c H locs 0 0 Q (F0 m 64 ls [])) : ∀ (x1 : Int32) (x2 : Int32) (x3 : Int32) (x4 : Int32) (x5 : Int32) (x6 : Int32) (x7 : Int32) (x8 : Int32) (t0 : Int32) (w : Wd) (H : Heap) (locs : List Loc) (ls : Array Slot), pX10_share_130 k64 post x1 x2 x3 x4 x5 x6 x7 x8 t0 w → St tabX A s.heap g w H locs → lv_has ls 11 [(0, .ref (g.2.2 0)), (1, .int x1), (2, .int x2), (3, .int x3), (4, .int x4), (5, .int x5), (6, .int x6), (7, .int x7), (8, .int x8)] → W p l e (rk 3) s m args below meth c H locs 0 0 Q (F0 m 130 ls [.int t0]) := by
  have hx := hC.1
  have hb := hC.2.1
  intro x1 x2 x3 x4 x5 x6 x7 x8 t0 w H locs ls hp hS hl
  unfold pX10_share_130 at hp
  refine lv_istore (lv' := [(10, .int t0), (0, .ref (g.2.2 0)), (1, .int x1), (2, .int x2), (3, .int x3), (4, .int x4), (5, .int x5), (6, .int x6), (7, .int x7), (8, .int x8)]) hx hb dX10_share_130 hl (by decide) rfl (fun ls hl => ?_)
  refine lv_iload hx hb dX10_share_132 (lv_at hl 8 rfl) ?_
  refine lv_iload hx hb dX10_share_134 (lv_at hl 0 rfl) ?_
  refine lv_if_eq (tgt := 143) hx hb dX10_share_136 (by decide) (fun c_1 => ?_) (fun c_1 => ?_)
  · have hp := hp.1 c_1
    refine lv_iconst hx hb dX10_share_143 kI_0 ?_
    exact bX10_share_144 hC hR hk64 x1 x2 x3 x4 x5 x6 x8 x7 (0 : Int32) w _ _ _ hp hS (lv_sub hl [1, 2, 3, 4, 5, 6, 7, 9] rfl)
  · have hp := hp.2 c_1
    refine lv_iconst hx hb dX10_share_139 kI_1 ?_
    refine lv_goto (tgt := 144) hx hb dX10_share_140 (by decide) ?_
    exact bX10_share_144 hC hR hk64 x1 x2 x3 x4 x5 x6 x8 x7 (1 : Int32) w _ _ _ hp hS (lv_sub hl [1, 2, 3, 4, 5, 6, 7, 9] rfl)
set_option maxHeartbeats 4000000 in
set_option maxRecDepth 100000 in
theorem bX10_share_129 {p : Program} {l : Launch} {e : Env} {s : State} {m : MethodId} {args : Array Value} {below : List Frame} {meth : Method} {c : Code} {Q : State → Prop} {A : Nat → Prop} {g : Gw} {post : Int32 → Wd → Prop}  (hC : Cx p s m args c cX10_share RX10 11 g) (hR : RtI tabX p l e (rk 3) s m args below meth c Q cX10_share A g post)  {k64 : Int32 → Int32 → Int32 → Int32 → Int32 → Int32 → Int32 → Int32 → Wd → Prop} (hk64 : ∀ (x1 : Int32) (x2 : Int32) (x3 : Int32) (x4 : Int32) (x5 : Int32) (x6 : Int32) (x7 : Int32) (x8 : Int32) (w : Wd) (H : Heap) (locs : List Loc) (ls : Array Slot), k64 x1 x2 x3 x4 x5 x6 x7 x8 w → St tabX A s.heap g w H locs → lv_has ls 11 [(0, .ref (g.2.2 0)), (1, .int x1), (2, .int x2), (3, .int x3), (4, .int x4), (5, .int x5), (6, .int x6), (7, .int x7), (8, .int x8)] → W p l e (rk 3) s m args below meth c H locs 0 0 Q (F0 m 64 ls [])) : ∀ (x1 : Int32) (x2 : Int32) (x3 : Int32) (x4 : Int32) (x5 : Int32) (x6 : Int32) (x7 : Int32) (x8 : Int32) (w : Wd) (H : Heap) (locs : List Loc) (ls : Array Slot), pX10_share_129 k64 post x1 x2 x3 x4 x5 x6 x7 x8 w → St tabX A s.heap g w H locs → lv_has ls 11 [(0, .ref (g.2.2 0)), (1, .int x1), (2, .int x2), (3, .int x3), (4, .int x4), (5, .int x5), (6, .int x6), (7, .int x7), (8, .int x8)] → W p l e (rk 3) s m args below meth c H locs 0 0 Q (F0 m 129 ls []) := by
  have hx := hC.1
  have hb := hC.2.1
  intro x1 x2 x3 x4 x5 x6 x7 x8 w H locs ls hp hS hl
  unfold pX10_share_129 at hp
  refine lv_iconst hx hb dX10_share_129 kI_0 ?_
  exact bX10_share_130 hC hR hk64 x1 x2 x3 x4 x5 x6 x7 x8 (0 : Int32) w _ _ _ hp hS (lv_sub hl [0, 1, 2, 3, 4, 5, 6, 7, 8] rfl)
set_option maxHeartbeats 4000000 in
set_option maxRecDepth 100000 in
theorem bX10_share_125 {p : Program} {l : Launch} {e : Env} {s : State} {m : MethodId} {args : Array Value} {below : List Frame} {meth : Method} {c : Code} {Q : State → Prop} {A : Nat → Prop} {g : Gw} {post : Int32 → Wd → Prop}  (hC : Cx p s m args c cX10_share RX10 11 g) (hR : RtI tabX p l e (rk 3) s m args below meth c Q cX10_share A g post)  {k64 : Int32 → Int32 → Int32 → Int32 → Int32 → Int32 → Int32 → Int32 → Wd → Prop} (hk64 : ∀ (x1 : Int32) (x2 : Int32) (x3 : Int32) (x4 : Int32) (x5 : Int32) (x6 : Int32) (x7 : Int32) (x8 : Int32) (w : Wd) (H : Heap) (locs : List Loc) (ls : Array Slot), k64 x1 x2 x3 x4 x5 x6 x7 x8 w → St tabX A s.heap g w H locs → lv_has ls 11 [(0, .ref (g.2.2 0)), (1, .int x1), (2, .int x2), (3, .int x3), (4, .int x4), (5, .int x5), (6, .int x6), (7, .int x7), (8, .int x8)] → W p l e (rk 3) s m args below meth c H locs 0 0 Q (F0 m 64 ls [])) : ∀ (x1 : Int32) (x2 : Int32) (x3 : Int32) (x4 : Int32) (x5 : Int32) (x6 : Int32) (x7 : Int32) (x8 : Int32) (w : Wd) (H : Heap) (locs : List Loc) (ls : Array Slot), pX10_share_125 k64 post x1 x2 x3 x4 x5 x6 x7 x8 w → St tabX A s.heap g w H locs → lv_has ls 11 [(0, .ref (g.2.2 0)), (1, .int x1), (2, .int x2), (3, .int x3), (4, .int x4), (5, .int x5), (6, .int x6), (7, .int x7), (8, .int x8)] → W p l e (rk 3) s m args below meth c H locs 0 0 Q (F0 m 125 ls []) := by
  have hx := hC.1
  have hb := hC.2.1
  intro x1 x2 x3 x4 x5 x6 x7 x8 w H locs ls hp hS hl
  unfold pX10_share_125 at hp
  refine lv_iconst hx hb dX10_share_125 kI_1 ?_
  refine lv_goto (tgt := 130) hx hb dX10_share_126 (by decide) ?_
  exact bX10_share_130 hC hR hk64 x1 x2 x3 x4 x5 x6 x7 x8 (1 : Int32) w _ _ _ hp hS (lv_sub hl [0, 1, 2, 3, 4, 5, 6, 7, 8] rfl)
set_option maxHeartbeats 4000000 in
set_option maxRecDepth 100000 in
theorem bX10_share_64 {p : Program} {l : Launch} {e : Env} {s : State} {m : MethodId} {args : Array Value} {below : List Frame} {meth : Method} {c : Code} {Q : State → Prop} {A : Nat → Prop} {g : Gw} {post : Int32 → Wd → Prop}  (hC : Cx p s m args c cX10_share RX10 11 g) (hR : RtI tabX p l e (rk 3) s m args below meth c Q cX10_share A g post)  : ∀ (n : Nat) (x1 : Int32) (x2 : Int32) (x3 : Int32) (x4 : Int32) (x5 : Int32) (x6 : Int32) (x7 : Int32) (x8 : Int32) (w : Wd) (H : Heap) (locs : List Loc) (ls : Array Slot), pX10_share_64 post n x1 x2 x3 x4 x5 x6 x7 x8 w → St tabX A s.heap g w H locs → lv_has ls 11 [(0, .ref (g.2.2 0)), (1, .int x1), (2, .int x2), (3, .int x3), (4, .int x4), (5, .int x5), (6, .int x6), (7, .int x7), (8, .int x8)] → W p l e (rk 3) s m args below meth c H locs 0 0 Q (F0 m 64 ls []) := by
  have hx := hC.1
  have hb := hC.2.1
  intro n
  induction n with
  | zero =>
    intro x1 x2 x3 x4 x5 x6 x7 x8 w H locs ls hp hS hl
    exact False.elim hp
  | succ n ih =>
    intro x1 x2 x3 x4 x5 x6 x7 x8 w H locs ls hp hS hl
    unfold pX10_share_64 at hp
    refine lv_iload hx hb dX10_share_64 (lv_at hl 8 rfl) ?_
    refine lv_iload_n hx hb dX10_share_66 rfl (lv_at hl 2 rfl) ?_
    refine lv_icmp_ge (tgt := 153) hx hb dX10_share_67 (by decide) (fun c_1 => ?_) (fun c_1 => ?_)
    · have hp := hp.1 c_1
      refine lv_iload hx hb dX10_share_153 (lv_at hl 5 rfl) ?_
      refine lv_iload hx hb dX10_share_155 (lv_at hl 4 rfl) ?_
      refine lv_idiv hx hb dX10_share_157 hp.1 ?_
      have hp := hp.2
      refine lv_iload hx hb dX10_share_158 (lv_at hl 7 rfl) ?_
      refine lv_iload hx hb dX10_share_160 (lv_at hl 6 rfl) ?_
      refine lv_icmp_ge (tgt := 169) hx hb dX10_share_162 (by decide) (fun c_2 => ?_) (fun c_2 => ?_)
      · have hp := hp.1 c_2
        refine lv_iconst hx hb dX10_share_169 kI_0 ?_
        refine lv_iadd hx hb dX10_share_170 ?_
        exact hR _ _ _ _ _ _ dX10_share_171 hp hS
      · have hp := hp.2 c_2
        refine lv_iconst hx hb dX10_share_165 kI_1 ?_
        refine lv_goto (tgt := 170) hx hb dX10_share_166 (by decide) ?_
        refine lv_iadd hx hb dX10_share_170 ?_
        exact hR _ _ _ _ _ _ dX10_share_171 hp hS
    · have hp := hp.2 c_1
      refine lv_bipush hx hb dX10_share_70 kB_100 ?_
      refine lv_aload_n hx hb dX10_share_72 rfl (lv_at hl 0 rfl) ?_
      refine lv_iload_n hx hb dX10_share_73 rfl (lv_at hl 1 rfl) ?_
      refine lv_iload_n hx hb dX10_share_74 rfl (lv_at hl 2 rfl) ?_
      refine lv_iload hx hb dX10_share_75 (lv_at hl 8 rfl) ?_
      refine q_cvI (As := [.int x1, .int x2, .int x8]) (rest := [.int (100 : Int32)]) hC hS hl.1 (rX10_marksIn hp) cwX10_248 yvX10_marksIn (rcv_0 hC hS) rfl rfl (Nat.le_of_ble_eq_true rfl) (rmk (by decide) (by decide)) dX10_share_77 (fun r_3 w_4 H locs hp hS => ?_)
      refine lv_imul hx hb dX10_share_80 ?_
      refine lv_topi (fun x9_5 ex9_5 => ?_)
      have hp := hp x9_5 ex9_5
      refine lv_istore (lv' := [(9, .int x9_5), (0, .ref (g.2.2 0)), (1, .int x1), (2, .int x2), (3, .int x3), (4, .int x4), (5, .int x5), (6, .int x6), (7, .int x7), (8, .int x8)]) hx hb dX10_share_81 hl (by decide) rfl (fun ls hl => ?_)
      refine lv_iload hx hb dX10_share_83 (lv_at hl 7 rfl) ?_
      refine lv_iload hx hb dX10_share_85 (lv_at hl 0 rfl) ?_
      refine lv_iload hx hb dX10_share_87 (lv_at hl 5 rfl) ?_
      refine lv_idiv hx hb dX10_share_89 hp.1 ?_
      have hp := hp.2
      refine lv_isub hx hb dX10_share_90 ?_
      refine lv_topi (fun x6_6 ex6_6 => ?_)
      have hp := hp x6_6 ex6_6
      refine lv_istore (lv' := [(6, .int x6_6), (9, .int x9_5), (0, .ref (g.2.2 0)), (1, .int x1), (2, .int x2), (3, .int x3), (4, .int x4), (5, .int x5), (7, .int x7), (8, .int x8)]) hx hb dX10_share_91 hl (by decide) rfl (fun ls hl => ?_)
      refine lv_iload hx hb dX10_share_93 (lv_at hl 1 rfl) ?_
      refine lv_iload hx hb dX10_share_95 (lv_at hl 6 rfl) ?_
      refine lv_irem hx hb dX10_share_97 hp.1 ?_
      have hp := hp.2
      refine lv_iload hx hb dX10_share_98 (lv_at hl 7 rfl) ?_
      refine lv_iload hx hb dX10_share_100 (lv_at hl 6 rfl) ?_
      refine lv_irem hx hb dX10_share_102 hp.1 ?_
      have hp := hp.2
      refine lv_icmp_gt (tgt := 125) hx hb dX10_share_103 (by decide) (fun c_7 => ?_) (fun c_7 => ?_)
      · have hp := hp.1 c_7
        exact bX10_share_125 hC hR ih x1 x2 x3 x4 x5 x6_6 x7 x8 w_4 _ _ _ hp hS (lv_sub hl [2, 3, 4, 5, 6, 7, 0, 8, 9] rfl)
      · have hp := hp.2 c_7
        refine lv_iload hx hb dX10_share_106 (lv_at hl 1 rfl) ?_
        refine lv_iload hx hb dX10_share_108 (lv_at hl 6 rfl) ?_
        refine lv_irem hx hb dX10_share_110 hp.1 ?_
        have hp := hp.2
        refine lv_iload hx hb dX10_share_111 (lv_at hl 7 rfl) ?_
        refine lv_iload hx hb dX10_share_113 (lv_at hl 6 rfl) ?_
        refine lv_irem hx hb dX10_share_115 hp.1 ?_
        have hp := hp.2
        refine lv_icmp_ne (tgt := 129) hx hb dX10_share_116 (by decide) (fun c_8 => ?_) (fun c_8 => ?_)
        · have hp := hp.1 c_8
          exact bX10_share_129 hC hR ih x1 x2 x3 x4 x5 x6_6 x7 x8 w_4 _ _ _ hp hS (lv_sub hl [2, 3, 4, 5, 6, 7, 0, 8, 9] rfl)
        · have hp := hp.2 c_8
          refine lv_iload hx hb dX10_share_119 (lv_at hl 9 rfl) ?_
          refine lv_iload_n hx hb dX10_share_121 rfl (lv_at hl 5 rfl) ?_
          refine lv_icmp_ge (tgt := 129) hx hb dX10_share_122 (by decide) (fun c_9 => ?_) (fun c_9 => ?_)
          · have hp := hp.1 c_9
            exact bX10_share_129 hC hR ih x1 x2 x3 x4 x5 x6_6 x7 x8 w_4 _ _ _ hp hS (lv_sub hl [2, 3, 4, 5, 6, 7, 0, 8, 9] rfl)
          · have hp := hp.2 c_9
            exact bX10_share_125 hC hR ih x1 x2 x3 x4 x5 x6_6 x7 x8 w_4 _ _ _ hp hS (lv_sub hl [2, 3, 4, 5, 6, 7, 0, 8, 9] rfl)
set_option maxHeartbeats 4000000 in
set_option maxRecDepth 100000 in
theorem rX10_share {l : Launch} {g : Gw} {w : Wd} {post : Int32 → Wd → Prop}   {x1 : Int32} {x2 : Int32} {x3 : Int32} (hp : pX10_share post x1 x2 x3 w) : MtI tabX l yX10_share cX10_share 11 (some .int) 3 g w [.ref (g.2.2 0), .int x1, .int x2, .int x3] post := by
  refine q_entI tabX_nd (by decide) rfl (Nat.le_of_ble_eq_true rfl) ?_
  intro p e s m args below meth c A Q ls hC hR hS hl
  have hx := hC.1
  have hb := hC.2.1
  have hl : lv_has ls 11 [(0, .ref (g.2.2 0)), (1, .int x1), (2, .int x2), (3, .int x3)] := hl
  unfold pX10_share at hp
  refine lv_aload_n hx hb dX10_share_0 rfl (lv_at hl 0 rfl) ?_
  refine lv_iload_n hx hb dX10_share_1 rfl (lv_at hl 1 rfl) ?_
  refine q_cvI (As := [.int x1]) (rest := []) hC hS hl.1 (rX10_isRow hp) cwX10_180 yvX10_isRow (rcv_0 hC hS) rfl rfl (Nat.le_of_ble_eq_true rfl) (rmk (by decide) (by decide)) dX10_share_2 (fun r_1 w_2 H locs hp hS => ?_)
  refine lv_if_eq (tgt := 27) hx hb dX10_share_5 (by decide) (fun c_3 => ?_) (fun c_3 => ?_)
  · have hp := hp.1 c_3
    refine lv_iconst hx hb dX10_share_27 kI_m1 ?_
    exact hR _ _ _ _ _ _ dX10_share_28 hp hS
  · have hp := hp.2 c_3
    refine lv_iload_n hx hb dX10_share_8 rfl (lv_at hl 2 rfl) ?_
    refine lv_iconst hx hb dX10_share_9 kI_1 ?_
    refine lv_icmp_lt (tgt := 27) hx hb dX10_share_10 (by decide) (fun c_4 => ?_) (fun c_4 => ?_)
    · have hp := hp.1 c_4
      refine lv_iconst hx hb dX10_share_27 kI_m1 ?_
      exact hR _ _ _ _ _ _ dX10_share_28 hp hS
    · have hp := hp.2 c_4
      refine lv_iload_n hx hb dX10_share_13 rfl (lv_at hl 2 rfl) ?_
      refine lv_iconst hx hb dX10_share_14 kI_4 ?_
      refine lv_icmp_gt (tgt := 27) hx hb dX10_share_15 (by decide) (fun c_5 => ?_) (fun c_5 => ?_)
      · have hp := hp.1 c_5
        refine lv_iconst hx hb dX10_share_27 kI_m1 ?_
        exact hR _ _ _ _ _ _ dX10_share_28 hp hS
      · have hp := hp.2 c_5
        refine lv_iload_n hx hb dX10_share_18 rfl (lv_at hl 3 rfl) ?_
        refine lv_if_lt (tgt := 27) hx hb dX10_share_19 (by decide) (fun c_6 => ?_) (fun c_6 => ?_)
        · have hp := hp.1 c_6
          refine lv_iconst hx hb dX10_share_27 kI_m1 ?_
          exact hR _ _ _ _ _ _ dX10_share_28 hp hS
        · have hp := hp.2 c_6
          refine lv_iload_n hx hb dX10_share_22 rfl (lv_at hl 3 rfl) ?_
          refine lv_iload_n hx hb dX10_share_23 rfl (lv_at hl 2 rfl) ?_
          refine lv_icmp_lt (tgt := 29) hx hb dX10_share_24 (by decide) (fun c_7 => ?_) (fun c_7 => ?_)
          · have hp := hp.1 c_7
            refine lv_iload_n hx hb dX10_share_29 rfl (lv_at hl 1 rfl) ?_
            refine q_csI (As := [.int x1]) (rest := []) hC hS hl.1 (rJ6_bitCount_0f7a4 hp) cwX10_232 ysJ6_bitCount_0f7a4 rfl rfl (Nat.le_of_ble_eq_true rfl) (rmk (by decide) (by decide)) dX10_share_30 (fun r_8 w_9 H locs hp hS => ?_)
            refine lv_istore (lv' := [(4, .int r_8), (0, .ref (g.2.2 0)), (1, .int x1), (2, .int x2), (3, .int x3)]) hx hb dX10_share_33 hl (by decide) rfl (fun ls hl => ?_)
            refine lv_iload hx hb dX10_share_35 (lv_at hl 0 rfl) ?_
            refine lv_if_ne (tgt := 42) hx hb dX10_share_37 (by decide) (fun c_10 => ?_) (fun c_10 => ?_)
            · have hp := hp.1 c_10
              refine lv_bipush hx hb dX10_share_42 kB_100 ?_
              refine lv_aload_n hx hb dX10_share_44 rfl (lv_at hl 1 rfl) ?_
              refine lv_iload_n hx hb dX10_share_45 rfl (lv_at hl 2 rfl) ?_
              refine lv_iload_n hx hb dX10_share_46 rfl (lv_at hl 3 rfl) ?_
              refine lv_iload_n hx hb dX10_share_47 rfl (lv_at hl 4 rfl) ?_
              refine q_cvI (As := [.int x1, .int x2, .int x3]) (rest := [.int (100 : Int32)]) hC hS hl.1 (rX10_marksIn hp) cwX10_248 yvX10_marksIn (rcv_0 hC hS) rfl rfl (Nat.le_of_ble_eq_true rfl) (rmk (by decide) (by decide)) dX10_share_48 (fun r_11 w_12 H locs hp hS => ?_)
              refine lv_imul hx hb dX10_share_51 ?_
              refine lv_topi (fun x5_13 ex5_13 => ?_)
              have hp := hp x5_13 ex5_13
              refine lv_istore (lv' := [(5, .int x5_13), (4, .int r_8), (0, .ref (g.2.2 0)), (1, .int x1), (2, .int x2), (3, .int x3)]) hx hb dX10_share_52 hl (by decide) rfl (fun ls hl => ?_)
              refine lv_bipush hx hb dX10_share_54 kB_100 ?_
              refine lv_istore (lv' := [(6, .int (100 : Int32)), (5, .int x5_13), (4, .int r_8), (0, .ref (g.2.2 0)), (1, .int x1), (2, .int x2), (3, .int x3)]) hx hb dX10_share_56 hl (by decide) rfl (fun ls hl => ?_)
              refine lv_iconst hx hb dX10_share_58 kI_0 ?_
              refine lv_istore (lv' := [(7, .int (0 : Int32)), (6, .int (100 : Int32)), (5, .int x5_13), (4, .int r_8), (0, .ref (g.2.2 0)), (1, .int x1), (2, .int x2), (3, .int x3)]) hx hb dX10_share_59 hl (by decide) rfl (fun ls hl => ?_)
              refine lv_iconst hx hb dX10_share_61 kI_0 ?_
              refine lv_istore (lv' := [(8, .int (0 : Int32)), (7, .int (0 : Int32)), (6, .int (100 : Int32)), (5, .int x5_13), (4, .int r_8), (0, .ref (g.2.2 0)), (1, .int x1), (2, .int x2), (3, .int x3)]) hx hb dX10_share_62 hl (by decide) rfl (fun ls hl => ?_)
              obtain ⟨n9, hp⟩ := hp
              exact bX10_share_64 hC hR n9 x1 x2 x3 r_8 x5_13 (100 : Int32) (0 : Int32) (0 : Int32) w_12 _ _ _ hp hS (lv_sub hl [5, 6, 7, 8, 4, 3, 2, 1, 0] rfl)
            · have hp := hp.2 c_10
              refine lv_iconst hx hb dX10_share_40 kI_0 ?_
              exact hR _ _ _ _ _ _ dX10_share_41 hp hS
          · have hp := hp.2 c_7
            refine lv_iconst hx hb dX10_share_27 kI_m1 ?_
            exact hR _ _ _ _ _ _ dX10_share_28 hp hS
def pX10_forge_104 (k43 : Int32 → Int32 → Int32 → Int32 → Int32 → Int32 → Int32 → Int32 → Wd → Prop) (post : Int32 → Wd → Prop) (x1 : Int32) (x2 : Int32) (x3 : Int32) (x4 : Int32) (x5 : Int32) (x6 : Int32) (x7 : Int32) (x8 : Int32) (w : Wd) : Prop := ∀ x8_1, x8_1 = x8 + (1 : Int32) → k43 x1 x2 x3 x4 x5 x6 x7 x8_1 w
def pX10_forge_43 (post : Int32 → Wd → Prop) : Nat → Int32 → Int32 → Int32 → Int32 → Int32 → Int32 → Int32 → Int32 → Wd → Prop
  | 0, _, _, _, _, _, _, _, _, _ => False
  | n + 1, x1, x2, x3, x4, x5, x6, x7, x8, w => pX7_rows (fun r_1 w_2 => (r_1 ≤ x8 → ((¬ x5 = 0 → (post x7 w_2)) ∧ (x5 = 0 → ((x7 = (-1 : Int32) → (post x7 w_2)) ∧ (¬ x7 = (-1 : Int32) → (post x6 w_2)))))) ∧ (¬ r_1 ≤ x8 → (vp_in x1 24 ∧ pJ6_bitCount_0f7a4 (fun r_6 w_7 => (x6 ≤ r_6 → (pX10_forge_104 (pX10_forge_43 post n) post x1 x2 x3 x4 x5 x6 x7 x8 w_7)) ∧ (¬ x6 ≤ r_6 → (pX1_rowAfter (fun r_9 w_10 => (¬ r_9 = x4 → (pX10_forge_104 (pX10_forge_43 post n) post x1 x2 x3 x4 x5 x6 x7 x8 w_10)) ∧ (r_9 = x4 → (pX10_forge_104 (pX10_forge_43 post n) post x1 x2 x3 x4 x5 r_6 x8 x8 w_10))) x8 x2 x3 (0 : Int32) w_7))) (x8 ^^^ (w_2.2.1 162 x1.toNatClampNeg)) w_2))) (w.2.2.2.2 0) w
def pX10_forge (post : Int32 → Wd → Prop) (x1 : Int32) (x2 : Int32) (x3 : Int32) (x4 : Int32) (x5 : Int32) (w : Wd) : Prop := pX10_canCast (fun r_1 w_2 => (r_1 = 0 → (post (-1 : Int32) w_2)) ∧ (¬ r_1 = 0 → (pX10_isRow (fun r_4 w_5 => (r_4 = 0 → (post (-1 : Int32) w_5)) ∧ (¬ r_4 = 0 → ((x5 < 0 → (post (-1 : Int32) w_5)) ∧ (¬ x5 < 0 → ((x5 ≤ (1 : Int32) → (∃ n9, pX10_forge_43 post n9 x1 x2 x3 x4 x5 (1000 : Int32) (-1 : Int32) (0 : Int32) w_5)) ∧ (¬ x5 ≤ (1 : Int32) → (post (-1 : Int32) w_5))))))) x4 w_2))) x1 x2 x3 w
set_option maxHeartbeats 4000000 in
set_option maxRecDepth 100000 in
theorem bX10_forge_104 {p : Program} {l : Launch} {e : Env} {s : State} {m : MethodId} {args : Array Value} {below : List Frame} {meth : Method} {c : Code} {Q : State → Prop} {A : Nat → Prop} {g : Gw} {post : Int32 → Wd → Prop}  (hC : Cx p s m args c cX10_forge RX10 10 g) (hR : RtI tabX p l e (rk 5) s m args below meth c Q cX10_forge A g post)  {k43 : Int32 → Int32 → Int32 → Int32 → Int32 → Int32 → Int32 → Int32 → Wd → Prop} (hk43 : ∀ (x1 : Int32) (x2 : Int32) (x3 : Int32) (x4 : Int32) (x5 : Int32) (x6 : Int32) (x7 : Int32) (x8 : Int32) (w : Wd) (H : Heap) (locs : List Loc) (ls : Array Slot), k43 x1 x2 x3 x4 x5 x6 x7 x8 w → St tabX A s.heap g w H locs → lv_has ls 10 [(0, .ref (g.2.2 0)), (1, .int x1), (2, .int x2), (3, .int x3), (4, .int x4), (5, .int x5), (6, .int x6), (7, .int x7), (8, .int x8)] → W p l e (rk 5) s m args below meth c H locs 0 0 Q (F0 m 43 ls [])) : ∀ (x1 : Int32) (x2 : Int32) (x3 : Int32) (x4 : Int32) (x5 : Int32) (x6 : Int32) (x7 : Int32) (x8 : Int32) (w : Wd) (H : Heap) (locs : List Loc) (ls : Array Slot), pX10_forge_104 k43 post x1 x2 x3 x4 x5 x6 x7 x8 w → St tabX A s.heap g w H locs → lv_has ls 10 [(0, .ref (g.2.2 0)), (1, .int x1), (2, .int x2), (3, .int x3), (4, .int x4), (5, .int x5), (6, .int x6), (7, .int x7), (8, .int x8)] → W p l e (rk 5) s m args below meth c H locs 0 0 Q (F0 m 104 ls []) := by
  have hx := hC.1
  have hb := hC.2.1
  intro x1 x2 x3 x4 x5 x6 x7 x8 w H locs ls hp hS hl
  unfold pX10_forge_104 at hp
  obtain ⟨x8_1, ex8_1⟩ : ∃ y : Int32, y = x8 + (1 : Int32) := ⟨_, rfl⟩
  have hp := hp x8_1 ex8_1
  refine lv_iinc (v := x8_1) (lv' := [(8, .int x8_1), (0, .ref (g.2.2 0)), (1, .int x1), (2, .int x2), (3, .int x3), (4, .int x4), (5, .int x5), (6, .int x6), (7, .int x7)]) hx hb dX10_forge_104 hl (k := 8) rfl (by rw [ex8_1]; rfl) (by decide) rfl (fun ls hl => ?_)
  refine lv_goto (tgt := 43) hx hb dX10_forge_107 (by decide) ?_
  exact hk43 x1 x2 x3 x4 x5 x6 x7 x8_1 w _ _ _ hp hS (lv_sub hl [1, 2, 3, 4, 5, 6, 7, 8, 0] rfl)
set_option maxHeartbeats 4000000 in
set_option maxRecDepth 100000 in
theorem bX10_forge_43 {p : Program} {l : Launch} {e : Env} {s : State} {m : MethodId} {args : Array Value} {below : List Frame} {meth : Method} {c : Code} {Q : State → Prop} {A : Nat → Prop} {g : Gw} {post : Int32 → Wd → Prop}  (hC : Cx p s m args c cX10_forge RX10 10 g) (hR : RtI tabX p l e (rk 5) s m args below meth c Q cX10_forge A g post)  : ∀ (n : Nat) (x1 : Int32) (x2 : Int32) (x3 : Int32) (x4 : Int32) (x5 : Int32) (x6 : Int32) (x7 : Int32) (x8 : Int32) (w : Wd) (H : Heap) (locs : List Loc) (ls : Array Slot), pX10_forge_43 post n x1 x2 x3 x4 x5 x6 x7 x8 w → St tabX A s.heap g w H locs → lv_has ls 10 [(0, .ref (g.2.2 0)), (1, .int x1), (2, .int x2), (3, .int x3), (4, .int x4), (5, .int x5), (6, .int x6), (7, .int x7), (8, .int x8)] → W p l e (rk 5) s m args below meth c H locs 0 0 Q (F0 m 43 ls []) := by
  have hx := hC.1
  have hb := hC.2.1
  intro n
  induction n with
  | zero =>
    intro x1 x2 x3 x4 x5 x6 x7 x8 w H locs ls hp hS hl
    exact False.elim hp
  | succ n ih =>
    intro x1 x2 x3 x4 x5 x6 x7 x8 w H locs ls hp hS hl
    unfold pX10_forge_43 at hp
    refine lv_iload hx hb dX10_forge_43 (lv_at hl 8 rfl) ?_
    refine lv_aload_n hx hb dX10_forge_45 rfl (lv_at hl 0 rfl) ?_
    refine G_0_16 hC hS m21 dX10_forge_46 ?_
    refine q_cvI (As := []) (rest := [.int x8]) hC hS hl.1 (rX7_rows hp) cwX10_240 yvX7_rows (rcvR hC hS) rfl rfl (Nat.le_of_ble_eq_true rfl) (rmk (by decide) (by decide)) dX10_forge_49 (fun r_1 w_2 H locs hp hS => ?_)
    refine lv_icmp_ge (tgt := 110) hx hb dX10_forge_52 (by decide) (fun c_3 => ?_) (fun c_3 => ?_)
    · have hp := hp.1 c_3
      refine lv_iload hx hb dX10_forge_110 (lv_at hl 5 rfl) ?_
      refine lv_if_ne (tgt := 126) hx hb dX10_forge_112 (by decide) (fun c_4 => ?_) (fun c_4 => ?_)
      · have hp := hp.1 c_4
        refine lv_iload hx hb dX10_forge_126 (lv_at hl 7 rfl) ?_
        exact hR _ _ _ _ _ _ dX10_forge_128 hp hS
      · have hp := hp.2 c_4
        refine lv_iload hx hb dX10_forge_115 (lv_at hl 7 rfl) ?_
        refine lv_iconst hx hb dX10_forge_117 kI_m1 ?_
        refine lv_icmp_eq (tgt := 126) hx hb dX10_forge_118 (by decide) (fun c_5 => ?_) (fun c_5 => ?_)
        · have hp := hp.1 c_5
          refine lv_iload hx hb dX10_forge_126 (lv_at hl 7 rfl) ?_
          exact hR _ _ _ _ _ _ dX10_forge_128 hp hS
        · have hp := hp.2 c_5
          refine lv_iload hx hb dX10_forge_121 (lv_at hl 6 rfl) ?_
          refine lv_goto (tgt := 128) hx hb dX10_forge_123 (by decide) ?_
          exact hR _ _ _ _ _ _ dX10_forge_128 hp hS
    · have hp := hp.2 c_3
      refine lv_iload hx hb dX10_forge_55 (lv_at hl 8 rfl) ?_
      refine lv_aload_n hx hb dX10_forge_57 rfl (lv_at hl 0 rfl) ?_
      refine G_0_3 hC hS m30 dX10_forge_58 ?_
      refine G_160_1 hC hS m613 dX10_forge_61 ?_
      refine lv_iload_n hx hb dX10_forge_64 rfl (lv_at hl 1 rfl) ?_
      refine La_162 hC hS hp.1 dX10_forge_65 ?_
      have hp := hp.2
      refine lv_ixor hx hb dX10_forge_66 ?_
      refine q_csI (As := [.int (x8 ^^^ (w_2.2.1 162 x1.toNatClampNeg))]) (rest := []) hC hS hl.1 (rJ6_bitCount_0f7a4 hp) cwX10_232 ysJ6_bitCount_0f7a4 rfl rfl (Nat.le_of_ble_eq_true rfl) (rmk (by decide) (by decide)) dX10_forge_67 (fun r_6 w_7 H locs hp hS => ?_)
      refine lv_istore (lv' := [(9, .int r_6), (0, .ref (g.2.2 0)), (1, .int x1), (2, .int x2), (3, .int x3), (4, .int x4), (5, .int x5), (6, .int x6), (7, .int x7), (8, .int x8)]) hx hb dX10_forge_70 hl (by decide) rfl (fun ls hl => ?_)
      refine lv_iload hx hb dX10_forge_72 (lv_at hl 0 rfl) ?_
      refine lv_iload hx hb dX10_forge_74 (lv_at hl 7 rfl) ?_
      refine lv_icmp_ge (tgt := 104) hx hb dX10_forge_76 (by decide) (fun c_8 => ?_) (fun c_8 => ?_)
      · have hp := hp.1 c_8
        exact bX10_forge_104 hC hR ih x1 x2 x3 x4 x5 x6 x7 x8 w_7 _ _ _ hp hS (lv_sub hl [1, 2, 3, 4, 5, 6, 7, 8, 9] rfl)
      · have hp := hp.2 c_8
        refine lv_aload_n hx hb dX10_forge_79 rfl (lv_at hl 1 rfl) ?_
        refine G_0_4 hC hS m34 dX10_forge_80 ?_
        refine lv_iload hx hb dX10_forge_83 (lv_at hl 9 rfl) ?_
        refine lv_iload_n hx hb dX10_forge_85 rfl (lv_at hl 3 rfl) ?_
        refine lv_iload_n hx hb dX10_forge_86 rfl (lv_at hl 4 rfl) ?_
        refine lv_iconst hx hb dX10_forge_87 kI_0 ?_
        refine q_cvI (As := [.int x8, .int x2, .int x3, .int (0 : Int32)]) (rest := []) hC hS hl.1 (rX1_rowAfter hp) cwX10_196 yvX1_rowAfter (rcv_40 hC hS) rfl rfl (Nat.le_of_ble_eq_true rfl) (rmk (by decide) (by decide)) dX10_forge_88 (fun r_9 w_10 H locs hp hS => ?_)
        refine lv_iload hx hb dX10_forge_91 (lv_at hl 5 rfl) ?_
        refine lv_icmp_ne (tgt := 104) hx hb dX10_forge_93 (by decide) (fun c_11 => ?_) (fun c_11 => ?_)
        · have hp := hp.1 c_11
          exact bX10_forge_104 hC hR ih x1 x2 x3 x4 x5 x6 x7 x8 w_10 _ _ _ hp hS (lv_sub hl [1, 2, 3, 4, 5, 6, 7, 8, 9] rfl)
        · have hp := hp.2 c_11
          refine lv_iload hx hb dX10_forge_96 (lv_at hl 0 rfl) ?_
          refine lv_istore (lv' := [(6, .int r_6), (9, .int r_6), (0, .ref (g.2.2 0)), (1, .int x1), (2, .int x2), (3, .int x3), (4, .int x4), (5, .int x5), (7, .int x7), (8, .int x8)]) hx hb dX10_forge_98 hl (by decide) rfl (fun ls hl => ?_)
          refine lv_iload hx hb dX10_forge_100 (lv_at hl 9 rfl) ?_
          refine lv_istore (lv' := [(7, .int x8), (6, .int r_6), (9, .int r_6), (0, .ref (g.2.2 0)), (1, .int x1), (2, .int x2), (3, .int x3), (4, .int x4), (5, .int x5), (8, .int x8)]) hx hb dX10_forge_102 hl (by decide) rfl (fun ls hl => ?_)
          exact bX10_forge_104 hC hR ih x1 x2 x3 x4 x5 r_6 x8 x8 w_10 _ _ _ hp hS (lv_sub hl [3, 4, 5, 6, 7, 8, 1, 0, 9] rfl)
set_option maxHeartbeats 4000000 in
set_option maxRecDepth 100000 in
theorem rX10_forge {l : Launch} {g : Gw} {w : Wd} {post : Int32 → Wd → Prop}   {x1 : Int32} {x2 : Int32} {x3 : Int32} {x4 : Int32} {x5 : Int32} (hp : pX10_forge post x1 x2 x3 x4 x5 w) : MtI tabX l yX10_forge cX10_forge 10 (some .int) 5 g w [.ref (g.2.2 0), .int x1, .int x2, .int x3, .int x4, .int x5] post := by
  refine q_entI tabX_nd (by decide) rfl (Nat.le_of_ble_eq_true rfl) ?_
  intro p e s m args below meth c A Q ls hC hR hS hl
  have hx := hC.1
  have hb := hC.2.1
  have hl : lv_has ls 10 [(0, .ref (g.2.2 0)), (1, .int x1), (2, .int x2), (3, .int x3), (4, .int x4), (5, .int x5)] := hl
  unfold pX10_forge at hp
  refine lv_aload_n hx hb dX10_forge_0 rfl (lv_at hl 0 rfl) ?_
  refine lv_iload_n hx hb dX10_forge_1 rfl (lv_at hl 1 rfl) ?_
  refine lv_iload_n hx hb dX10_forge_2 rfl (lv_at hl 2 rfl) ?_
  refine lv_iload_n hx hb dX10_forge_3 rfl (lv_at hl 3 rfl) ?_
  refine q_cvI (As := [.int x1, .int x2, .int x3]) (rest := []) hC hS hl.1 (rX10_canCast hp) cwX10_200 yvX10_canCast (rcv_0 hC hS) rfl rfl (Nat.le_of_ble_eq_true rfl) (rmk (by decide) (by decide)) dX10_forge_4 (fun r_1 w_2 H locs hp hS => ?_)
  refine lv_if_eq (tgt := 30) hx hb dX10_forge_7 (by decide) (fun c_3 => ?_) (fun c_3 => ?_)
  · have hp := hp.1 c_3
    refine lv_iconst hx hb dX10_forge_30 kI_m1 ?_
    exact hR _ _ _ _ _ _ dX10_forge_31 hp hS
  · have hp := hp.2 c_3
    refine lv_aload_n hx hb dX10_forge_10 rfl (lv_at hl 0 rfl) ?_
    refine lv_iload hx hb dX10_forge_11 (lv_at hl 4 rfl) ?_
    refine q_cvI (As := [.int x4]) (rest := []) hC hS hl.1 (rX10_isRow hp) cwX10_180 yvX10_isRow (rcv_0 hC hS) rfl rfl (Nat.le_of_ble_eq_true rfl) (rmk (by decide) (by decide)) dX10_forge_13 (fun r_4 w_5 H locs hp hS => ?_)
    refine lv_if_eq (tgt := 30) hx hb dX10_forge_16 (by decide) (fun c_6 => ?_) (fun c_6 => ?_)
    · have hp := hp.1 c_6
      refine lv_iconst hx hb dX10_forge_30 kI_m1 ?_
      exact hR _ _ _ _ _ _ dX10_forge_31 hp hS
    · have hp := hp.2 c_6
      refine lv_iload hx hb dX10_forge_19 (lv_at hl 5 rfl) ?_
      refine lv_if_lt (tgt := 30) hx hb dX10_forge_21 (by decide) (fun c_7 => ?_) (fun c_7 => ?_)
      · have hp := hp.1 c_7
        refine lv_iconst hx hb dX10_forge_30 kI_m1 ?_
        exact hR _ _ _ _ _ _ dX10_forge_31 hp hS
      · have hp := hp.2 c_7
        refine lv_iload hx hb dX10_forge_24 (lv_at hl 5 rfl) ?_
        refine lv_iconst hx hb dX10_forge_26 kI_1 ?_
        refine lv_icmp_le (tgt := 32) hx hb dX10_forge_27 (by decide) (fun c_8 => ?_) (fun c_8 => ?_)
        · have hp := hp.1 c_8
          refine lv_sipush hx hb dX10_forge_32 kS_1000 ?_
          refine lv_istore (lv' := [(6, .int (1000 : Int32)), (0, .ref (g.2.2 0)), (1, .int x1), (2, .int x2), (3, .int x3), (4, .int x4), (5, .int x5)]) hx hb dX10_forge_35 hl (by decide) rfl (fun ls hl => ?_)
          refine lv_iconst hx hb dX10_forge_37 kI_m1 ?_
          refine lv_istore (lv' := [(7, .int (-1 : Int32)), (6, .int (1000 : Int32)), (0, .ref (g.2.2 0)), (1, .int x1), (2, .int x2), (3, .int x3), (4, .int x4), (5, .int x5)]) hx hb dX10_forge_38 hl (by decide) rfl (fun ls hl => ?_)
          refine lv_iconst hx hb dX10_forge_40 kI_0 ?_
          refine lv_istore (lv' := [(8, .int (0 : Int32)), (7, .int (-1 : Int32)), (6, .int (1000 : Int32)), (0, .ref (g.2.2 0)), (1, .int x1), (2, .int x2), (3, .int x3), (4, .int x4), (5, .int x5)]) hx hb dX10_forge_41 hl (by decide) rfl (fun ls hl => ?_)
          obtain ⟨n9, hp⟩ := hp
          exact bX10_forge_43 hC hR n9 x1 x2 x3 x4 x5 (1000 : Int32) (-1 : Int32) (0 : Int32) w_5 _ _ _ hp hS (lv_sub hl [3, 4, 5, 6, 7, 8, 2, 1, 0] rfl)
        · have hp := hp.2 c_8
          refine lv_iconst hx hb dX10_forge_30 kI_m1 ?_
          exact hR _ _ _ _ _ _ dX10_forge_31 hp hS
def pX10_nearest_101 (k41 : Int32 → Int32 → Int32 → Int32 → Int32 → Int32 → Int32 → Wd → Prop) (post : Int32 → Wd → Prop) (x1 : Int32) (x2 : Int32) (x3 : Int32) (x4 : Int32) (x5 : Int32) (x6 : Int32) (x7 : Int32) (w : Wd) : Prop := ∀ x7_1, x7_1 = x7 + (1 : Int32) → k41 x1 x2 x3 x4 x5 x6 x7_1 w
def pX10_nearest_78 (k41 : Int32 → Int32 → Int32 → Int32 → Int32 → Int32 → Int32 → Wd → Prop) (post : Int32 → Wd → Prop) (x1 : Int32) (x2 : Int32) (x3 : Int32) (x4 : Int32) (x5 : Int32) (x6 : Int32) (x7 : Int32) (t0 : Int32) (t1 : Int32) (w : Wd) : Prop := pJ6_bitCount_0f7a4 (fun r_1 w_2 => (x3 ≤ r_1 → (pX10_nearest_101 k41 post x1 x2 x3 x4 x5 x6 x7 w_2)) ∧ (¬ x3 ≤ r_1 → (pX10_nearest_101 k41 post x1 x2 r_1 x7 x6 x6 x7 w_2))) (t0 ^^^ t1) w
def pX10_nearest_41 (k32 : Int32 → Int32 → Int32 → Int32 → Int32 → Int32 → Wd → Prop) (post : Int32 → Wd → Prop) : Nat → Int32 → Int32 → Int32 → Int32 → Int32 → Int32 → Int32 → Wd → Prop
  | 0, _, _, _, _, _, _, _, _ => False
  | n + 1, x1, x2, x3, x4, x5, x6, x7, w => ((w.1 160 0) ≤ x7 → (∀ x6_2, x6_2 = x6 + (1 : Int32) → k32 x1 x2 x3 x4 x5 x6_2 w)) ∧ (¬ (w.1 160 0) ≤ x7 → ((¬ x6 = 0 → (vp_in x7 24 ∧ pX10_nearest_78 (pX10_nearest_41 k32 post n) post x1 x2 x3 x4 x5 x6 x7 x1 (w.2.1 162 x7.toNatClampNeg) w)) ∧ (x6 = 0 → (pX10_printOf (fun r_4 w_5 => pX10_nearest_78 (pX10_nearest_41 k32 post n) post x1 x2 x3 x4 x5 x6 x7 x1 r_4 w_5) x7 w))))
def pX10_nearest_32 (post : Int32 → Wd → Prop) : Nat → Int32 → Int32 → Int32 → Int32 → Int32 → Int32 → Wd → Prop
  | 0, _, _, _, _, _, _, _ => False
  | n + 1, x1, x2, x3, x4, x5, x6, w => ((2 : Int32) ≤ x6 → ((¬ x2 = 0 → ((¬ x2 = (1 : Int32) → (post x5 w)) ∧ (x2 = (1 : Int32) → (post x4 w)))) ∧ (x2 = 0 → (post x3 w)))) ∧ (¬ (2 : Int32) ≤ x6 → (∃ n9, pX10_nearest_41 (pX10_nearest_32 post n) post n9 x1 x2 x3 x4 x5 x6 (0 : Int32) w))
def pX10_nearest (post : Int32 → Wd → Prop) (x1 : Int32) (x2 : Int32) (w : Wd) : Prop := pX10_isRow (fun r_1 w_2 => (r_1 = 0 → (post (-1 : Int32) w_2)) ∧ (¬ r_1 = 0 → ((x2 < 0 → (post (-1 : Int32) w_2)) ∧ (¬ x2 < 0 → ((x2 ≤ (2 : Int32) → (∃ n9, pX10_nearest_32 post n9 x1 x2 (1000 : Int32) (-1 : Int32) (0 : Int32) (0 : Int32) w_2)) ∧ (¬ x2 ≤ (2 : Int32) → (post (-1 : Int32) w_2))))))) x1 w
set_option maxHeartbeats 4000000 in
set_option maxRecDepth 100000 in
theorem bX10_nearest_101 {p : Program} {l : Launch} {e : Env} {s : State} {m : MethodId} {args : Array Value} {below : List Frame} {meth : Method} {c : Code} {Q : State → Prop} {A : Nat → Prop} {g : Gw} {post : Int32 → Wd → Prop}  (hC : Cx p s m args c cX10_nearest RX10 9 g) (hR : RtI tabX p l e (rk 3) s m args below meth c Q cX10_nearest A g post)  {k41 : Int32 → Int32 → Int32 → Int32 → Int32 → Int32 → Int32 → Wd → Prop} (hk41 : ∀ (x1 : Int32) (x2 : Int32) (x3 : Int32) (x4 : Int32) (x5 : Int32) (x6 : Int32) (x7 : Int32) (w : Wd) (H : Heap) (locs : List Loc) (ls : Array Slot), k41 x1 x2 x3 x4 x5 x6 x7 w → St tabX A s.heap g w H locs → lv_has ls 9 [(0, .ref (g.2.2 0)), (1, .int x1), (2, .int x2), (3, .int x3), (4, .int x4), (5, .int x5), (6, .int x6), (7, .int x7)] → W p l e (rk 3) s m args below meth c H locs 0 0 Q (F0 m 41 ls [])) : ∀ (x1 : Int32) (x2 : Int32) (x3 : Int32) (x4 : Int32) (x5 : Int32) (x6 : Int32) (x7 : Int32) (w : Wd) (H : Heap) (locs : List Loc) (ls : Array Slot), pX10_nearest_101 k41 post x1 x2 x3 x4 x5 x6 x7 w → St tabX A s.heap g w H locs → lv_has ls 9 [(0, .ref (g.2.2 0)), (1, .int x1), (2, .int x2), (3, .int x3), (4, .int x4), (5, .int x5), (6, .int x6), (7, .int x7)] → W p l e (rk 3) s m args below meth c H locs 0 0 Q (F0 m 101 ls []) := by
  have hx := hC.1
  have hb := hC.2.1
  intro x1 x2 x3 x4 x5 x6 x7 w H locs ls hp hS hl
  unfold pX10_nearest_101 at hp
  obtain ⟨x7_1, ex7_1⟩ : ∃ y : Int32, y = x7 + (1 : Int32) := ⟨_, rfl⟩
  have hp := hp x7_1 ex7_1
  refine lv_iinc (v := x7_1) (lv' := [(7, .int x7_1), (0, .ref (g.2.2 0)), (1, .int x1), (2, .int x2), (3, .int x3), (4, .int x4), (5, .int x5), (6, .int x6)]) hx hb dX10_nearest_101 hl (k := 7) rfl (by rw [ex7_1]; rfl) (by decide) rfl (fun ls hl => ?_)
  refine lv_goto (tgt := 41) hx hb dX10_nearest_104 (by decide) ?_
  exact hk41 x1 x2 x3 x4 x5 x6 x7_1 w _ _ _ hp hS (lv_sub hl [1, 2, 3, 4, 5, 6, 7, 0] rfl)
set_option maxHeartbeats 4000000 in
set_option maxRecDepth 100000 in
theorem bX10_nearest_78 {p : Program} {l : Launch} {e : Env} {s : State} {m : MethodId} {args : Array Value} {below : List Frame} {meth : Method} {c : Code} {Q : State → Prop} {A : Nat → Prop} {g : Gw} {post : Int32 → Wd → Prop}  (hC : Cx p s m args c cX10_nearest RX10 9 g) (hR : RtI tabX p l e (rk 3) s m args below meth c Q cX10_nearest A g post)  {k41 : Int32 → Int32 → Int32 → Int32 → Int32 → Int32 → Int32 → Wd → Prop} (hk41 : ∀ (x1 : Int32) (x2 : Int32) (x3 : Int32) (x4 : Int32) (x5 : Int32) (x6 : Int32) (x7 : Int32) (w : Wd) (H : Heap) (locs : List Loc) (ls : Array Slot), k41 x1 x2 x3 x4 x5 x6 x7 w → St tabX A s.heap g w H locs → lv_has ls 9 [(0, .ref (g.2.2 0)), (1, .int x1), (2, .int x2), (3, .int x3), (4, .int x4), (5, .int x5), (6, .int x6), (7, .int x7)] → W p l e (rk 3) s m args below meth c H locs 0 0 Q (F0 m 41 ls [])) : ∀ (x1 : Int32) (x2 : Int32) (x3 : Int32) (x4 : Int32) (x5 : Int32) (x6 : Int32) (x7 : Int32) (t0 : Int32) (t1 : Int32) (w : Wd) (H : Heap) (locs : List Loc) (ls : Array Slot), pX10_nearest_78 k41 post x1 x2 x3 x4 x5 x6 x7 t0 t1 w → St tabX A s.heap g w H locs → lv_has ls 9 [(0, .ref (g.2.2 0)), (1, .int x1), (2, .int x2), (3, .int x3), (4, .int x4), (5, .int x5), (6, .int x6), (7, .int x7)] → W p l e (rk 3) s m args below meth c H locs 0 0 Q (F0 m 78 ls [.int t1, .int t0]) := by
  have hx := hC.1
  have hb := hC.2.1
  intro x1 x2 x3 x4 x5 x6 x7 t0 t1 w H locs ls hp hS hl
  unfold pX10_nearest_78 at hp
  refine lv_ixor hx hb dX10_nearest_78 ?_
  refine q_csI (As := [.int (t0 ^^^ t1)]) (rest := []) hC hS hl.1 (rJ6_bitCount_0f7a4 hp) cwX10_232 ysJ6_bitCount_0f7a4 rfl rfl (Nat.le_of_ble_eq_true rfl) (rmk (by decide) (by decide)) dX10_nearest_79 (fun r_1 w_2 H locs hp hS => ?_)
  refine lv_istore (lv' := [(8, .int r_1), (0, .ref (g.2.2 0)), (1, .int x1), (2, .int x2), (3, .int x3), (4, .int x4), (5, .int x5), (6, .int x6), (7, .int x7)]) hx hb dX10_nearest_82 hl (by decide) rfl (fun ls hl => ?_)
  refine lv_iload hx hb dX10_nearest_84 (lv_at hl 0 rfl) ?_
  refine lv_iload_n hx hb dX10_nearest_86 rfl (lv_at hl 4 rfl) ?_
  refine lv_icmp_ge (tgt := 101) hx hb dX10_nearest_87 (by decide) (fun c_3 => ?_) (fun c_3 => ?_)
  · have hp := hp.1 c_3
    exact bX10_nearest_101 hC hR hk41 x1 x2 x3 x4 x5 x6 x7 w_2 _ _ _ hp hS (lv_sub hl [1, 2, 3, 4, 5, 6, 7, 8] rfl)
  · have hp := hp.2 c_3
    refine lv_iload hx hb dX10_nearest_90 (lv_at hl 0 rfl) ?_
    refine lv_istore_n (lv' := [(3, .int r_1), (8, .int r_1), (0, .ref (g.2.2 0)), (1, .int x1), (2, .int x2), (4, .int x4), (5, .int x5), (6, .int x6), (7, .int x7)]) hx hb dX10_nearest_92 rfl hl (by decide) rfl (fun ls hl => ?_)
    refine lv_iload hx hb dX10_nearest_93 (lv_at hl 8 rfl) ?_
    refine lv_istore (lv' := [(4, .int x7), (3, .int r_1), (8, .int r_1), (0, .ref (g.2.2 0)), (1, .int x1), (2, .int x2), (5, .int x5), (6, .int x6), (7, .int x7)]) hx hb dX10_nearest_95 hl (by decide) rfl (fun ls hl => ?_)
    refine lv_iload hx hb dX10_nearest_97 (lv_at hl 7 rfl) ?_
    refine lv_istore (lv' := [(5, .int x6), (4, .int x7), (3, .int r_1), (8, .int r_1), (0, .ref (g.2.2 0)), (1, .int x1), (2, .int x2), (6, .int x6), (7, .int x7)]) hx hb dX10_nearest_99 hl (by decide) rfl (fun ls hl => ?_)
    exact bX10_nearest_101 hC hR hk41 x1 x2 r_1 x7 x6 x6 x7 w_2 _ _ _ hp hS (lv_sub hl [4, 5, 6, 2, 1, 0, 7, 8] rfl)
set_option maxHeartbeats 4000000 in
set_option maxRecDepth 100000 in
theorem bX10_nearest_41 {p : Program} {l : Launch} {e : Env} {s : State} {m : MethodId} {args : Array Value} {below : List Frame} {meth : Method} {c : Code} {Q : State → Prop} {A : Nat → Prop} {g : Gw} {post : Int32 → Wd → Prop}  (hC : Cx p s m args c cX10_nearest RX10 9 g) (hR : RtI tabX p l e (rk 3) s m args below meth c Q cX10_nearest A g post)  {k32 : Int32 → Int32 → Int32 → Int32 → Int32 → Int32 → Wd → Prop} (hk32 : ∀ (x1 : Int32) (x2 : Int32) (x3 : Int32) (x4 : Int32) (x5 : Int32) (x6 : Int32) (w : Wd) (H : Heap) (locs : List Loc) (ls : Array Slot), k32 x1 x2 x3 x4 x5 x6 w → St tabX A s.heap g w H locs → lv_has ls 9 [(0, .ref (g.2.2 0)), (1, .int x1), (2, .int x2), (3, .int x3), (4, .int x4), (5, .int x5), (6, .int x6)] → W p l e (rk 3) s m args below meth c H locs 0 0 Q (F0 m 32 ls [])) : ∀ (n : Nat) (x1 : Int32) (x2 : Int32) (x3 : Int32) (x4 : Int32) (x5 : Int32) (x6 : Int32) (x7 : Int32) (w : Wd) (H : Heap) (locs : List Loc) (ls : Array Slot), pX10_nearest_41 k32 post n x1 x2 x3 x4 x5 x6 x7 w → St tabX A s.heap g w H locs → lv_has ls 9 [(0, .ref (g.2.2 0)), (1, .int x1), (2, .int x2), (3, .int x3), (4, .int x4), (5, .int x5), (6, .int x6), (7, .int x7)] → W p l e (rk 3) s m args below meth c H locs 0 0 Q (F0 m 41 ls []) := by
  have hx := hC.1
  have hb := hC.2.1
  intro n
  induction n with
  | zero =>
    intro x1 x2 x3 x4 x5 x6 x7 w H locs ls hp hS hl
    exact False.elim hp
  | succ n ih =>
    intro x1 x2 x3 x4 x5 x6 x7 w H locs ls hp hS hl
    unfold pX10_nearest_41 at hp
    refine lv_iload hx hb dX10_nearest_41 (lv_at hl 7 rfl) ?_
    refine lv_aload_n hx hb dX10_nearest_43 rfl (lv_at hl 0 rfl) ?_
    refine G_0_3 hC hS m30 dX10_nearest_44 ?_
    refine G_160_0 hC hS m622 dX10_nearest_47 ?_
    refine lv_icmp_ge (tgt := 107) hx hb dX10_nearest_50 (by decide) (fun c_1 => ?_) (fun c_1 => ?_)
    · have hp := hp.1 c_1
      obtain ⟨x6_2, ex6_2⟩ : ∃ y : Int32, y = x6 + (1 : Int32) := ⟨_, rfl⟩
      have hp := hp x6_2 ex6_2
      refine lv_iinc (v := x6_2) (lv' := [(6, .int x6_2), (0, .ref (g.2.2 0)), (1, .int x1), (2, .int x2), (3, .int x3), (4, .int x4), (5, .int x5), (7, .int x7)]) hx hb dX10_nearest_107 hl (k := 6) rfl (by rw [ex6_2]; rfl) (by decide) rfl (fun ls hl => ?_)
      refine lv_goto (tgt := 32) hx hb dX10_nearest_110 (by decide) ?_
      exact hk32 x1 x2 x3 x4 x5 x6_2 w _ _ _ hp hS (lv_sub hl [1, 2, 3, 4, 5, 6, 0] rfl)
    · have hp := hp.2 c_1
      refine lv_iload_n hx hb dX10_nearest_53 rfl (lv_at hl 1 rfl) ?_
      refine lv_iload hx hb dX10_nearest_54 (lv_at hl 6 rfl) ?_
      refine lv_if_ne (tgt := 68) hx hb dX10_nearest_56 (by decide) (fun c_3 => ?_) (fun c_3 => ?_)
      · have hp := hp.1 c_3
        refine lv_aload_n hx hb dX10_nearest_68 rfl (lv_at hl 0 rfl) ?_
        refine G_0_3 hC hS m30 dX10_nearest_69 ?_
        refine G_160_1 hC hS m613 dX10_nearest_72 ?_
        refine lv_iload hx hb dX10_nearest_75 (lv_at hl 7 rfl) ?_
        refine La_162 hC hS hp.1 dX10_nearest_77 ?_
        have hp := hp.2
        exact bX10_nearest_78 hC hR ih x1 x2 x3 x4 x5 x6 x7 x1 (w.2.1 162 x7.toNatClampNeg) w _ _ _ hp hS (lv_sub hl [0, 1, 2, 3, 4, 5, 6, 7] rfl)
      · have hp := hp.2 c_3
        refine lv_aload_n hx hb dX10_nearest_59 rfl (lv_at hl 0 rfl) ?_
        refine lv_iload hx hb dX10_nearest_60 (lv_at hl 7 rfl) ?_
        refine q_cvI (As := [.int x7]) (rest := [.int x1]) hC hS hl.1 (rX10_printOf hp) cwX10_228 yvX10_printOf (rcv_0 hC hS) rfl rfl (Nat.le_of_ble_eq_true rfl) (rmk (by decide) (by decide)) dX10_nearest_62 (fun r_4 w_5 H locs hp hS => ?_)
        refine lv_goto (tgt := 78) hx hb dX10_nearest_65 (by decide) ?_
        exact bX10_nearest_78 hC hR ih x1 x2 x3 x4 x5 x6 x7 x1 r_4 w_5 _ _ _ hp hS (lv_sub hl [0, 1, 2, 3, 4, 5, 6, 7] rfl)
set_option maxHeartbeats 4000000 in
set_option maxRecDepth 100000 in
theorem bX10_nearest_32 {p : Program} {l : Launch} {e : Env} {s : State} {m : MethodId} {args : Array Value} {below : List Frame} {meth : Method} {c : Code} {Q : State → Prop} {A : Nat → Prop} {g : Gw} {post : Int32 → Wd → Prop}  (hC : Cx p s m args c cX10_nearest RX10 9 g) (hR : RtI tabX p l e (rk 3) s m args below meth c Q cX10_nearest A g post)  : ∀ (n : Nat) (x1 : Int32) (x2 : Int32) (x3 : Int32) (x4 : Int32) (x5 : Int32) (x6 : Int32) (w : Wd) (H : Heap) (locs : List Loc) (ls : Array Slot), pX10_nearest_32 post n x1 x2 x3 x4 x5 x6 w → St tabX A s.heap g w H locs → lv_has ls 9 [(0, .ref (g.2.2 0)), (1, .int x1), (2, .int x2), (3, .int x3), (4, .int x4), (5, .int x5), (6, .int x6)] → W p l e (rk 3) s m args below meth c H locs 0 0 Q (F0 m 32 ls []) := by
  have hx := hC.1
  have hb := hC.2.1
  intro n
  induction n with
  | zero =>
    intro x1 x2 x3 x4 x5 x6 w H locs ls hp hS hl
    exact False.elim hp
  | succ n ih =>
    intro x1 x2 x3 x4 x5 x6 w H locs ls hp hS hl
    unfold pX10_nearest_32 at hp
    refine lv_iload hx hb dX10_nearest_32 (lv_at hl 6 rfl) ?_
    refine lv_iconst hx hb dX10_nearest_34 kI_2 ?_
    refine lv_icmp_ge (tgt := 113) hx hb dX10_nearest_35 (by decide) (fun c_1 => ?_) (fun c_1 => ?_)
    · have hp := hp.1 c_1
      refine lv_iload_n hx hb dX10_nearest_113 rfl (lv_at hl 2 rfl) ?_
      refine lv_if_ne (tgt := 119) hx hb dX10_nearest_114 (by decide) (fun c_2 => ?_) (fun c_2 => ?_)
      · have hp := hp.1 c_2
        refine lv_iload_n hx hb dX10_nearest_119 rfl (lv_at hl 2 rfl) ?_
        refine lv_iconst hx hb dX10_nearest_120 kI_1 ?_
        refine lv_icmp_ne (tgt := 129) hx hb dX10_nearest_121 (by decide) (fun c_3 => ?_) (fun c_3 => ?_)
        · have hp := hp.1 c_3
          refine lv_iload hx hb dX10_nearest_129 (lv_at hl 5 rfl) ?_
          exact hR _ _ _ _ _ _ dX10_nearest_131 hp hS
        · have hp := hp.2 c_3
          refine lv_iload hx hb dX10_nearest_124 (lv_at hl 4 rfl) ?_
          refine lv_goto (tgt := 131) hx hb dX10_nearest_126 (by decide) ?_
          exact hR _ _ _ _ _ _ dX10_nearest_131 hp hS
      · have hp := hp.2 c_2
        refine lv_iload_n hx hb dX10_nearest_117 rfl (lv_at hl 3 rfl) ?_
        exact hR _ _ _ _ _ _ dX10_nearest_118 hp hS
    · have hp := hp.2 c_1
      refine lv_iconst hx hb dX10_nearest_38 kI_0 ?_
      refine lv_istore (lv' := [(7, .int (0 : Int32)), (0, .ref (g.2.2 0)), (1, .int x1), (2, .int x2), (3, .int x3), (4, .int x4), (5, .int x5), (6, .int x6)]) hx hb dX10_nearest_39 hl (by decide) rfl (fun ls hl => ?_)
      obtain ⟨n9, hp⟩ := hp
      exact bX10_nearest_41 hC hR ih n9 x1 x2 x3 x4 x5 x6 (0 : Int32) w _ _ _ hp hS (lv_sub hl [1, 2, 3, 4, 5, 6, 7, 0] rfl)
set_option maxHeartbeats 4000000 in
set_option maxRecDepth 100000 in
theorem rX10_nearest {l : Launch} {g : Gw} {w : Wd} {post : Int32 → Wd → Prop}   {x1 : Int32} {x2 : Int32} (hp : pX10_nearest post x1 x2 w) : MtI tabX l yX10_nearest cX10_nearest 9 (some .int) 3 g w [.ref (g.2.2 0), .int x1, .int x2] post := by
  refine q_entI tabX_nd (by decide) rfl (Nat.le_of_ble_eq_true rfl) ?_
  intro p e s m args below meth c A Q ls hC hR hS hl
  have hx := hC.1
  have hb := hC.2.1
  have hl : lv_has ls 9 [(0, .ref (g.2.2 0)), (1, .int x1), (2, .int x2)] := hl
  unfold pX10_nearest at hp
  refine lv_aload_n hx hb dX10_nearest_0 rfl (lv_at hl 0 rfl) ?_
  refine lv_iload_n hx hb dX10_nearest_1 rfl (lv_at hl 1 rfl) ?_
  refine q_cvI (As := [.int x1]) (rest := []) hC hS hl.1 (rX10_isRow hp) cwX10_180 yvX10_isRow (rcv_0 hC hS) rfl rfl (Nat.le_of_ble_eq_true rfl) (rmk (by decide) (by decide)) dX10_nearest_2 (fun r_1 w_2 H locs hp hS => ?_)
  refine lv_if_eq (tgt := 17) hx hb dX10_nearest_5 (by decide) (fun c_3 => ?_) (fun c_3 => ?_)
  · have hp := hp.1 c_3
    refine lv_iconst hx hb dX10_nearest_17 kI_m1 ?_
    exact hR _ _ _ _ _ _ dX10_nearest_18 hp hS
  · have hp := hp.2 c_3
    refine lv_iload_n hx hb dX10_nearest_8 rfl (lv_at hl 2 rfl) ?_
    refine lv_if_lt (tgt := 17) hx hb dX10_nearest_9 (by decide) (fun c_4 => ?_) (fun c_4 => ?_)
    · have hp := hp.1 c_4
      refine lv_iconst hx hb dX10_nearest_17 kI_m1 ?_
      exact hR _ _ _ _ _ _ dX10_nearest_18 hp hS
    · have hp := hp.2 c_4
      refine lv_iload_n hx hb dX10_nearest_12 rfl (lv_at hl 2 rfl) ?_
      refine lv_iconst hx hb dX10_nearest_13 kI_2 ?_
      refine lv_icmp_le (tgt := 19) hx hb dX10_nearest_14 (by decide) (fun c_5 => ?_) (fun c_5 => ?_)
      · have hp := hp.1 c_5
        refine lv_sipush hx hb dX10_nearest_19 kS_1000 ?_
        refine lv_istore_n (lv' := [(3, .int (1000 : Int32)), (0, .ref (g.2.2 0)), (1, .int x1), (2, .int x2)]) hx hb dX10_nearest_22 rfl hl (by decide) rfl (fun ls hl => ?_)
        refine lv_iconst hx hb dX10_nearest_23 kI_m1 ?_
        refine lv_istore (lv' := [(4, .int (-1 : Int32)), (3, .int (1000 : Int32)), (0, .ref (g.2.2 0)), (1, .int x1), (2, .int x2)]) hx hb dX10_nearest_24 hl (by decide) rfl (fun ls hl => ?_)
        refine lv_iconst hx hb dX10_nearest_26 kI_0 ?_
        refine lv_istore (lv' := [(5, .int (0 : Int32)), (4, .int (-1 : Int32)), (3, .int (1000 : Int32)), (0, .ref (g.2.2 0)), (1, .int x1), (2, .int x2)]) hx hb dX10_nearest_27 hl (by decide) rfl (fun ls hl => ?_)
        refine lv_iconst hx hb dX10_nearest_29 kI_0 ?_
        refine lv_istore (lv' := [(6, .int (0 : Int32)), (5, .int (0 : Int32)), (4, .int (-1 : Int32)), (3, .int (1000 : Int32)), (0, .ref (g.2.2 0)), (1, .int x1), (2, .int x2)]) hx hb dX10_nearest_30 hl (by decide) rfl (fun ls hl => ?_)
        obtain ⟨n9, hp⟩ := hp
        exact bX10_nearest_32 hC hR n9 x1 x2 (1000 : Int32) (-1 : Int32) (0 : Int32) (0 : Int32) w_2 _ _ _ hp hS (lv_sub hl [4, 5, 6, 3, 2, 1, 0] rfl)
      · have hp := hp.2 c_5
        refine lv_iconst hx hb dX10_nearest_17 kI_m1 ?_
        exact hR _ _ _ _ _ _ dX10_nearest_18 hp hS
def pX10_marksOfAllPrints_12 (post : Int32 → Wd → Prop) : Nat → Int32 → Int32 → Wd → Prop
  | 0, _, _, _ => False
  | n + 1, x1, x2, w => ((w.1 160 6) ≤ x2 → (post x1 w)) ∧ (¬ (w.1 160 6) ≤ x2 → (vp_in x2 40 ∧ ∀ x1_2, x1_2 = (x1 &&& (w.2.1 168 x2.toNatClampNeg)) → ∀ x2_3, x2_3 = x2 + (1 : Int32) → pX10_marksOfAllPrints_12 post n x1_2 x2_3 w))
def pX10_marksOfAllPrints (post : Int32 → Wd → Prop)  (w : Wd) : Prop := pX7_rows (fun r_1 w_2 => ∀ x1_3, x1_3 = (r_1 - (1 : Int32)) → ∃ n9, pX10_marksOfAllPrints_12 post n9 x1_3 (0 : Int32) w_2) (w.2.2.2.2 0) w
set_option maxHeartbeats 4000000 in
set_option maxRecDepth 100000 in
theorem bX10_marksOfAllPrints_12 {p : Program} {l : Launch} {e : Env} {s : State} {m : MethodId} {args : Array Value} {below : List Frame} {meth : Method} {c : Code} {Q : State → Prop} {A : Nat → Prop} {g : Gw} {post : Int32 → Wd → Prop}  (hC : Cx p s m args c cX10_marksOfAllPrints RX10 3 g) (hR : RtI tabX p l e (rk 2) s m args below meth c Q cX10_marksOfAllPrints A g post)  : ∀ (n : Nat) (x1 : Int32) (x2 : Int32) (w : Wd) (H : Heap) (locs : List Loc) (ls : Array Slot), pX10_marksOfAllPrints_12 post n x1 x2 w → St tabX A s.heap g w H locs → lv_has ls 3 [(0, .ref (g.2.2 0)), (1, .int x1), (2, .int x2)] → W p l e (rk 2) s m args below meth c H locs 0 0 Q (F0 m 12 ls []) := by
  have hx := hC.1
  have hb := hC.2.1
  intro n
  induction n with
  | zero =>
    intro x1 x2 w H locs ls hp hS hl
    exact False.elim hp
  | succ n ih =>
    intro x1 x2 w H locs ls hp hS hl
    unfold pX10_marksOfAllPrints_12 at hp
    refine lv_iload_n hx hb dX10_marksOfAllPrints_12 rfl (lv_at hl 2 rfl) ?_
    refine lv_aload_n hx hb dX10_marksOfAllPrints_13 rfl (lv_at hl 0 rfl) ?_
    refine G_0_3 hC hS m30 dX10_marksOfAllPrints_14 ?_
    refine G_160_6 hC hS m642 dX10_marksOfAllPrints_17 ?_
    refine lv_icmp_ge (tgt := 41) hx hb dX10_marksOfAllPrints_20 (by decide) (fun c_1 => ?_) (fun c_1 => ?_)
    · have hp := hp.1 c_1
      refine lv_iload_n hx hb dX10_marksOfAllPrints_41 rfl (lv_at hl 1 rfl) ?_
      exact hR _ _ _ _ _ _ dX10_marksOfAllPrints_42 hp hS
    · have hp := hp.2 c_1
      refine lv_iload_n hx hb dX10_marksOfAllPrints_23 rfl (lv_at hl 1 rfl) ?_
      refine lv_aload_n hx hb dX10_marksOfAllPrints_24 rfl (lv_at hl 0 rfl) ?_
      refine G_0_3 hC hS m30 dX10_marksOfAllPrints_25 ?_
      refine G_160_7 hC hS m643 dX10_marksOfAllPrints_28 ?_
      refine lv_iload_n hx hb dX10_marksOfAllPrints_31 rfl (lv_at hl 2 rfl) ?_
      refine La_168 hC hS hp.1 dX10_marksOfAllPrints_32 ?_
      have hp := hp.2
      refine lv_iand hx hb dX10_marksOfAllPrints_33 ?_
      refine lv_topi (fun x1_2 ex1_2 => ?_)
      have hp := hp x1_2 ex1_2
      refine lv_istore_n (lv' := [(1, .int x1_2), (0, .ref (g.2.2 0)), (2, .int x2)]) hx hb dX10_marksOfAllPrints_34 rfl hl (by decide) rfl (fun ls hl => ?_)
      obtain ⟨x2_3, ex2_3⟩ : ∃ y : Int32, y = x2 + (1 : Int32) := ⟨_, rfl⟩
      have hp := hp x2_3 ex2_3
      refine lv_iinc (v := x2_3) (lv' := [(2, .int x2_3), (1, .int x1_2), (0, .ref (g.2.2 0))]) hx hb dX10_marksOfAllPrints_35 hl (k := 2) rfl (by rw [ex2_3]; rfl) (by decide) rfl (fun ls hl => ?_)
      refine lv_goto (tgt := 12) hx hb dX10_marksOfAllPrints_38 (by decide) ?_
      exact ih x1_2 x2_3 w _ _ _ hp hS (lv_sub hl [2, 1, 0] rfl)
set_option maxHeartbeats 4000000 in
set_option maxRecDepth 100000 in
theorem rX10_marksOfAllPrints {l : Launch} {g : Gw} {w : Wd} {post : Int32 → Wd → Prop}    (hp : pX10_marksOfAllPrints post  w) : MtI tabX l yX10_marksOfAllPrints cX10_marksOfAllPrints 3 (some .int) 2 g w [.ref (g.2.2 0)] post := by
  refine q_entI tabX_nd (by decide) rfl (Nat.le_of_ble_eq_true rfl) ?_
  intro p e s m args below meth c A Q ls hC hR hS hl
  have hx := hC.1
  have hb := hC.2.1
  have hl : lv_has ls 3 [(0, .ref (g.2.2 0))] := hl
  unfold pX10_marksOfAllPrints at hp
  refine lv_aload_n hx hb dX10_marksOfAllPrints_0 rfl (lv_at hl 0 rfl) ?_
  refine G_0_16 hC hS m21 dX10_marksOfAllPrints_1 ?_
  refine q_cvI (As := []) (rest := []) hC hS hl.1 (rX7_rows hp) cwX10_240 yvX7_rows (rcvR hC hS) rfl rfl (Nat.le_of_ble_eq_true rfl) (rmk (by decide) (by decide)) dX10_marksOfAllPrints_4 (fun r_1 w_2 H locs hp hS => ?_)
  refine lv_iconst hx hb dX10_marksOfAllPrints_7 kI_1 ?_
  refine lv_isub hx hb dX10_marksOfAllPrints_8 ?_
  refine lv_topi (fun x1_3 ex1_3 => ?_)
  have hp := hp x1_3 ex1_3
  refine lv_istore_n (lv' := [(1, .int x1_3), (0, .ref (g.2.2 0))]) hx hb dX10_marksOfAllPrints_9 rfl hl (by decide) rfl (fun ls hl => ?_)
  refine lv_iconst hx hb dX10_marksOfAllPrints_10 kI_0 ?_
  refine lv_istore_n (lv' := [(2, .int (0 : Int32)), (1, .int x1_3), (0, .ref (g.2.2 0))]) hx hb dX10_marksOfAllPrints_11 rfl hl (by decide) rfl (fun ls hl => ?_)
  obtain ⟨n9, hp⟩ := hp
  exact bX10_marksOfAllPrints_12 hC hR n9 x1_3 (0 : Int32) w_2 _ _ _ hp hS (lv_sub hl [2, 1, 0] rfl)
def pX10_marksOfAllSeals_12 (post : Int32 → Wd → Prop) : Nat → Int32 → Int32 → Wd → Prop
  | 0, _, _, _ => False
  | n + 1, x1, x2, w => ((w.1 160 0) ≤ x2 → (post x1 w)) ∧ (¬ (w.1 160 0) ≤ x2 → (vp_in x2 24 ∧ ∀ x1_2, x1_2 = (x1 &&& (w.2.1 162 x2.toNatClampNeg)) → ∀ x2_3, x2_3 = x2 + (1 : Int32) → pX10_marksOfAllSeals_12 post n x1_2 x2_3 w))
def pX10_marksOfAllSeals (post : Int32 → Wd → Prop)  (w : Wd) : Prop := pX7_rows (fun r_1 w_2 => ∀ x1_3, x1_3 = (r_1 - (1 : Int32)) → ∃ n9, pX10_marksOfAllSeals_12 post n9 x1_3 (0 : Int32) w_2) (w.2.2.2.2 0) w
set_option maxHeartbeats 4000000 in
set_option maxRecDepth 100000 in
theorem bX10_marksOfAllSeals_12 {p : Program} {l : Launch} {e : Env} {s : State} {m : MethodId} {args : Array Value} {below : List Frame} {meth : Method} {c : Code} {Q : State → Prop} {A : Nat → Prop} {g : Gw} {post : Int32 → Wd → Prop}  (hC : Cx p s m args c cX10_marksOfAllSeals RX10 3 g) (hR : RtI tabX p l e (rk 2) s m args below meth c Q cX10_marksOfAllSeals A g post)  : ∀ (n : Nat) (x1 : Int32) (x2 : Int32) (w : Wd) (H : Heap) (locs : List Loc) (ls : Array Slot), pX10_marksOfAllSeals_12 post n x1 x2 w → St tabX A s.heap g w H locs → lv_has ls 3 [(0, .ref (g.2.2 0)), (1, .int x1), (2, .int x2)] → W p l e (rk 2) s m args below meth c H locs 0 0 Q (F0 m 12 ls []) := by
  have hx := hC.1
  have hb := hC.2.1
  intro n
  induction n with
  | zero =>
    intro x1 x2 w H locs ls hp hS hl
    exact False.elim hp
  | succ n ih =>
    intro x1 x2 w H locs ls hp hS hl
    unfold pX10_marksOfAllSeals_12 at hp
    refine lv_iload_n hx hb dX10_marksOfAllSeals_12 rfl (lv_at hl 2 rfl) ?_
    refine lv_aload_n hx hb dX10_marksOfAllSeals_13 rfl (lv_at hl 0 rfl) ?_
    refine G_0_3 hC hS m30 dX10_marksOfAllSeals_14 ?_
    refine G_160_0 hC hS m622 dX10_marksOfAllSeals_17 ?_
    refine lv_icmp_ge (tgt := 41) hx hb dX10_marksOfAllSeals_20 (by decide) (fun c_1 => ?_) (fun c_1 => ?_)
    · have hp := hp.1 c_1
      refine lv_iload_n hx hb dX10_marksOfAllSeals_41 rfl (lv_at hl 1 rfl) ?_
      exact hR _ _ _ _ _ _ dX10_marksOfAllSeals_42 hp hS
    · have hp := hp.2 c_1
      refine lv_iload_n hx hb dX10_marksOfAllSeals_23 rfl (lv_at hl 1 rfl) ?_
      refine lv_aload_n hx hb dX10_marksOfAllSeals_24 rfl (lv_at hl 0 rfl) ?_
      refine G_0_3 hC hS m30 dX10_marksOfAllSeals_25 ?_
      refine G_160_1 hC hS m613 dX10_marksOfAllSeals_28 ?_
      refine lv_iload_n hx hb dX10_marksOfAllSeals_31 rfl (lv_at hl 2 rfl) ?_
      refine La_162 hC hS hp.1 dX10_marksOfAllSeals_32 ?_
      have hp := hp.2
      refine lv_iand hx hb dX10_marksOfAllSeals_33 ?_
      refine lv_topi (fun x1_2 ex1_2 => ?_)
      have hp := hp x1_2 ex1_2
      refine lv_istore_n (lv' := [(1, .int x1_2), (0, .ref (g.2.2 0)), (2, .int x2)]) hx hb dX10_marksOfAllSeals_34 rfl hl (by decide) rfl (fun ls hl => ?_)
      obtain ⟨x2_3, ex2_3⟩ : ∃ y : Int32, y = x2 + (1 : Int32) := ⟨_, rfl⟩
      have hp := hp x2_3 ex2_3
      refine lv_iinc (v := x2_3) (lv' := [(2, .int x2_3), (1, .int x1_2), (0, .ref (g.2.2 0))]) hx hb dX10_marksOfAllSeals_35 hl (k := 2) rfl (by rw [ex2_3]; rfl) (by decide) rfl (fun ls hl => ?_)
      refine lv_goto (tgt := 12) hx hb dX10_marksOfAllSeals_38 (by decide) ?_
      exact ih x1_2 x2_3 w _ _ _ hp hS (lv_sub hl [2, 1, 0] rfl)
set_option maxHeartbeats 4000000 in
set_option maxRecDepth 100000 in
theorem rX10_marksOfAllSeals {l : Launch} {g : Gw} {w : Wd} {post : Int32 → Wd → Prop}    (hp : pX10_marksOfAllSeals post  w) : MtI tabX l yX10_marksOfAllSeals cX10_marksOfAllSeals 3 (some .int) 2 g w [.ref (g.2.2 0)] post := by
  refine q_entI tabX_nd (by decide) rfl (Nat.le_of_ble_eq_true rfl) ?_
  intro p e s m args below meth c A Q ls hC hR hS hl
  have hx := hC.1
  have hb := hC.2.1
  have hl : lv_has ls 3 [(0, .ref (g.2.2 0))] := hl
  unfold pX10_marksOfAllSeals at hp
  refine lv_aload_n hx hb dX10_marksOfAllSeals_0 rfl (lv_at hl 0 rfl) ?_
  refine G_0_16 hC hS m21 dX10_marksOfAllSeals_1 ?_
  refine q_cvI (As := []) (rest := []) hC hS hl.1 (rX7_rows hp) cwX10_240 yvX7_rows (rcvR hC hS) rfl rfl (Nat.le_of_ble_eq_true rfl) (rmk (by decide) (by decide)) dX10_marksOfAllSeals_4 (fun r_1 w_2 H locs hp hS => ?_)
  refine lv_iconst hx hb dX10_marksOfAllSeals_7 kI_1 ?_
  refine lv_isub hx hb dX10_marksOfAllSeals_8 ?_
  refine lv_topi (fun x1_3 ex1_3 => ?_)
  have hp := hp x1_3 ex1_3
  refine lv_istore_n (lv' := [(1, .int x1_3), (0, .ref (g.2.2 0))]) hx hb dX10_marksOfAllSeals_9 rfl hl (by decide) rfl (fun ls hl => ?_)
  refine lv_iconst hx hb dX10_marksOfAllSeals_10 kI_0 ?_
  refine lv_istore_n (lv' := [(2, .int (0 : Int32)), (1, .int x1_3), (0, .ref (g.2.2 0))]) hx hb dX10_marksOfAllSeals_11 rfl hl (by decide) rfl (fun ls hl => ?_)
  obtain ⟨n9, hp⟩ := hp
  exact bX10_marksOfAllSeals_12 hC hR n9 x1_3 (0 : Int32) w_2 _ _ _ hp hS (lv_sub hl [2, 1, 0] rfl)
def pX10_marksOfSomeSeals_4 (post : Int32 → Wd → Prop) : Nat → Int32 → Int32 → Wd → Prop
  | 0, _, _, _ => False
  | n + 1, x1, x2, w => ((w.1 160 0) ≤ x2 → (post x1 w)) ∧ (¬ (w.1 160 0) ≤ x2 → (vp_in x2 24 ∧ ∀ x1_2, x1_2 = (x1 ||| (w.2.1 162 x2.toNatClampNeg)) → ∀ x2_3, x2_3 = x2 + (1 : Int32) → pX10_marksOfSomeSeals_4 post n x1_2 x2_3 w))
def pX10_marksOfSomeSeals (post : Int32 → Wd → Prop)  (w : Wd) : Prop := ∃ n9, pX10_marksOfSomeSeals_4 post n9 (0 : Int32) (0 : Int32) w
set_option maxHeartbeats 4000000 in
set_option maxRecDepth 100000 in
theorem bX10_marksOfSomeSeals_4 {p : Program} {l : Launch} {e : Env} {s : State} {m : MethodId} {args : Array Value} {below : List Frame} {meth : Method} {c : Code} {Q : State → Prop} {A : Nat → Prop} {g : Gw} {post : Int32 → Wd → Prop}  (hC : Cx p s m args c cX10_marksOfSomeSeals RX10 3 g) (hR : RtI tabX p l e (rk 1) s m args below meth c Q cX10_marksOfSomeSeals A g post)  : ∀ (n : Nat) (x1 : Int32) (x2 : Int32) (w : Wd) (H : Heap) (locs : List Loc) (ls : Array Slot), pX10_marksOfSomeSeals_4 post n x1 x2 w → St tabX A s.heap g w H locs → lv_has ls 3 [(0, .ref (g.2.2 0)), (1, .int x1), (2, .int x2)] → W p l e (rk 1) s m args below meth c H locs 0 0 Q (F0 m 4 ls []) := by
  have hx := hC.1
  have hb := hC.2.1
  intro n
  induction n with
  | zero =>
    intro x1 x2 w H locs ls hp hS hl
    exact False.elim hp
  | succ n ih =>
    intro x1 x2 w H locs ls hp hS hl
    unfold pX10_marksOfSomeSeals_4 at hp
    refine lv_iload_n hx hb dX10_marksOfSomeSeals_4 rfl (lv_at hl 2 rfl) ?_
    refine lv_aload_n hx hb dX10_marksOfSomeSeals_5 rfl (lv_at hl 0 rfl) ?_
    refine G_0_3 hC hS m30 dX10_marksOfSomeSeals_6 ?_
    refine G_160_0 hC hS m622 dX10_marksOfSomeSeals_9 ?_
    refine lv_icmp_ge (tgt := 33) hx hb dX10_marksOfSomeSeals_12 (by decide) (fun c_1 => ?_) (fun c_1 => ?_)
    · have hp := hp.1 c_1
      refine lv_iload_n hx hb dX10_marksOfSomeSeals_33 rfl (lv_at hl 1 rfl) ?_
      exact hR _ _ _ _ _ _ dX10_marksOfSomeSeals_34 hp hS
    · have hp := hp.2 c_1
      refine lv_iload_n hx hb dX10_marksOfSomeSeals_15 rfl (lv_at hl 1 rfl) ?_
      refine lv_aload_n hx hb dX10_marksOfSomeSeals_16 rfl (lv_at hl 0 rfl) ?_
      refine G_0_3 hC hS m30 dX10_marksOfSomeSeals_17 ?_
      refine G_160_1 hC hS m613 dX10_marksOfSomeSeals_20 ?_
      refine lv_iload_n hx hb dX10_marksOfSomeSeals_23 rfl (lv_at hl 2 rfl) ?_
      refine La_162 hC hS hp.1 dX10_marksOfSomeSeals_24 ?_
      have hp := hp.2
      refine lv_ior hx hb dX10_marksOfSomeSeals_25 ?_
      refine lv_topi (fun x1_2 ex1_2 => ?_)
      have hp := hp x1_2 ex1_2
      refine lv_istore_n (lv' := [(1, .int x1_2), (0, .ref (g.2.2 0)), (2, .int x2)]) hx hb dX10_marksOfSomeSeals_26 rfl hl (by decide) rfl (fun ls hl => ?_)
      obtain ⟨x2_3, ex2_3⟩ : ∃ y : Int32, y = x2 + (1 : Int32) := ⟨_, rfl⟩
      have hp := hp x2_3 ex2_3
      refine lv_iinc (v := x2_3) (lv' := [(2, .int x2_3), (1, .int x1_2), (0, .ref (g.2.2 0))]) hx hb dX10_marksOfSomeSeals_27 hl (k := 2) rfl (by rw [ex2_3]; rfl) (by decide) rfl (fun ls hl => ?_)
      refine lv_goto (tgt := 4) hx hb dX10_marksOfSomeSeals_30 (by decide) ?_
      exact ih x1_2 x2_3 w _ _ _ hp hS (lv_sub hl [2, 1, 0] rfl)
set_option maxHeartbeats 4000000 in
set_option maxRecDepth 100000 in
theorem rX10_marksOfSomeSeals {l : Launch} {g : Gw} {w : Wd} {post : Int32 → Wd → Prop}    (hp : pX10_marksOfSomeSeals post  w) : MtI tabX l yX10_marksOfSomeSeals cX10_marksOfSomeSeals 3 (some .int) 1 g w [.ref (g.2.2 0)] post := by
  refine q_entI tabX_nd (by decide) rfl (Nat.le_of_ble_eq_true rfl) ?_
  intro p e s m args below meth c A Q ls hC hR hS hl
  have hx := hC.1
  have hb := hC.2.1
  have hl : lv_has ls 3 [(0, .ref (g.2.2 0))] := hl
  unfold pX10_marksOfSomeSeals at hp
  refine lv_iconst hx hb dX10_marksOfSomeSeals_0 kI_0 ?_
  refine lv_istore_n (lv' := [(1, .int (0 : Int32)), (0, .ref (g.2.2 0))]) hx hb dX10_marksOfSomeSeals_1 rfl hl (by decide) rfl (fun ls hl => ?_)
  refine lv_iconst hx hb dX10_marksOfSomeSeals_2 kI_0 ?_
  refine lv_istore_n (lv' := [(2, .int (0 : Int32)), (1, .int (0 : Int32)), (0, .ref (g.2.2 0))]) hx hb dX10_marksOfSomeSeals_3 rfl hl (by decide) rfl (fun ls hl => ?_)
  obtain ⟨n9, hp⟩ := hp
  exact bX10_marksOfSomeSeals_4 hC hR n9 (0 : Int32) (0 : Int32) w _ _ _ hp hS (lv_sub hl [2, 1, 0] rfl)
def pX10_common (post : Int32 → Wd → Prop) (x1 : Int32) (w : Wd) : Prop := (x1.toInt < 0 ∨ 2 < x1.toInt → (post (-1 : Int32) w)) ∧ (x1.toInt = 0 → (pX10_marksOfAllSeals (fun r_2 w_3 => post r_2 w_3) w)) ∧ (x1.toInt = 1 → (pX10_marksOfSomeSeals (fun r_4 w_5 => post r_4 w_5) w)) ∧ (x1.toInt = 2 → (pX10_marksOfAllPrints (fun r_6 w_7 => post r_6 w_7) w))
set_option maxHeartbeats 4000000 in
set_option maxRecDepth 100000 in
theorem rX10_common {l : Launch} {g : Gw} {w : Wd} {post : Int32 → Wd → Prop}   {x1 : Int32} (hp : pX10_common post x1 w) : MtI tabX l yX10_common cX10_common 2 (some .int) 3 g w [.ref (g.2.2 0), .int x1] post := by
  refine q_entI tabX_nd (by decide) rfl (Nat.le_of_ble_eq_true rfl) ?_
  intro p e s m args below meth c A Q ls hC hR hS hl
  have hx := hC.1
  have hb := hC.2.1
  have hl : lv_has ls 2 [(0, .ref (g.2.2 0)), (1, .int x1)] := hl
  unfold pX10_common at hp
  refine lv_iload_n hx hb dX10_common_0 rfl (lv_at hl 1 rfl) ?_
  by_cases c_1 : x1.toInt < 0 ∨ 2 < x1.toInt
  · have hp := hp.1 c_1
    refine lv_tableOut (tgt := 43) hx hb dX10_common_1 c_1 (by decide) ?_
    refine lv_iconst hx hb dX10_common_43 kI_m1 ?_
    exact hR _ _ _ _ _ _ dX10_common_44 hp hS
  · have hp := hp.2
    have c_11 : ¬ x1.toInt < 0 := fun z => c_1 (Or.inl z)
    have c_12 : ¬ 2 < x1.toInt := fun z => c_1 (Or.inr z)
    rcases (show x1.toInt = 0 ∨ x1.toInt = 1 ∨ x1.toInt = 2 by omega) with c_13 | c_13 | c_13
    · have hp := hp.1 c_13
      refine lv_tableIn (tgt := 28) hx hb dX10_common_1 c_11 c_12 (by rw [c_13]; rfl) (by decide) ?_
      refine lv_aload_n hx hb dX10_common_28 rfl (lv_at hl 0 rfl) ?_
      refine q_cvI (As := []) (rest := []) hC hS hl.1 (rX10_marksOfAllSeals hp) cwX10_251 yvX10_marksOfAllSeals (rcv_0 hC hS) rfl rfl (Nat.le_of_ble_eq_true rfl) (rmk (by decide) (by decide)) dX10_common_29 (fun r_2 w_3 H locs hp hS => ?_)
      exact hR _ _ _ _ _ _ dX10_common_32 hp hS
    · have hp := hp.2.1 c_13
      refine lv_tableIn (tgt := 33) hx hb dX10_common_1 c_11 c_12 (by rw [c_13]; rfl) (by decide) ?_
      refine lv_aload_n hx hb dX10_common_33 rfl (lv_at hl 0 rfl) ?_
      refine q_cvI (As := []) (rest := []) hC hS hl.1 (rX10_marksOfSomeSeals hp) cwX10_254 yvX10_marksOfSomeSeals (rcv_0 hC hS) rfl rfl (Nat.le_of_ble_eq_true rfl) (rmk (by decide) (by decide)) dX10_common_34 (fun r_4 w_5 H locs hp hS => ?_)
      exact hR _ _ _ _ _ _ dX10_common_37 hp hS
    · have hp := hp.2.2 c_13
      refine lv_tableIn (tgt := 38) hx hb dX10_common_1 c_11 c_12 (by rw [c_13]; rfl) (by decide) ?_
      refine lv_aload_n hx hb dX10_common_38 rfl (lv_at hl 0 rfl) ?_
      refine q_cvI (As := []) (rest := []) hC hS hl.1 (rX10_marksOfAllPrints hp) cwX10_257 yvX10_marksOfAllPrints (rcv_0 hC hS) rfl rfl (Nat.le_of_ble_eq_true rfl) (rmk (by decide) (by decide)) dX10_common_39 (fun r_6 w_7 H locs hp hS => ?_)
      exact hR _ _ _ _ _ _ dX10_common_42 hp hS
def pX10_alike_71 (k36 : Int32 → Int32 → Int32 → Wd → Prop) (post : Int32 → Wd → Prop) (x3 : Int32) (x4 : Int32) (x5 : Int32) (w : Wd) : Prop := ∀ x5_1, x5_1 = x5 + (1 : Int32) → k36 x3 x4 x5_1 w
def pX10_alike_36 (post : Int32 → Wd → Prop) : Nat → Int32 → Int32 → Int32 → Wd → Prop
  | 0, _, _, _, _ => False
  | n + 1, x3, x4, x5, w => ((w.1 160 0) ≤ x5 → (post x4 w)) ∧ (¬ (w.1 160 0) ≤ x5 → (vp_in x5 24 ∧ (¬ (w.2.1 162 x5.toNatClampNeg) = x3 → (pX10_alike_71 (pX10_alike_36 post n) post x3 x4 x5 w)) ∧ ((w.2.1 162 x5.toNatClampNeg) = x3 → (∀ x4_3, x4_3 = (x4 ||| ((1 : Int32) <<< (x5 &&& 31))) → pX10_alike_71 (pX10_alike_36 post n) post x3 x4_3 x5 w))))
def pX10_alike_29 (post : Int32 → Wd → Prop) (t0 : Int32) (w : Wd) : Prop := ∃ n9, pX10_alike_36 post n9 t0 (0 : Int32) (0 : Int32) w
def pX10_alike (post : Int32 → Wd → Prop) (x1 : Int32) (x2 : Int32) (w : Wd) : Prop := pX10_isRow (fun r_1 w_2 => (¬ r_1 = 0 → ((x2 = 0 → (pX10_alike_29 post x1 w_2)) ∧ (¬ x2 = 0 → (pX10_turn (fun r_5 w_6 => pX10_alike_29 post r_5 w_6) x1 (w_2.1 (rl (w_2.2.2.2.2 0)) 0) w_2)))) ∧ (r_1 = 0 → (post (-1 : Int32) w_2))) x1 w
set_option maxHeartbeats 4000000 in
set_option maxRecDepth 100000 in
theorem bX10_alike_71 {p : Program} {l : Launch} {e : Env} {s : State} {m : MethodId} {args : Array Value} {below : List Frame} {meth : Method} {c : Code} {Q : State → Prop} {A : Nat → Prop} {g : Gw} {post : Int32 → Wd → Prop}  (hC : Cx p s m args c cX10_alike RX10 6 g) (hR : RtI tabX p l e (rk 3) s m args below meth c Q cX10_alike A g post)  {k36 : Int32 → Int32 → Int32 → Wd → Prop} (hk36 : ∀ (x3 : Int32) (x4 : Int32) (x5 : Int32) (w : Wd) (H : Heap) (locs : List Loc) (ls : Array Slot), k36 x3 x4 x5 w → St tabX A s.heap g w H locs → lv_has ls 6 [(0, .ref (g.2.2 0)), (3, .int x3), (4, .int x4), (5, .int x5)] → W p l e (rk 3) s m args below meth c H locs 0 0 Q (F0 m 36 ls [])) : ∀ (x3 : Int32) (x4 : Int32) (x5 : Int32) (w : Wd) (H : Heap) (locs : List Loc) (ls : Array Slot), pX10_alike_71 k36 post x3 x4 x5 w → St tabX A s.heap g w H locs → lv_has ls 6 [(0, .ref (g.2.2 0)), (3, .int x3), (4, .int x4), (5, .int x5)] → W p l e (rk 3) s m args below meth c H locs 0 0 Q (F0 m 71 ls []) := by
  have hx := hC.1
  have hb := hC.2.1
  intro x3 x4 x5 w H locs ls hp hS hl
  unfold pX10_alike_71 at hp
  obtain ⟨x5_1, ex5_1⟩ : ∃ y : Int32, y = x5 + (1 : Int32) := ⟨_, rfl⟩
  have hp := hp x5_1 ex5_1
  refine lv_iinc (v := x5_1) (lv' := [(5, .int x5_1), (0, .ref (g.2.2 0)), (3, .int x3), (4, .int x4)]) hx hb dX10_alike_71 hl (k := 3) rfl (by rw [ex5_1]; rfl) (by decide) rfl (fun ls hl => ?_)
  refine lv_goto (tgt := 36) hx hb dX10_alike_74 (by decide) ?_
  exact hk36 x3 x4 x5_1 w _ _ _ hp hS (lv_sub hl [1, 2, 3, 0] rfl)
set_option maxHeartbeats 4000000 in
set_option maxRecDepth 100000 in
theorem bX10_alike_36 {p : Program} {l : Launch} {e : Env} {s : State} {m : MethodId} {args : Array Value} {below : List Frame} {meth : Method} {c : Code} {Q : State → Prop} {A : Nat → Prop} {g : Gw} {post : Int32 → Wd → Prop}  (hC : Cx p s m args c cX10_alike RX10 6 g) (hR : RtI tabX p l e (rk 3) s m args below meth c Q cX10_alike A g post)  : ∀ (n : Nat) (x3 : Int32) (x4 : Int32) (x5 : Int32) (w : Wd) (H : Heap) (locs : List Loc) (ls : Array Slot), pX10_alike_36 post n x3 x4 x5 w → St tabX A s.heap g w H locs → lv_has ls 6 [(0, .ref (g.2.2 0)), (3, .int x3), (4, .int x4), (5, .int x5)] → W p l e (rk 3) s m args below meth c H locs 0 0 Q (F0 m 36 ls []) := by
  have hx := hC.1
  have hb := hC.2.1
  intro n
  induction n with
  | zero =>
    intro x3 x4 x5 w H locs ls hp hS hl
    exact False.elim hp
  | succ n ih =>
    intro x3 x4 x5 w H locs ls hp hS hl
    unfold pX10_alike_36 at hp
    refine lv_iload hx hb dX10_alike_36 (lv_at hl 3 rfl) ?_
    refine lv_aload_n hx hb dX10_alike_38 rfl (lv_at hl 0 rfl) ?_
    refine G_0_3 hC hS m30 dX10_alike_39 ?_
    refine G_160_0 hC hS m622 dX10_alike_42 ?_
    refine lv_icmp_ge (tgt := 77) hx hb dX10_alike_45 (by decide) (fun c_1 => ?_) (fun c_1 => ?_)
    · have hp := hp.1 c_1
      refine lv_iload hx hb dX10_alike_77 (lv_at hl 2 rfl) ?_
      exact hR _ _ _ _ _ _ dX10_alike_79 hp hS
    · have hp := hp.2 c_1
      refine lv_aload_n hx hb dX10_alike_48 rfl (lv_at hl 0 rfl) ?_
      refine G_0_3 hC hS m30 dX10_alike_49 ?_
      refine G_160_1 hC hS m613 dX10_alike_52 ?_
      refine lv_iload hx hb dX10_alike_55 (lv_at hl 3 rfl) ?_
      refine La_162 hC hS hp.1 dX10_alike_57 ?_
      have hp := hp.2
      refine lv_iload_n hx hb dX10_alike_58 rfl (lv_at hl 1 rfl) ?_
      refine lv_icmp_ne (tgt := 71) hx hb dX10_alike_59 (by decide) (fun c_2 => ?_) (fun c_2 => ?_)
      · have hp := hp.1 c_2
        exact bX10_alike_71 hC hR ih x3 x4 x5 w _ _ _ hp hS (lv_sub hl [0, 1, 2, 3] rfl)
      · have hp := hp.2 c_2
        refine lv_iload hx hb dX10_alike_62 (lv_at hl 2 rfl) ?_
        refine lv_iconst hx hb dX10_alike_64 kI_1 ?_
        refine lv_iload hx hb dX10_alike_65 (lv_at hl 3 rfl) ?_
        refine lv_ishl hx hb dX10_alike_67 ?_
        refine lv_ior hx hb dX10_alike_68 ?_
        refine lv_topi (fun x4_3 ex4_3 => ?_)
        have hp := hp x4_3 ex4_3
        refine lv_istore (lv' := [(4, .int x4_3), (0, .ref (g.2.2 0)), (3, .int x3), (5, .int x5)]) hx hb dX10_alike_69 hl (by decide) rfl (fun ls hl => ?_)
        exact bX10_alike_71 hC hR ih x3 x4_3 x5 w _ _ _ hp hS (lv_sub hl [1, 2, 0, 3] rfl)
set_option maxHeartbeats 4000000 in
set_option maxRecDepth 100000 in
theorem bX10_alike_29 {p : Program} {l : Launch} {e : Env} {s : State} {m : MethodId} {args : Array Value} {below : List Frame} {meth : Method} {c : Code} {Q : State → Prop} {A : Nat → Prop} {g : Gw} {post : Int32 → Wd → Prop}  (hC : Cx p s m args c cX10_alike RX10 6 g) (hR : RtI tabX p l e (rk 3) s m args below meth c Q cX10_alike A g post)  : ∀ (t0 : Int32) (w : Wd) (H : Heap) (locs : List Loc) (ls : Array Slot), pX10_alike_29 post t0 w → St tabX A s.heap g w H locs → lv_has ls 6 [(0, .ref (g.2.2 0))] → W p l e (rk 3) s m args below meth c H locs 0 0 Q (F0 m 29 ls [.int t0]) := by
  have hx := hC.1
  have hb := hC.2.1
  intro t0 w H locs ls hp hS hl
  unfold pX10_alike_29 at hp
  refine lv_istore_n (lv' := [(3, .int t0), (0, .ref (g.2.2 0))]) hx hb dX10_alike_29 rfl hl (by decide) rfl (fun ls hl => ?_)
  refine lv_iconst hx hb dX10_alike_30 kI_0 ?_
  refine lv_istore (lv' := [(4, .int (0 : Int32)), (3, .int t0), (0, .ref (g.2.2 0))]) hx hb dX10_alike_31 hl (by decide) rfl (fun ls hl => ?_)
  refine lv_iconst hx hb dX10_alike_33 kI_0 ?_
  refine lv_istore (lv' := [(5, .int (0 : Int32)), (4, .int (0 : Int32)), (3, .int t0), (0, .ref (g.2.2 0))]) hx hb dX10_alike_34 hl (by decide) rfl (fun ls hl => ?_)
  obtain ⟨n9, hp⟩ := hp
  exact bX10_alike_36 hC hR n9 t0 (0 : Int32) (0 : Int32) w _ _ _ hp hS (lv_sub hl [3, 2, 1, 0] rfl)
set_option maxHeartbeats 4000000 in
set_option maxRecDepth 100000 in
theorem rX10_alike {l : Launch} {g : Gw} {w : Wd} {post : Int32 → Wd → Prop}   {x1 : Int32} {x2 : Int32} (hp : pX10_alike post x1 x2 w) : MtI tabX l yX10_alike cX10_alike 6 (some .int) 3 g w [.ref (g.2.2 0), .int x1, .int x2] post := by
  refine q_entI tabX_nd (by decide) rfl (Nat.le_of_ble_eq_true rfl) ?_
  intro p e s m args below meth c A Q ls hC hR hS hl
  have hx := hC.1
  have hb := hC.2.1
  have hl : lv_has ls 6 [(0, .ref (g.2.2 0)), (1, .int x1), (2, .int x2)] := hl
  unfold pX10_alike at hp
  refine lv_aload_n hx hb dX10_alike_0 rfl (lv_at hl 0 rfl) ?_
  refine lv_iload_n hx hb dX10_alike_1 rfl (lv_at hl 1 rfl) ?_
  refine q_cvI (As := [.int x1]) (rest := []) hC hS hl.1 (rX10_isRow hp) cwX10_180 yvX10_isRow (rcv_0 hC hS) rfl rfl (Nat.le_of_ble_eq_true rfl) (rmk (by decide) (by decide)) dX10_alike_2 (fun r_1 w_2 H locs hp hS => ?_)
  refine lv_if_ne (tgt := 10) hx hb dX10_alike_5 (by decide) (fun c_3 => ?_) (fun c_3 => ?_)
  · have hp := hp.1 c_3
    refine lv_iload_n hx hb dX10_alike_10 rfl (lv_at hl 2 rfl) ?_
    refine lv_if_eq (tgt := 28) hx hb dX10_alike_11 (by decide) (fun c_4 => ?_) (fun c_4 => ?_)
    · have hp := hp.1 c_4
      refine lv_iload_n hx hb dX10_alike_28 rfl (lv_at hl 1 rfl) ?_
      exact bX10_alike_29 hC hR x1 w_2 _ _ _ hp hS (lv_sub hl [0] rfl)
    · have hp := hp.2 c_4
      refine lv_iload_n hx hb dX10_alike_14 rfl (lv_at hl 1 rfl) ?_
      refine lv_aload_n hx hb dX10_alike_15 rfl (lv_at hl 0 rfl) ?_
      refine G_0_16 hC hS m21 dX10_alike_16 ?_
      refine GR_0 hC hS m678 dX10_alike_19 ?_
      refine q_csI (As := [.int x1, .int (w_2.1 (rl (w_2.2.2.2.2 0)) 0)]) (rest := []) hC hS hl.1 (rX10_turn hp) cwX10_186 ysX10_turn rfl rfl (Nat.le_of_ble_eq_true rfl) (rmk (by decide) (by decide)) dX10_alike_22 (fun r_5 w_6 H locs hp hS => ?_)
      refine lv_goto (tgt := 29) hx hb dX10_alike_25 (by decide) ?_
      exact bX10_alike_29 hC hR r_5 w_6 _ _ _ hp hS (lv_sub hl [0] rfl)
  · have hp := hp.2 c_3
    refine lv_iconst hx hb dX10_alike_8 kI_m1 ?_
    exact hR _ _ _ _ _ _ dX10_alike_9 hp hS
def pX10_tellsApart_55 (k15 : Int32 → Int32 → Int32 → Wd → Prop) (post : Int32 → Wd → Prop) (x1 : Int32) (x2 : Int32) (x3 : Int32) (w : Wd) : Prop := ∀ x3_1, x3_1 = x3 + (1 : Int32) → k15 x1 x2 x3_1 w
def pX10_tellsApart_15 (k2 : Int32 → Int32 → Wd → Prop) (post : Int32 → Wd → Prop) : Nat → Int32 → Int32 → Int32 → Wd → Prop
  | 0, _, _, _, _ => False
  | n + 1, x1, x2, x3, w => (x2 ≤ x3 → (∀ x2_2, x2_2 = x2 + (1 : Int32) → k2 x1 x2_2 w)) ∧ (¬ x2 ≤ x3 → (vp_in x2 24 ∧ vp_in x3 24 ∧ ∀ x4_3, x4_3 = ((w.2.1 162 x2.toNatClampNeg) ^^^ (w.2.1 162 x3.toNatClampNeg)) → (x4_3 = 0 → (pX10_tellsApart_55 (pX10_tellsApart_15 k2 post n) post x1 x2 x3 w)) ∧ (¬ x4_3 = 0 → ((¬ (x4_3 &&& x1) = 0 → (pX10_tellsApart_55 (pX10_tellsApart_15 k2 post n) post x1 x2 x3 w)) ∧ ((x4_3 &&& x1) = 0 → (post (0 : Int32) w))))))
def pX10_tellsApart_2 (post : Int32 → Wd → Prop) : Nat → Int32 → Int32 → Wd → Prop
  | 0, _, _, _ => False
  | n + 1, x1, x2, w => ((w.1 160 0) ≤ x2 → (post (1 : Int32) w)) ∧ (¬ (w.1 160 0) ≤ x2 → (∃ n9, pX10_tellsApart_15 (pX10_tellsApart_2 post n) post n9 x1 x2 (0 : Int32) w))
def pX10_tellsApart (post : Int32 → Wd → Prop) (x1 : Int32) (w : Wd) : Prop := ∃ n9, pX10_tellsApart_2 post n9 x1 (1 : Int32) w
set_option maxHeartbeats 4000000 in
set_option maxRecDepth 100000 in
theorem bX10_tellsApart_55 {p : Program} {l : Launch} {e : Env} {s : State} {m : MethodId} {args : Array Value} {below : List Frame} {meth : Method} {c : Code} {Q : State → Prop} {A : Nat → Prop} {g : Gw} {post : Int32 → Wd → Prop}  (hC : Cx p s m args c cX10_tellsApart RX10 5 g) (hR : RtZ tabX p l e (rk 1) s m args below meth c Q cX10_tellsApart A g post)  {k15 : Int32 → Int32 → Int32 → Wd → Prop} (hk15 : ∀ (x1 : Int32) (x2 : Int32) (x3 : Int32) (w : Wd) (H : Heap) (locs : List Loc) (ls : Array Slot), k15 x1 x2 x3 w → St tabX A s.heap g w H locs → lv_has ls 5 [(0, .ref (g.2.2 0)), (1, .int x1), (2, .int x2), (3, .int x3)] → W p l e (rk 1) s m args below meth c H locs 0 0 Q (F0 m 15 ls [])) : ∀ (x1 : Int32) (x2 : Int32) (x3 : Int32) (w : Wd) (H : Heap) (locs : List Loc) (ls : Array Slot), pX10_tellsApart_55 k15 post x1 x2 x3 w → St tabX A s.heap g w H locs → lv_has ls 5 [(0, .ref (g.2.2 0)), (1, .int x1), (2, .int x2), (3, .int x3)] → W p l e (rk 1) s m args below meth c H locs 0 0 Q (F0 m 55 ls []) := by
  have hx := hC.1
  have hb := hC.2.1
  intro x1 x2 x3 w H locs ls hp hS hl
  unfold pX10_tellsApart_55 at hp
  obtain ⟨x3_1, ex3_1⟩ : ∃ y : Int32, y = x3 + (1 : Int32) := ⟨_, rfl⟩
  have hp := hp x3_1 ex3_1
  refine lv_iinc (v := x3_1) (lv' := [(3, .int x3_1), (0, .ref (g.2.2 0)), (1, .int x1), (2, .int x2)]) hx hb dX10_tellsApart_55 hl (k := 3) rfl (by rw [ex3_1]; rfl) (by decide) rfl (fun ls hl => ?_)
  refine lv_goto (tgt := 15) hx hb dX10_tellsApart_58 (by decide) ?_
  exact hk15 x1 x2 x3_1 w _ _ _ hp hS (lv_sub hl [1, 2, 3, 0] rfl)
set_option maxHeartbeats 4000000 in
set_option maxRecDepth 100000 in
theorem bX10_tellsApart_15 {p : Program} {l : Launch} {e : Env} {s : State} {m : MethodId} {args : Array Value} {below : List Frame} {meth : Method} {c : Code} {Q : State → Prop} {A : Nat → Prop} {g : Gw} {post : Int32 → Wd → Prop}  (hC : Cx p s m args c cX10_tellsApart RX10 5 g) (hR : RtZ tabX p l e (rk 1) s m args below meth c Q cX10_tellsApart A g post)  {k2 : Int32 → Int32 → Wd → Prop} (hk2 : ∀ (x1 : Int32) (x2 : Int32) (w : Wd) (H : Heap) (locs : List Loc) (ls : Array Slot), k2 x1 x2 w → St tabX A s.heap g w H locs → lv_has ls 5 [(0, .ref (g.2.2 0)), (1, .int x1), (2, .int x2)] → W p l e (rk 1) s m args below meth c H locs 0 0 Q (F0 m 2 ls [])) : ∀ (n : Nat) (x1 : Int32) (x2 : Int32) (x3 : Int32) (w : Wd) (H : Heap) (locs : List Loc) (ls : Array Slot), pX10_tellsApart_15 k2 post n x1 x2 x3 w → St tabX A s.heap g w H locs → lv_has ls 5 [(0, .ref (g.2.2 0)), (1, .int x1), (2, .int x2), (3, .int x3)] → W p l e (rk 1) s m args below meth c H locs 0 0 Q (F0 m 15 ls []) := by
  have hx := hC.1
  have hb := hC.2.1
  intro n
  induction n with
  | zero =>
    intro x1 x2 x3 w H locs ls hp hS hl
    exact False.elim hp
  | succ n ih =>
    intro x1 x2 x3 w H locs ls hp hS hl
    unfold pX10_tellsApart_15 at hp
    refine lv_iload_n hx hb dX10_tellsApart_15 rfl (lv_at hl 3 rfl) ?_
    refine lv_iload_n hx hb dX10_tellsApart_16 rfl (lv_at hl 2 rfl) ?_
    refine lv_icmp_ge (tgt := 61) hx hb dX10_tellsApart_17 (by decide) (fun c_1 => ?_) (fun c_1 => ?_)
    · have hp := hp.1 c_1
      obtain ⟨x2_2, ex2_2⟩ : ∃ y : Int32, y = x2 + (1 : Int32) := ⟨_, rfl⟩
      have hp := hp x2_2 ex2_2
      refine lv_iinc (v := x2_2) (lv' := [(2, .int x2_2), (0, .ref (g.2.2 0)), (1, .int x1), (3, .int x3)]) hx hb dX10_tellsApart_61 hl (k := 2) rfl (by rw [ex2_2]; rfl) (by decide) rfl (fun ls hl => ?_)
      refine lv_goto (tgt := 2) hx hb dX10_tellsApart_64 (by decide) ?_
      exact hk2 x1 x2_2 w _ _ _ hp hS (lv_sub hl [1, 2, 0] rfl)
    · have hp := hp.2 c_1
      refine lv_aload_n hx hb dX10_tellsApart_20 rfl (lv_at hl 0 rfl) ?_
      refine G_0_3 hC hS m30 dX10_tellsApart_21 ?_
      refine G_160_1 hC hS m613 dX10_tellsApart_24 ?_
      refine lv_iload_n hx hb dX10_tellsApart_27 rfl (lv_at hl 2 rfl) ?_
      refine La_162 hC hS hp.1 dX10_tellsApart_28 ?_
      have hp := hp.2
      refine lv_aload_n hx hb dX10_tellsApart_29 rfl (lv_at hl 0 rfl) ?_
      refine G_0_3 hC hS m30 dX10_tellsApart_30 ?_
      refine G_160_1 hC hS m613 dX10_tellsApart_33 ?_
      refine lv_iload_n hx hb dX10_tellsApart_36 rfl (lv_at hl 3 rfl) ?_
      refine La_162 hC hS hp.1 dX10_tellsApart_37 ?_
      have hp := hp.2
      refine lv_ixor hx hb dX10_tellsApart_38 ?_
      refine lv_topi (fun x4_3 ex4_3 => ?_)
      have hp := hp x4_3 ex4_3
      refine lv_istore (lv' := [(4, .int x4_3), (0, .ref (g.2.2 0)), (1, .int x1), (2, .int x2), (3, .int x3)]) hx hb dX10_tellsApart_39 hl (by decide) rfl (fun ls hl => ?_)
      refine lv_iload hx hb dX10_tellsApart_41 (lv_at hl 0 rfl) ?_
      refine lv_if_eq (tgt := 55) hx hb dX10_tellsApart_43 (by decide) (fun c_4 => ?_) (fun c_4 => ?_)
      · have hp := hp.1 c_4
        exact bX10_tellsApart_55 hC hR ih x1 x2 x3 w _ _ _ hp hS (lv_sub hl [1, 2, 3, 4] rfl)
      · have hp := hp.2 c_4
        refine lv_iload hx hb dX10_tellsApart_46 (lv_at hl 0 rfl) ?_
        refine lv_iload_n hx hb dX10_tellsApart_48 rfl (lv_at hl 2 rfl) ?_
        refine lv_iand hx hb dX10_tellsApart_49 ?_
        refine lv_if_ne (tgt := 55) hx hb dX10_tellsApart_50 (by decide) (fun c_5 => ?_) (fun c_5 => ?_)
        · have hp := hp.1 c_5
          exact bX10_tellsApart_55 hC hR ih x1 x2 x3 w _ _ _ hp hS (lv_sub hl [1, 2, 3, 4] rfl)
        · have hp := hp.2 c_5
          refine lv_iconst hx hb dX10_tellsApart_53 kI_0 ?_
          exact hR _ _ _ _ _ _ dX10_tellsApart_54 (by decide) hp hS
set_option maxHeartbeats 4000000 in
set_option maxRecDepth 100000 in
theorem bX10_tellsApart_2 {p : Program} {l : Launch} {e : Env} {s : State} {m : MethodId} {args : Array Value} {below : List Frame} {meth : Method} {c : Code} {Q : State → Prop} {A : Nat → Prop} {g : Gw} {post : Int32 → Wd → Prop}  (hC : Cx p s m args c cX10_tellsApart RX10 5 g) (hR : RtZ tabX p l e (rk 1) s m args below meth c Q cX10_tellsApart A g post)  : ∀ (n : Nat) (x1 : Int32) (x2 : Int32) (w : Wd) (H : Heap) (locs : List Loc) (ls : Array Slot), pX10_tellsApart_2 post n x1 x2 w → St tabX A s.heap g w H locs → lv_has ls 5 [(0, .ref (g.2.2 0)), (1, .int x1), (2, .int x2)] → W p l e (rk 1) s m args below meth c H locs 0 0 Q (F0 m 2 ls []) := by
  have hx := hC.1
  have hb := hC.2.1
  intro n
  induction n with
  | zero =>
    intro x1 x2 w H locs ls hp hS hl
    exact False.elim hp
  | succ n ih =>
    intro x1 x2 w H locs ls hp hS hl
    unfold pX10_tellsApart_2 at hp
    refine lv_iload_n hx hb dX10_tellsApart_2 rfl (lv_at hl 2 rfl) ?_
    refine lv_aload_n hx hb dX10_tellsApart_3 rfl (lv_at hl 0 rfl) ?_
    refine G_0_3 hC hS m30 dX10_tellsApart_4 ?_
    refine G_160_0 hC hS m622 dX10_tellsApart_7 ?_
    refine lv_icmp_ge (tgt := 67) hx hb dX10_tellsApart_10 (by decide) (fun c_1 => ?_) (fun c_1 => ?_)
    · have hp := hp.1 c_1
      refine lv_iconst hx hb dX10_tellsApart_67 kI_1 ?_
      exact hR _ _ _ _ _ _ dX10_tellsApart_68 (by decide) hp hS
    · have hp := hp.2 c_1
      refine lv_iconst hx hb dX10_tellsApart_13 kI_0 ?_
      refine lv_istore_n (lv' := [(3, .int (0 : Int32)), (0, .ref (g.2.2 0)), (1, .int x1), (2, .int x2)]) hx hb dX10_tellsApart_14 rfl hl (by decide) rfl (fun ls hl => ?_)
      obtain ⟨n9, hp⟩ := hp
      exact bX10_tellsApart_15 hC hR ih n9 x1 x2 (0 : Int32) w _ _ _ hp hS (lv_sub hl [1, 2, 3, 0] rfl)
set_option maxHeartbeats 4000000 in
set_option maxRecDepth 100000 in
theorem rX10_tellsApart {l : Launch} {g : Gw} {w : Wd} {post : Int32 → Wd → Prop}   {x1 : Int32} (hp : pX10_tellsApart post x1 w) : MtI tabX l yX10_tellsApart cX10_tellsApart 5 (some .boolean) 1 g w [.ref (g.2.2 0), .int x1] post := by
  refine q_entZ tabX_nd (by decide) rfl (Nat.le_of_ble_eq_true rfl) ?_
  intro p e s m args below meth c A Q ls hC hR hS hl
  have hx := hC.1
  have hb := hC.2.1
  have hl : lv_has ls 5 [(0, .ref (g.2.2 0)), (1, .int x1)] := hl
  unfold pX10_tellsApart at hp
  refine lv_iconst hx hb dX10_tellsApart_0 kI_1 ?_
  refine lv_istore_n (lv' := [(2, .int (1 : Int32)), (0, .ref (g.2.2 0)), (1, .int x1)]) hx hb dX10_tellsApart_1 rfl hl (by decide) rfl (fun ls hl => ?_)
  obtain ⟨n9, hp⟩ := hp
  exact bX10_tellsApart_2 hC hR n9 x1 (1 : Int32) w _ _ _ hp hS (lv_sub hl [1, 2, 0] rfl)
def pX4_lay (post : Wd → Prop) (x1 : Int32) (w : Wd) : Prop := ((w.1 110 1) < 0 → (post w)) ∧ (¬ (w.1 110 1) < 0 → (((16 : Int32) ≤ (w.1 110 1) → (post w)) ∧ (¬ (16 : Int32) ≤ (w.1 110 1) → (vp_in (w.1 110 1) 16 ∧ ∀ w_3, w_3 = sA w 111 (w.1 110 1).toNatClampNeg x1 → ∀ w_4, w_4 = sI w_3 110 1 ((w_3.1 110 1) + (1 : Int32)) → post w_4))))
set_option maxHeartbeats 4000000 in
set_option maxRecDepth 100000 in
theorem rX4_lay {l : Launch} {g : Gw} {w : Wd} {post : Wd → Prop}   {x1 : Int32} (hp : pX4_lay post x1 w) : MtV tabX l yX4_lay cX4_lay 2 none 1 g w [.ref (g.2.2 110), .int x1] post := by
  refine q_entV tabX_nd (by decide) rfl (Nat.le_of_ble_eq_true rfl) ?_
  intro p e s m args below meth c A Q ls hC hR hS hl
  have hx := hC.1
  have hb := hC.2.1
  have hl : lv_has ls 2 [(0, .ref (g.2.2 110)), (1, .int x1)] := hl
  unfold pX4_lay at hp
  refine lv_aload_n hx hb dX4_lay_0 rfl (lv_at hl 0 rfl) ?_
  refine G_110_1 hC hS m1071 dX4_lay_1 ?_
  refine lv_if_lt (tgt := 39) hx hb dX4_lay_4 (by decide) (fun c_1 => ?_) (fun c_1 => ?_)
  · have hp := hp.1 c_1
    exact hR _ _ _ _ _ dX4_lay_39 hp hS
  · have hp := hp.2 c_1
    refine lv_aload_n hx hb dX4_lay_7 rfl (lv_at hl 0 rfl) ?_
    refine G_110_1 hC hS m1071 dX4_lay_8 ?_
    refine lv_aload_n hx hb dX4_lay_11 rfl (lv_at hl 0 rfl) ?_
    refine G_110_0 hC hS m217 dX4_lay_12 ?_
    refine Na_111 hC hS dX4_lay_15 ?_
    refine lv_icmp_ge (tgt := 39) hx hb dX4_lay_16 (by decide) (fun c_2 => ?_) (fun c_2 => ?_)
    · have hp := hp.1 c_2
      exact hR _ _ _ _ _ dX4_lay_39 hp hS
    · have hp := hp.2 c_2
      refine lv_aload_n hx hb dX4_lay_19 rfl (lv_at hl 0 rfl) ?_
      refine G_110_0 hC hS m217 dX4_lay_20 ?_
      refine lv_aload_n hx hb dX4_lay_23 rfl (lv_at hl 0 rfl) ?_
      refine G_110_1 hC hS m1071 dX4_lay_24 ?_
      refine lv_iload_n hx hb dX4_lay_27 rfl (lv_at hl 1 rfl) ?_
      refine Sa_111 hC hS hp.1 dX4_lay_28 (fun w_3 H locs ew_3 hS => ?_)
      have hp := hp.2
      have hp := hp w_3 ew_3
      refine lv_aload_n hx hb dX4_lay_29 rfl (lv_at hl 0 rfl) ?_
      refine lv_dup hx hb dX4_lay_30 rfl ?_
      refine G_110_1 hC hS m1071 dX4_lay_31 ?_
      refine lv_iconst hx hb dX4_lay_34 kI_1 ?_
      refine lv_iadd hx hb dX4_lay_35 ?_
      refine P_110_1 hC hS m1071 dX4_lay_36 (fun w_4 H locs ew_4 hS => ?_)
      have hp := hp w_4 ew_4
      exact hR _ _ _ _ _ dX4_lay_39 hp hS
