def pX11_feed_71 (k18 : Int32 → Int32 → Int32 → Int32 → Int32 → Int32 → Wd → Prop) (post : Int32 → Wd → Prop) (x1 : Int32) (x2 : Int32) (x3 : Int32) (x4 : Int32) (x5 : Int32) (x6 : Int32) (t0 : Int32) (w : Wd) : Prop := vp_in ((w.1 300 2) + x6) 1620 ∧ ∀ w_1, w_1 = sA w 301 ((w.1 300 2) + x6).toNatClampNeg (vp_nar .byte (((t0 >>> (((24 : Int32) - ((8 : Int32) * (x6 &&& (3 : Int32)))) &&& 31))).toInt8.toInt32)) → ∀ x6_2, x6_2 = x6 + (1 : Int32) → k18 x1 x2 x3 x4 x5 x6_2 w_1
def pX11_feed_18 (post : Int32 → Wd → Prop) : Nat → Int32 → Int32 → Int32 → Int32 → Int32 → Int32 → Wd → Prop
  | 0, _, _, _, _, _, _, _ => False
  | n + 1, x1, x2, x3, x4, x5, x6, w => ((20 : Int32) ≤ x6 → (∀ w_2, w_2 = sI w 300 2 ((w.1 300 2) + (20 : Int32)) → post (w_2.1 300 2) w_2)) ∧ (¬ (20 : Int32) ≤ x6 → (((4 : Int32) ≤ x6 → (((8 : Int32) ≤ x6 → (((12 : Int32) ≤ x6 → (((16 : Int32) ≤ x6 → (pX11_feed_71 (pX11_feed_18 post n) post x1 x2 x3 x4 x5 x6 x5 w)) ∧ (¬ (16 : Int32) ≤ x6 → (pX11_feed_71 (pX11_feed_18 post n) post x1 x2 x3 x4 x5 x6 x4 w)))) ∧ (¬ (12 : Int32) ≤ x6 → (pX11_feed_71 (pX11_feed_18 post n) post x1 x2 x3 x4 x5 x6 x3 w)))) ∧ (¬ (8 : Int32) ≤ x6 → (pX11_feed_71 (pX11_feed_18 post n) post x1 x2 x3 x4 x5 x6 x2 w)))) ∧ (¬ (4 : Int32) ≤ x6 → (pX11_feed_71 (pX11_feed_18 post n) post x1 x2 x3 x4 x5 x6 x1 w))))
def pX11_feed (post : Int32 → Wd → Prop) (x1 : Int32) (x2 : Int32) (x3 : Int32) (x4 : Int32) (x5 : Int32) (w : Wd) : Prop := (((w.1 300 2) + (20 : Int32)) ≤ (1600 : Int32) → (∃ n9, pX11_feed_18 post n9 x1 x2 x3 x4 x5 (0 : Int32) w)) ∧ (¬ ((w.1 300 2) + (20 : Int32)) ≤ (1600 : Int32) → (post (-1 : Int32) w))
set_option maxHeartbeats 4000000 in
set_option maxRecDepth 100000 in
theorem bX11_feed_71 {p : Program} {l : Launch} {e : Env} {s : State} {m : MethodId} {args : Array Value} {below : List Frame} {meth : Method} {c : Code} {Q : State → Prop} {A : Nat → Prop} {g : Gw} {post : Int32 → Wd → Prop}  (hC : Cx p s m args c cX11_feed RX11 8 g) (hR : RtI tabM p l e (rk 1) s m args below meth c Q cX11_feed A g post)  {k18 : Int32 → Int32 → Int32 → Int32 → Int32 → Int32 → Wd → Prop} (hk18 : ∀ (x1 : Int32) (x2 : Int32) (x3 : Int32) (x4 : Int32) (x5 : Int32) (x6 : Int32) (w : Wd) (H : Heap) (locs : List Loc) (ls : Array Slot), k18 x1 x2 x3 x4 x5 x6 w → St tabM A s.heap g w H locs → lv_has ls 8 [(0, .ref (g.2.2 300)), (1, .int x1), (2, .int x2), (3, .int x3), (4, .int x4), (5, .int x5), (6, .int x6)] → W p l e (rk 1) s m args below meth c H locs 0 0 Q (F0 m 18 ls [])) : ∀ (x1 : Int32) (x2 : Int32) (x3 : Int32) (x4 : Int32) (x5 : Int32) (x6 : Int32) (t0 : Int32) (w : Wd) (H : Heap) (locs : List Loc) (ls : Array Slot), pX11_feed_71 k18 post x1 x2 x3 x4 x5 x6 t0 w → St tabM A s.heap g w H locs → lv_has ls 8 [(0, .ref (g.2.2 300)), (1, .int x1), (2, .int x2), (3, .int x3), (4, .int x4), (5, .int x5), (6, .int x6)] → W p l e (rk 1) s m args below meth c H locs 0 0 Q (F0 m 71 ls [.int t0]) := by
  have hx := hC.1
  have hb := hC.2.1
  intro x1 x2 x3 x4 x5 x6 t0 w H locs ls hp hS hl
  unfold pX11_feed_71 at hp
  refine lv_istore (lv' := [(7, .int t0), (0, .ref (g.2.2 300)), (1, .int x1), (2, .int x2), (3, .int x3), (4, .int x4), (5, .int x5), (6, .int x6)]) hx hb dX11_feed_71 hl (by decide) rfl (fun ls hl => ?_)
  refine lv_aload_n hx hb dX11_feed_73 rfl (lv_at hl 1 rfl) ?_
  refine G_300_0 hC hS m253 dX11_feed_74 ?_
  refine lv_aload_n hx hb dX11_feed_77 rfl (lv_at hl 1 rfl) ?_
  refine G_300_2 hC hS m325 dX11_feed_78 ?_
  refine lv_iload hx hb dX11_feed_81 (lv_at hl 7 rfl) ?_
  refine lv_iadd hx hb dX11_feed_83 ?_
  refine lv_iload hx hb dX11_feed_84 (lv_at hl 0 rfl) ?_
  refine lv_bipush hx hb dX11_feed_86 kB_24 ?_
  refine lv_bipush hx hb dX11_feed_88 kB_8 ?_
  refine lv_iload hx hb dX11_feed_90 (lv_at hl 7 rfl) ?_
  refine lv_iconst hx hb dX11_feed_92 kI_3 ?_
  refine lv_iand hx hb dX11_feed_93 ?_
  refine lv_imul hx hb dX11_feed_94 ?_
  refine lv_isub hx hb dX11_feed_95 ?_
  refine lv_ishr hx hb dX11_feed_96 ?_
  refine lv_i2b hx hb dX11_feed_97 rfl ?_
  refine Sa_301 hC hS hp.1 dX11_feed_98 (fun w_1 H locs ew_1 hS => ?_)
  have hp := hp.2
  have hp := hp w_1 ew_1
  obtain ⟨x6_2, ex6_2⟩ : ∃ y : Int32, y = x6 + (1 : Int32) := ⟨_, rfl⟩
  have hp := hp x6_2 ex6_2
  refine lv_iinc (v := x6_2) (lv' := [(6, .int x6_2), (7, .int t0), (0, .ref (g.2.2 300)), (1, .int x1), (2, .int x2), (3, .int x3), (4, .int x4), (5, .int x5)]) hx hb dX11_feed_99 hl (k := 7) rfl (by rw [ex6_2]; rfl) (by decide) rfl (fun ls hl => ?_)
  refine lv_goto (tgt := 18) hx hb dX11_feed_102 (by decide) ?_
  exact hk18 x1 x2 x3 x4 x5 x6_2 w_1 _ _ _ hp hS (lv_sub hl [2, 3, 4, 5, 6, 7, 0] rfl)
set_option maxHeartbeats 4000000 in
set_option maxRecDepth 100000 in
theorem bX11_feed_18 {p : Program} {l : Launch} {e : Env} {s : State} {m : MethodId} {args : Array Value} {below : List Frame} {meth : Method} {c : Code} {Q : State → Prop} {A : Nat → Prop} {g : Gw} {post : Int32 → Wd → Prop}  (hC : Cx p s m args c cX11_feed RX11 8 g) (hR : RtI tabM p l e (rk 1) s m args below meth c Q cX11_feed A g post)  : ∀ (n : Nat) (x1 : Int32) (x2 : Int32) (x3 : Int32) (x4 : Int32) (x5 : Int32) (x6 : Int32) (w : Wd) (H : Heap) (locs : List Loc) (ls : Array Slot), pX11_feed_18 post n x1 x2 x3 x4 x5 x6 w → St tabM A s.heap g w H locs → lv_has ls 8 [(0, .ref (g.2.2 300)), (1, .int x1), (2, .int x2), (3, .int x3), (4, .int x4), (5, .int x5), (6, .int x6)] → W p l e (rk 1) s m args below meth c H locs 0 0 Q (F0 m 18 ls []) := by
  have hx := hC.1
  have hb := hC.2.1
  intro n
  induction n with
  | zero =>
    intro x1 x2 x3 x4 x5 x6 w H locs ls hp hS hl
    exact False.elim hp
  | succ n ih =>
    intro x1 x2 x3 x4 x5 x6 w H locs ls hp hS hl
    unfold pX11_feed_18 at hp
    refine lv_iload hx hb dX11_feed_18 (lv_at hl 6 rfl) ?_
    refine lv_bipush hx hb dX11_feed_20 kB_20 ?_
    refine lv_icmp_ge (tgt := 105) hx hb dX11_feed_22 (by decide) (fun c_1 => ?_) (fun c_1 => ?_)
    · have hp := hp.1 c_1
      refine lv_aload_n hx hb dX11_feed_105 rfl (lv_at hl 0 rfl) ?_
      refine lv_dup hx hb dX11_feed_106 rfl ?_
      refine G_300_2 hC hS m325 dX11_feed_107 ?_
      refine lv_bipush hx hb dX11_feed_110 kB_20 ?_
      refine lv_iadd hx hb dX11_feed_112 ?_
      refine P_300_2 hC hS m325 dX11_feed_113 (fun w_2 H locs ew_2 hS => ?_)
      have hp := hp w_2 ew_2
      refine lv_aload_n hx hb dX11_feed_116 rfl (lv_at hl 0 rfl) ?_
      refine G_300_2 hC hS m325 dX11_feed_117 ?_
      exact hR _ _ _ _ _ _ dX11_feed_120 hp hS
    · have hp := hp.2 c_1
      refine lv_iload hx hb dX11_feed_25 (lv_at hl 6 rfl) ?_
      refine lv_iconst hx hb dX11_feed_27 kI_4 ?_
      refine lv_icmp_ge (tgt := 35) hx hb dX11_feed_28 (by decide) (fun c_3 => ?_) (fun c_3 => ?_)
      · have hp := hp.1 c_3
        refine lv_iload hx hb dX11_feed_35 (lv_at hl 6 rfl) ?_
        refine lv_bipush hx hb dX11_feed_37 kB_8 ?_
        refine lv_icmp_ge (tgt := 46) hx hb dX11_feed_39 (by decide) (fun c_4 => ?_) (fun c_4 => ?_)
        · have hp := hp.1 c_4
          refine lv_iload hx hb dX11_feed_46 (lv_at hl 6 rfl) ?_
          refine lv_bipush hx hb dX11_feed_48 kB_12 ?_
          refine lv_icmp_ge (tgt := 57) hx hb dX11_feed_50 (by decide) (fun c_5 => ?_) (fun c_5 => ?_)
          · have hp := hp.1 c_5
            refine lv_iload hx hb dX11_feed_57 (lv_at hl 6 rfl) ?_
            refine lv_bipush hx hb dX11_feed_59 kB_16 ?_
            refine lv_icmp_ge (tgt := 69) hx hb dX11_feed_61 (by decide) (fun c_6 => ?_) (fun c_6 => ?_)
            · have hp := hp.1 c_6
              refine lv_iload hx hb dX11_feed_69 (lv_at hl 5 rfl) ?_
              exact bX11_feed_71 hC hR ih x1 x2 x3 x4 x5 x6 x5 w _ _ _ hp hS (lv_sub hl [0, 1, 2, 3, 4, 5, 6] rfl)
            · have hp := hp.2 c_6
              refine lv_iload hx hb dX11_feed_64 (lv_at hl 4 rfl) ?_
              refine lv_goto (tgt := 71) hx hb dX11_feed_66 (by decide) ?_
              exact bX11_feed_71 hC hR ih x1 x2 x3 x4 x5 x6 x4 w _ _ _ hp hS (lv_sub hl [0, 1, 2, 3, 4, 5, 6] rfl)
          · have hp := hp.2 c_5
            refine lv_iload_n hx hb dX11_feed_53 rfl (lv_at hl 3 rfl) ?_
            refine lv_goto (tgt := 71) hx hb dX11_feed_54 (by decide) ?_
            exact bX11_feed_71 hC hR ih x1 x2 x3 x4 x5 x6 x3 w _ _ _ hp hS (lv_sub hl [0, 1, 2, 3, 4, 5, 6] rfl)
        · have hp := hp.2 c_4
          refine lv_iload_n hx hb dX11_feed_42 rfl (lv_at hl 2 rfl) ?_
          refine lv_goto (tgt := 71) hx hb dX11_feed_43 (by decide) ?_
          exact bX11_feed_71 hC hR ih x1 x2 x3 x4 x5 x6 x2 w _ _ _ hp hS (lv_sub hl [0, 1, 2, 3, 4, 5, 6] rfl)
      · have hp := hp.2 c_3
        refine lv_iload_n hx hb dX11_feed_31 rfl (lv_at hl 1 rfl) ?_
        refine lv_goto (tgt := 71) hx hb dX11_feed_32 (by decide) ?_
        exact bX11_feed_71 hC hR ih x1 x2 x3 x4 x5 x6 x1 w _ _ _ hp hS (lv_sub hl [0, 1, 2, 3, 4, 5, 6] rfl)
set_option maxHeartbeats 4000000 in
set_option maxRecDepth 100000 in
theorem rX11_feed {l : Launch} {g : Gw} {w : Wd} {post : Int32 → Wd → Prop}   {x1 : Int32} {x2 : Int32} {x3 : Int32} {x4 : Int32} {x5 : Int32} (hp : pX11_feed post x1 x2 x3 x4 x5 w) : MtI tabM l yX11_feed cX11_feed 8 (some .int) 1 g w [.ref (g.2.2 300), .int x1, .int x2, .int x3, .int x4, .int x5] post := by
  refine q_entI tabM_nd (by decide) rfl (Nat.le_of_ble_eq_true rfl) ?_
  intro p e s m args below meth c A Q ls hC hR hS hl
  have hx := hC.1
  have hb := hC.2.1
  have hl : lv_has ls 8 [(0, .ref (g.2.2 300)), (1, .int x1), (2, .int x2), (3, .int x3), (4, .int x4), (5, .int x5)] := hl
  unfold pX11_feed at hp
  refine lv_aload_n hx hb dX11_feed_0 rfl (lv_at hl 0 rfl) ?_
  refine G_300_2 hC hS m325 dX11_feed_1 ?_
  refine lv_bipush hx hb dX11_feed_4 kB_20 ?_
  refine lv_iadd hx hb dX11_feed_6 ?_
  refine lv_sipush hx hb dX11_feed_7 kS_1600 ?_
  refine lv_icmp_le (tgt := 15) hx hb dX11_feed_10 (by decide) (fun c_1 => ?_) (fun c_1 => ?_)
  · have hp := hp.1 c_1
    refine lv_iconst hx hb dX11_feed_15 kI_0 ?_
    refine lv_istore (lv' := [(6, .int (0 : Int32)), (0, .ref (g.2.2 300)), (1, .int x1), (2, .int x2), (3, .int x3), (4, .int x4), (5, .int x5)]) hx hb dX11_feed_16 hl (by decide) rfl (fun ls hl => ?_)
    obtain ⟨n9, hp⟩ := hp
    exact bX11_feed_18 hC hR n9 x1 x2 x3 x4 x5 (0 : Int32) w _ _ _ hp hS (lv_sub hl [1, 2, 3, 4, 5, 6, 0] rfl)
  · have hp := hp.2 c_1
    refine lv_iconst hx hb dX11_feed_13 kI_m1 ?_
    exact hR _ _ _ _ _ _ dX11_feed_14 hp hS
def pX11_end (post : Int32 → Wd → Prop) (x1 : Int32) (w : Wd) : Prop := (x1 < 0 → (post (-1 : Int32) w)) ∧ (¬ x1 < 0 → ((x1 ≤ (w.1 300 2) → (∀ w_3, w_3 = sI w 300 2 x1 → post x1 w_3)) ∧ (¬ x1 ≤ (w.1 300 2) → (post (-1 : Int32) w))))
set_option maxHeartbeats 4000000 in
set_option maxRecDepth 100000 in
theorem rX11_end {l : Launch} {g : Gw} {w : Wd} {post : Int32 → Wd → Prop}   {x1 : Int32} (hp : pX11_end post x1 w) : MtI tabM l yX11_end cX11_end 2 (some .int) 1 g w [.ref (g.2.2 300), .int x1] post := by
  refine q_entI tabM_nd (by decide) rfl (Nat.le_of_ble_eq_true rfl) ?_
  intro p e s m args below meth c A Q ls hC hR hS hl
  have hx := hC.1
  have hb := hC.2.1
  have hl : lv_has ls 2 [(0, .ref (g.2.2 300)), (1, .int x1)] := hl
  unfold pX11_end at hp
  refine lv_iload_n hx hb dX11_end_0 rfl (lv_at hl 1 rfl) ?_
  refine lv_if_lt (tgt := 12) hx hb dX11_end_1 (by decide) (fun c_1 => ?_) (fun c_1 => ?_)
  · have hp := hp.1 c_1
    refine lv_iconst hx hb dX11_end_12 kI_m1 ?_
    exact hR _ _ _ _ _ _ dX11_end_13 hp hS
  · have hp := hp.2 c_1
    refine lv_iload_n hx hb dX11_end_4 rfl (lv_at hl 1 rfl) ?_
    refine lv_aload_n hx hb dX11_end_5 rfl (lv_at hl 0 rfl) ?_
    refine G_300_2 hC hS m325 dX11_end_6 ?_
    refine lv_icmp_le (tgt := 14) hx hb dX11_end_9 (by decide) (fun c_2 => ?_) (fun c_2 => ?_)
    · have hp := hp.1 c_2
      refine lv_aload_n hx hb dX11_end_14 rfl (lv_at hl 0 rfl) ?_
      refine lv_iload_n hx hb dX11_end_15 rfl (lv_at hl 1 rfl) ?_
      refine P_300_2 hC hS m325 dX11_end_16 (fun w_3 H locs ew_3 hS => ?_)
      have hp := hp w_3 ew_3
      refine lv_iload_n hx hb dX11_end_19 rfl (lv_at hl 1 rfl) ?_
      exact hR _ _ _ _ _ _ dX11_end_20 hp hS
    · have hp := hp.2 c_2
      refine lv_iconst hx hb dX11_end_12 kI_m1 ?_
      exact hR _ _ _ _ _ _ dX11_end_13 hp hS
def pX11_clearBank (post : Wd → Prop)  (w : Wd) : Prop := vp_in (w.1 300 30) 2 ∧ ∀ w_1, w_1 = sA w 312 (w.1 300 30).toNatClampNeg (8 : Int32) → vp_in (w_1.1 300 30) 2 ∧ ∀ w_2, w_2 = sA w_1 313 (w_1.1 300 30).toNatClampNeg (0 : Int32) → vp_in (w_2.1 300 30) 2 ∧ ∀ w_3, w_3 = sA w_2 314 (w_2.1 300 30).toNatClampNeg (0 : Int32) → vp_in (w_3.1 300 30) 2 ∧ ∀ w_4, w_4 = sA w_3 315 (w_3.1 300 30).toNatClampNeg (0 : Int32) → vp_in (w_4.1 300 30) 2 ∧ ∀ w_5, w_5 = sA w_4 316 (w_4.1 300 30).toNatClampNeg (100 : Int32) → vp_in (w_5.1 300 30) 2 ∧ ∀ w_6, w_6 = sA w_5 317 (w_5.1 300 30).toNatClampNeg (0 : Int32) → vp_in (w_6.1 300 30) 2 ∧ ∀ w_7, w_7 = sA w_6 318 (w_6.1 300 30).toNatClampNeg (0 : Int32) → vp_in (w_7.1 300 30) 2 ∧ ∀ w_8, w_8 = sA w_7 321 (w_7.1 300 30).toNatClampNeg (vp_nar .boolean (0 : Int32)) → vp_in (w_8.1 300 30) 2 ∧ ∀ w_9, w_9 = sA w_8 322 (w_8.1 300 30).toNatClampNeg (vp_nar .boolean (0 : Int32)) → vp_in (w_9.1 300 30) 2 ∧ ∀ w_10, w_10 = sA w_9 323 (w_9.1 300 30).toNatClampNeg (vp_nar .boolean (0 : Int32)) → ∀ w_11, w_11 = sI w_10 300 31 ((560 : Int32) * (w_10.1 300 30)) → post w_11
set_option maxHeartbeats 4000000 in
set_option maxRecDepth 100000 in
theorem rX11_clearBank {l : Launch} {g : Gw} {w : Wd} {post : Wd → Prop}    (hp : pX11_clearBank post  w) : MtV tabM l yX11_clearBank cX11_clearBank 1 none 1 g w [.ref (g.2.2 300)] post := by
  refine q_entV tabM_nd (by decide) rfl (Nat.le_of_ble_eq_true rfl) ?_
  intro p e s m args below meth c A Q ls hC hR hS hl
  have hx := hC.1
  have hb := hC.2.1
  have hl : lv_has ls 1 [(0, .ref (g.2.2 300))] := hl
  unfold pX11_clearBank at hp
  refine lv_aload_n hx hb dX11_clearBank_0 rfl (lv_at hl 0 rfl) ?_
  refine G_300_11 hC hS m256 dX11_clearBank_1 ?_
  refine lv_aload_n hx hb dX11_clearBank_4 rfl (lv_at hl 0 rfl) ?_
  refine G_300_30 hC hS m302 dX11_clearBank_5 ?_
  refine lv_bipush hx hb dX11_clearBank_8 kB_8 ?_
  refine Sa_312 hC hS hp.1 dX11_clearBank_10 (fun w_1 H locs ew_1 hS => ?_)
  have hp := hp.2
  have hp := hp w_1 ew_1
  refine lv_aload_n hx hb dX11_clearBank_11 rfl (lv_at hl 0 rfl) ?_
  refine G_300_12 hC hS m257 dX11_clearBank_12 ?_
  refine lv_aload_n hx hb dX11_clearBank_15 rfl (lv_at hl 0 rfl) ?_
  refine G_300_30 hC hS m302 dX11_clearBank_16 ?_
  refine lv_iconst hx hb dX11_clearBank_19 kI_0 ?_
  refine Sa_313 hC hS hp.1 dX11_clearBank_20 (fun w_2 H locs ew_2 hS => ?_)
  have hp := hp.2
  have hp := hp w_2 ew_2
  refine lv_aload_n hx hb dX11_clearBank_21 rfl (lv_at hl 0 rfl) ?_
  refine G_300_13 hC hS m258 dX11_clearBank_22 ?_
  refine lv_aload_n hx hb dX11_clearBank_25 rfl (lv_at hl 0 rfl) ?_
  refine G_300_30 hC hS m302 dX11_clearBank_26 ?_
  refine lv_iconst hx hb dX11_clearBank_29 kI_0 ?_
  refine Sa_314 hC hS hp.1 dX11_clearBank_30 (fun w_3 H locs ew_3 hS => ?_)
  have hp := hp.2
  have hp := hp w_3 ew_3
  refine lv_aload_n hx hb dX11_clearBank_31 rfl (lv_at hl 0 rfl) ?_
  refine G_300_14 hC hS m259 dX11_clearBank_32 ?_
  refine lv_aload_n hx hb dX11_clearBank_35 rfl (lv_at hl 0 rfl) ?_
  refine G_300_30 hC hS m302 dX11_clearBank_36 ?_
  refine lv_iconst hx hb dX11_clearBank_39 kI_0 ?_
  refine Sa_315 hC hS hp.1 dX11_clearBank_40 (fun w_4 H locs ew_4 hS => ?_)
  have hp := hp.2
  have hp := hp w_4 ew_4
  refine lv_aload_n hx hb dX11_clearBank_41 rfl (lv_at hl 0 rfl) ?_
  refine G_300_15 hC hS m260 dX11_clearBank_42 ?_
  refine lv_aload_n hx hb dX11_clearBank_45 rfl (lv_at hl 0 rfl) ?_
  refine G_300_30 hC hS m302 dX11_clearBank_46 ?_
  refine lv_bipush hx hb dX11_clearBank_49 kB_100 ?_
  refine Sa_316 hC hS hp.1 dX11_clearBank_51 (fun w_5 H locs ew_5 hS => ?_)
  have hp := hp.2
  have hp := hp w_5 ew_5
  refine lv_aload_n hx hb dX11_clearBank_52 rfl (lv_at hl 0 rfl) ?_
  refine G_300_16 hC hS m261 dX11_clearBank_53 ?_
  refine lv_aload_n hx hb dX11_clearBank_56 rfl (lv_at hl 0 rfl) ?_
  refine G_300_30 hC hS m302 dX11_clearBank_57 ?_
  refine lv_iconst hx hb dX11_clearBank_60 kI_0 ?_
  refine Sa_317 hC hS hp.1 dX11_clearBank_61 (fun w_6 H locs ew_6 hS => ?_)
  have hp := hp.2
  have hp := hp w_6 ew_6
  refine lv_aload_n hx hb dX11_clearBank_62 rfl (lv_at hl 0 rfl) ?_
  refine G_300_17 hC hS m262 dX11_clearBank_63 ?_
  refine lv_aload_n hx hb dX11_clearBank_66 rfl (lv_at hl 0 rfl) ?_
  refine G_300_30 hC hS m302 dX11_clearBank_67 ?_
  refine lv_iconst hx hb dX11_clearBank_70 kI_0 ?_
  refine Sa_318 hC hS hp.1 dX11_clearBank_71 (fun w_7 H locs ew_7 hS => ?_)
  have hp := hp.2
  have hp := hp w_7 ew_7
  refine lv_aload_n hx hb dX11_clearBank_72 rfl (lv_at hl 0 rfl) ?_
  refine G_300_20 hC hS m265 dX11_clearBank_73 ?_
  refine lv_aload_n hx hb dX11_clearBank_76 rfl (lv_at hl 0 rfl) ?_
  refine G_300_30 hC hS m302 dX11_clearBank_77 ?_
  refine lv_iconst hx hb dX11_clearBank_80 kI_0 ?_
  refine Sa_321 hC hS hp.1 dX11_clearBank_81 (fun w_8 H locs ew_8 hS => ?_)
  have hp := hp.2
  have hp := hp w_8 ew_8
  refine lv_aload_n hx hb dX11_clearBank_82 rfl (lv_at hl 0 rfl) ?_
  refine G_300_21 hC hS m266 dX11_clearBank_83 ?_
  refine lv_aload_n hx hb dX11_clearBank_86 rfl (lv_at hl 0 rfl) ?_
  refine G_300_30 hC hS m302 dX11_clearBank_87 ?_
  refine lv_iconst hx hb dX11_clearBank_90 kI_0 ?_
  refine Sa_322 hC hS hp.1 dX11_clearBank_91 (fun w_9 H locs ew_9 hS => ?_)
  have hp := hp.2
  have hp := hp w_9 ew_9
  refine lv_aload_n hx hb dX11_clearBank_92 rfl (lv_at hl 0 rfl) ?_
  refine G_300_22 hC hS m267 dX11_clearBank_93 ?_
  refine lv_aload_n hx hb dX11_clearBank_96 rfl (lv_at hl 0 rfl) ?_
  refine G_300_30 hC hS m302 dX11_clearBank_97 ?_
  refine lv_iconst hx hb dX11_clearBank_100 kI_0 ?_
  refine Sa_323 hC hS hp.1 dX11_clearBank_101 (fun w_10 H locs ew_10 hS => ?_)
  have hp := hp.2
  have hp := hp w_10 ew_10
  refine lv_aload_n hx hb dX11_clearBank_102 rfl (lv_at hl 0 rfl) ?_
  refine lv_sipush hx hb dX11_clearBank_103 kS_560 ?_
  refine lv_aload_n hx hb dX11_clearBank_106 rfl (lv_at hl 0 rfl) ?_
  refine G_300_30 hC hS m302 dX11_clearBank_107 ?_
  refine lv_imul hx hb dX11_clearBank_110 ?_
  refine P_300_31 hC hS m303 dX11_clearBank_111 (fun w_11 H locs ew_11 hS => ?_)
  have hp := hp w_11 ew_11
  exact hR _ _ _ _ _ dX11_clearBank_114 hp hS
def pX11_sign (post : Int32 → Wd → Prop) (x1 : Int32) (w : Wd) : Prop := ((w.1 300 3) ≤ x1 → (post (0 : Int32) w)) ∧ (¬ (w.1 300 3) ≤ x1 → (vp_in x1 1600 ∧ post ((w.2.1 302 x1.toNatClampNeg) &&& (255 : Int32)) w))
set_option maxHeartbeats 4000000 in
set_option maxRecDepth 100000 in
theorem rX11_sign {l : Launch} {g : Gw} {w : Wd} {post : Int32 → Wd → Prop}   {x1 : Int32} (hp : pX11_sign post x1 w) : MtI tabM l yX11_sign cX11_sign 2 (some .int) 1 g w [.ref (g.2.2 300), .int x1] post := by
  refine q_entI tabM_nd (by decide) rfl (Nat.le_of_ble_eq_true rfl) ?_
  intro p e s m args below meth c A Q ls hC hR hS hl
  have hx := hC.1
  have hb := hC.2.1
  have hl : lv_has ls 2 [(0, .ref (g.2.2 300)), (1, .int x1)] := hl
  unfold pX11_sign at hp
  refine lv_iload_n hx hb dX11_sign_0 rfl (lv_at hl 1 rfl) ?_
  refine lv_aload_n hx hb dX11_sign_1 rfl (lv_at hl 0 rfl) ?_
  refine G_300_3 hC hS m471 dX11_sign_2 ?_
  refine lv_icmp_ge (tgt := 21) hx hb dX11_sign_5 (by decide) (fun c_1 => ?_) (fun c_1 => ?_)
  · have hp := hp.1 c_1
    refine lv_iconst hx hb dX11_sign_21 kI_0 ?_
    exact hR _ _ _ _ _ _ dX11_sign_22 hp hS
  · have hp := hp.2 c_1
    refine lv_aload_n hx hb dX11_sign_8 rfl (lv_at hl 0 rfl) ?_
    refine G_300_1 hC hS m254 dX11_sign_9 ?_
    refine lv_iload_n hx hb dX11_sign_12 rfl (lv_at hl 1 rfl) ?_
    refine La_302 hC hS hp.1 dX11_sign_13 ?_
    have hp := hp.2
    refine lv_sipush hx hb dX11_sign_14 kS_255 ?_
    refine lv_iand hx hb dX11_sign_17 ?_
    refine lv_goto (tgt := 22) hx hb dX11_sign_18 (by decide) ?_
    exact hR _ _ _ _ _ _ dX11_sign_22 hp hS
def pX11_goOn_309 (k259 : Wd → Prop) (post : Wd → Prop)  (w : Wd) : Prop := ∀ w_1, w_1 = sI w 300 7 ((w.1 300 7) + (1 : Int32)) → k259  w_1
def pX11_goOn_259 (post : Wd → Prop) : Nat → Wd → Prop
  | 0, _ => False
  | n + 1, w => pX11_sign (fun r_1 w_2 => False) (w.1 300 7) w
def pX11_goOn_199 (post : Wd → Prop)  (w : Wd) : Prop := (((w.1 300 7) - (w.1 300 6)) ≤ (8 : Int32) → (False)) ∧ (¬ ((w.1 300 7) - (w.1 300 6)) ≤ (8 : Int32) → (∀ w_2, w_2 = sI w 300 8 (1 : Int32) → post w_2))
def pX11_goOn_156 (post : Wd → Prop) : Nat → Int32 → Wd → Prop
  | 0, _, _ => False
  | n + 1, x2, w => ((w.1 300 7) ≤ x2 → (pX11_goOn_199 post  w)) ∧ (¬ (w.1 300 7) ≤ x2 → ((((w.1 300 6) + (8 : Int32)) ≤ x2 → (pX11_goOn_199 post  w)) ∧ (¬ ((w.1 300 6) + (8 : Int32)) ≤ x2 → (pX11_sign (fun r_3 w_4 => ∀ w_5, w_5 = sJ w_4 300 10 (((w.2.2.1 300 10) <<< ((8 : Int32).toInt64 &&& 63)) ||| (r_3).toInt64) → ∀ x2_6, x2_6 = x2 + (1 : Int32) → pX11_goOn_156 post n x2_6 w_5) x2 w))))
def pX11_goOn_119 (post : Wd → Prop) : Nat → Wd → Prop
  | 0, _ => False
  | n + 1, w => pX11_sign (fun r_1 w_2 => False) (w.1 300 7) w
def pX11_goOn_58 (post : Wd → Prop)  (w : Wd) : Prop := pX11_sign (fun r_1 w_2 => ∀ w_3, w_3 = sI w_2 300 7 ((w_2.1 300 6) + (1 : Int32)) → ((w_3.1 300 6) < (w_3.1 300 3) → (False)) ∧ (¬ (w_3.1 300 6) < (w_3.1 300 3) → (∀ w_5, w_5 = sI w_3 300 8 (0 : Int32) → ∀ w_6, w_6 = sI w_5 300 6 (w_5.1 300 3) → ∀ w_7, w_7 = sI w_6 300 7 (w_6.1 300 3) → post w_7))) (w.1 300 6) w
def pX11_goOn_45 (k8 : Wd → Prop) (post : Wd → Prop)  (w : Wd) : Prop := ∀ w_1, w_1 = sI w 300 6 ((w.1 300 6) + (1 : Int32)) → k8  w_1
def pX11_goOn_8 (post : Wd → Prop) : Nat → Wd → Prop
  | 0, _ => False
  | n + 1, w => ((w.1 300 3) ≤ (w.1 300 6) → (pX11_goOn_58 post  w)) ∧ (¬ (w.1 300 3) ≤ (w.1 300 6) → (pX11_sign (fun r_2 w_3 => (r_2 = (32 : Int32) → (pX11_goOn_45 (pX11_goOn_8 post n) post  w_3)) ∧ (¬ r_2 = (32 : Int32) → (pX11_sign (fun r_5 w_6 => (¬ r_5 = (10 : Int32) → (pX11_goOn_58 post  w_6)) ∧ (r_5 = (10 : Int32) → (pX11_goOn_45 (pX11_goOn_8 post n) post  w_6))) (w_3.1 300 6) w_3))) (w.1 300 6) w))
def pX11_goOn (post : Wd → Prop)  (w : Wd) : Prop := ∀ w_1, w_1 = sI w 300 6 (w.1 300 7) → ∃ n9, pX11_goOn_8 post n9  w_1
set_option maxHeartbeats 4000000 in
set_option maxRecDepth 100000 in
theorem bX11_goOn_309 {p : Program} {l : Launch} {e : Env} {s : State} {m : MethodId} {args : Array Value} {below : List Frame} {meth : Method} {c : Code} {Q : State → Prop} {A : Nat → Prop} {g : Gw} {post : Wd → Prop}  (hC : Cx p s m args c cX11_goOn RX11 3 g) (hR : RtV tabM p l e (rk 2) s m args below meth c Q cX11_goOn A g post)  {k259 : Wd → Prop} (hk259 : ∀  (w : Wd) (H : Heap) (locs : List Loc) (ls : Array Slot), k259  w → St tabM A s.heap g w H locs → lv_has ls 3 [(0, .ref (g.2.2 300))] → W p l e (rk 2) s m args below meth c H locs 0 0 Q (F0 m 259 ls [])) : ∀  (w : Wd) (H : Heap) (locs : List Loc) (ls : Array Slot), pX11_goOn_309 k259 post  w → St tabM A s.heap g w H locs → lv_has ls 3 [(0, .ref (g.2.2 300))] → W p l e (rk 2) s m args below meth c H locs 0 0 Q (F0 m 309 ls []) := by
  have hx := hC.1
  have hb := hC.2.1
  intro  w H locs ls hp hS hl
  unfold pX11_goOn_309 at hp
  refine lv_aload_n hx hb dX11_goOn_309 rfl (lv_at hl 0 rfl) ?_
  refine lv_dup hx hb dX11_goOn_310 rfl ?_
  refine G_300_7 hC hS m472 dX11_goOn_311 ?_
  refine lv_iconst hx hb dX11_goOn_314 kI_1 ?_
  refine lv_iadd hx hb dX11_goOn_315 ?_
  refine P_300_7 hC hS m472 dX11_goOn_316 (fun w_1 H locs ew_1 hS => ?_)
  have hp := hp w_1 ew_1
  refine lv_goto (tgt := 259) hx hb dX11_goOn_319 (by decide) ?_
  exact hk259  w_1 _ _ _ hp hS (lv_sub hl [0] rfl)
set_option maxHeartbeats 4000000 in
set_option maxRecDepth 100000 in
theorem bX11_goOn_259 {p : Program} {l : Launch} {e : Env} {s : State} {m : MethodId} {args : Array Value} {below : List Frame} {meth : Method} {c : Code} {Q : State → Prop} {A : Nat → Prop} {g : Gw} {post : Wd → Prop}  (hC : Cx p s m args c cX11_goOn RX11 3 g) (hR : RtV tabM p l e (rk 2) s m args below meth c Q cX11_goOn A g post)  : ∀ (n : Nat)  (w : Wd) (H : Heap) (locs : List Loc) (ls : Array Slot), pX11_goOn_259 post n  w → St tabM A s.heap g w H locs → lv_has ls 3 [(0, .ref (g.2.2 300))] → W p l e (rk 2) s m args below meth c H locs 0 0 Q (F0 m 259 ls []) := by
  have hx := hC.1
  have hb := hC.2.1
  intro n
  induction n with
  | zero =>
    intro  w H locs ls hp hS hl
    exact False.elim hp
  | succ n ih =>
    intro  w H locs ls hp hS hl
    unfold pX11_goOn_259 at hp
    refine lv_aload_n hx hb dX11_goOn_259 rfl (lv_at hl 0 rfl) ?_
    refine lv_aload_n hx hb dX11_goOn_260 rfl (lv_at hl 0 rfl) ?_
    refine G_300_7 hC hS m472 dX11_goOn_261 ?_
    refine q_cvI (As := [.int (w.1 300 7)]) (rest := []) hC hS hl.1 (rX11_sign hp) cwX11_199 yvX11_sign (rcv_300 hC hS) rfl rfl (Nat.le_of_ble_eq_true rfl) (rmk (by decide) (by decide)) dX11_goOn_264 (fun r_1 w_2 H locs hp hS => ?_)
    exact False.elim hp
set_option maxHeartbeats 4000000 in
set_option maxRecDepth 100000 in
theorem bX11_goOn_199 {p : Program} {l : Launch} {e : Env} {s : State} {m : MethodId} {args : Array Value} {below : List Frame} {meth : Method} {c : Code} {Q : State → Prop} {A : Nat → Prop} {g : Gw} {post : Wd → Prop}  (hC : Cx p s m args c cX11_goOn RX11 3 g) (hR : RtV tabM p l e (rk 2) s m args below meth c Q cX11_goOn A g post)  : ∀  (w : Wd) (H : Heap) (locs : List Loc) (ls : Array Slot), pX11_goOn_199 post  w → St tabM A s.heap g w H locs → lv_has ls 3 [(0, .ref (g.2.2 300))] → W p l e (rk 2) s m args below meth c H locs 0 0 Q (F0 m 199 ls []) := by
  have hx := hC.1
  have hb := hC.2.1
  intro  w H locs ls hp hS hl
  unfold pX11_goOn_199 at hp
  refine lv_aload_n hx hb dX11_goOn_199 rfl (lv_at hl 0 rfl) ?_
  refine lv_aload_n hx hb dX11_goOn_200 rfl (lv_at hl 0 rfl) ?_
  refine G_300_7 hC hS m472 dX11_goOn_201 ?_
  refine lv_aload_n hx hb dX11_goOn_204 rfl (lv_at hl 0 rfl) ?_
  refine G_300_6 hC hS m478 dX11_goOn_205 ?_
  refine lv_isub hx hb dX11_goOn_208 ?_
  refine lv_bipush hx hb dX11_goOn_209 kB_8 ?_
  refine lv_icmp_le (tgt := 218) hx hb dX11_goOn_211 (by decide) (fun c_1 => ?_) (fun c_1 => ?_)
  · have hp := hp.1 c_1
    refine lv_aload_n hx hb dX11_goOn_218 rfl (lv_at hl 0 rfl) ?_
    refine G_300_10 hC hS m479 dX11_goOn_219 ?_
    exact False.elim hp
  · have hp := hp.2 c_1
    refine lv_iconst hx hb dX11_goOn_214 kI_1 ?_
    refine lv_goto (tgt := 233) hx hb dX11_goOn_215 (by decide) ?_
    refine P_300_8 hC hS m473 dX11_goOn_233 (fun w_2 H locs ew_2 hS => ?_)
    have hp := hp w_2 ew_2
    refine lv_goto (tgt := 377) hx hb dX11_goOn_236 (by decide) ?_
    exact hR _ _ _ _ _ dX11_goOn_377 hp hS
set_option maxHeartbeats 4000000 in
set_option maxRecDepth 100000 in
theorem bX11_goOn_156 {p : Program} {l : Launch} {e : Env} {s : State} {m : MethodId} {args : Array Value} {below : List Frame} {meth : Method} {c : Code} {Q : State → Prop} {A : Nat → Prop} {g : Gw} {post : Wd → Prop}  (hC : Cx p s m args c cX11_goOn RX11 3 g) (hR : RtV tabM p l e (rk 2) s m args below meth c Q cX11_goOn A g post)  : ∀ (n : Nat) (x2 : Int32) (w : Wd) (H : Heap) (locs : List Loc) (ls : Array Slot), pX11_goOn_156 post n x2 w → St tabM A s.heap g w H locs → lv_has ls 3 [(0, .ref (g.2.2 300)), (2, .int x2)] → W p l e (rk 2) s m args below meth c H locs 0 0 Q (F0 m 156 ls []) := by
  have hx := hC.1
  have hb := hC.2.1
  intro n
  induction n with
  | zero =>
    intro x2 w H locs ls hp hS hl
    exact False.elim hp
  | succ n ih =>
    intro x2 w H locs ls hp hS hl
    unfold pX11_goOn_156 at hp
    refine lv_iload_n hx hb dX11_goOn_156 rfl (lv_at hl 1 rfl) ?_
    refine lv_aload_n hx hb dX11_goOn_157 rfl (lv_at hl 0 rfl) ?_
    refine G_300_7 hC hS m472 dX11_goOn_158 ?_
    refine lv_icmp_ge (tgt := 199) hx hb dX11_goOn_161 (by decide) (fun c_1 => ?_) (fun c_1 => ?_)
    · have hp := hp.1 c_1
      exact bX11_goOn_199 hC hR  w _ _ _ hp hS (lv_sub hl [0] rfl)
    · have hp := hp.2 c_1
      refine lv_iload_n hx hb dX11_goOn_164 rfl (lv_at hl 1 rfl) ?_
      refine lv_aload_n hx hb dX11_goOn_165 rfl (lv_at hl 0 rfl) ?_
      refine G_300_6 hC hS m478 dX11_goOn_166 ?_
      refine lv_bipush hx hb dX11_goOn_169 kB_8 ?_
      refine lv_iadd hx hb dX11_goOn_171 ?_
      refine lv_icmp_ge (tgt := 199) hx hb dX11_goOn_172 (by decide) (fun c_2 => ?_) (fun c_2 => ?_)
      · have hp := hp.1 c_2
        exact bX11_goOn_199 hC hR  w _ _ _ hp hS (lv_sub hl [0] rfl)
      · have hp := hp.2 c_2
        refine lv_aload_n hx hb dX11_goOn_175 rfl (lv_at hl 0 rfl) ?_
        refine lv_aload_n hx hb dX11_goOn_176 rfl (lv_at hl 0 rfl) ?_
        refine G_300_10 hC hS m479 dX11_goOn_177 ?_
        refine lv_bipush hx hb dX11_goOn_180 kB_8 ?_
        refine lv_lshl hx hb dX11_goOn_182 rfl ?_
        refine lv_aload_n hx hb dX11_goOn_183 rfl (lv_at hl 0 rfl) ?_
        refine lv_iload_n hx hb dX11_goOn_184 rfl (lv_at hl 1 rfl) ?_
        refine q_cvI (As := [.int x2]) (rest := [.long ((w.2.2.1 300 10) <<< ((8 : Int32).toInt64 &&& 63)), .ref (g.2.2 300)]) hC hS hl.1 (rX11_sign hp) cwX11_199 yvX11_sign (rcv_300 hC hS) rfl rfl (Nat.le_of_ble_eq_true rfl) (rmk (by decide) (by decide)) dX11_goOn_185 (fun r_3 w_4 H locs hp hS => ?_)
        refine lv_i2l hx hb dX11_goOn_188 rfl ?_
        refine lv_lor hx hb dX11_goOn_189 ?_
        refine P_300_10 hC hS m479 dX11_goOn_190 (fun w_5 H locs ew_5 hS => ?_)
        have hp := hp w_5 ew_5
        obtain ⟨x2_6, ex2_6⟩ : ∃ y : Int32, y = x2 + (1 : Int32) := ⟨_, rfl⟩
        have hp := hp x2_6 ex2_6
        refine lv_iinc (v := x2_6) (lv' := [(2, .int x2_6), (0, .ref (g.2.2 300))]) hx hb dX11_goOn_193 hl (k := 1) rfl (by rw [ex2_6]; rfl) (by decide) rfl (fun ls hl => ?_)
        refine lv_goto (tgt := 156) hx hb dX11_goOn_196 (by decide) ?_
        exact ih x2_6 w_5 _ _ _ hp hS (lv_sub hl [1, 0] rfl)
set_option maxHeartbeats 4000000 in
set_option maxRecDepth 100000 in
theorem bX11_goOn_119 {p : Program} {l : Launch} {e : Env} {s : State} {m : MethodId} {args : Array Value} {below : List Frame} {meth : Method} {c : Code} {Q : State → Prop} {A : Nat → Prop} {g : Gw} {post : Wd → Prop}  (hC : Cx p s m args c cX11_goOn RX11 3 g) (hR : RtV tabM p l e (rk 2) s m args below meth c Q cX11_goOn A g post)  : ∀ (n : Nat)  (w : Wd) (H : Heap) (locs : List Loc) (ls : Array Slot), pX11_goOn_119 post n  w → St tabM A s.heap g w H locs → lv_has ls 3 [(0, .ref (g.2.2 300))] → W p l e (rk 2) s m args below meth c H locs 0 0 Q (F0 m 119 ls []) := by
  have hx := hC.1
  have hb := hC.2.1
  intro n
  induction n with
  | zero =>
    intro  w H locs ls hp hS hl
    exact False.elim hp
  | succ n ih =>
    intro  w H locs ls hp hS hl
    unfold pX11_goOn_119 at hp
    refine lv_aload_n hx hb dX11_goOn_119 rfl (lv_at hl 0 rfl) ?_
    refine lv_aload_n hx hb dX11_goOn_120 rfl (lv_at hl 0 rfl) ?_
    refine G_300_7 hC hS m472 dX11_goOn_121 ?_
    refine q_cvI (As := [.int (w.1 300 7)]) (rest := []) hC hS hl.1 (rX11_sign hp) cwX11_199 yvX11_sign (rcv_300 hC hS) rfl rfl (Nat.le_of_ble_eq_true rfl) (rmk (by decide) (by decide)) dX11_goOn_124 (fun r_1 w_2 H locs hp hS => ?_)
    exact False.elim hp
set_option maxHeartbeats 4000000 in
set_option maxRecDepth 100000 in
theorem bX11_goOn_58 {p : Program} {l : Launch} {e : Env} {s : State} {m : MethodId} {args : Array Value} {below : List Frame} {meth : Method} {c : Code} {Q : State → Prop} {A : Nat → Prop} {g : Gw} {post : Wd → Prop}  (hC : Cx p s m args c cX11_goOn RX11 3 g) (hR : RtV tabM p l e (rk 2) s m args below meth c Q cX11_goOn A g post)  : ∀  (w : Wd) (H : Heap) (locs : List Loc) (ls : Array Slot), pX11_goOn_58 post  w → St tabM A s.heap g w H locs → lv_has ls 3 [(0, .ref (g.2.2 300))] → W p l e (rk 2) s m args below meth c H locs 0 0 Q (F0 m 58 ls []) := by
  have hx := hC.1
  have hb := hC.2.1
  intro  w H locs ls hp hS hl
  unfold pX11_goOn_58 at hp
  refine lv_aload_n hx hb dX11_goOn_58 rfl (lv_at hl 0 rfl) ?_
  refine lv_aload_n hx hb dX11_goOn_59 rfl (lv_at hl 0 rfl) ?_
  refine G_300_6 hC hS m478 dX11_goOn_60 ?_
  refine q_cvI (As := [.int (w.1 300 6)]) (rest := []) hC hS hl.1 (rX11_sign hp) cwX11_199 yvX11_sign (rcv_300 hC hS) rfl rfl (Nat.le_of_ble_eq_true rfl) (rmk (by decide) (by decide)) dX11_goOn_63 (fun r_1 w_2 H locs hp hS => ?_)
  refine lv_istore_n (lv' := [(1, .int r_1), (0, .ref (g.2.2 300))]) hx hb dX11_goOn_66 rfl hl (by decide) rfl (fun ls hl => ?_)
  refine lv_aload_n hx hb dX11_goOn_67 rfl (lv_at hl 1 rfl) ?_
  refine lv_aload_n hx hb dX11_goOn_68 rfl (lv_at hl 1 rfl) ?_
  refine G_300_6 hC hS m478 dX11_goOn_69 ?_
  refine lv_iconst hx hb dX11_goOn_72 kI_1 ?_
  refine lv_iadd hx hb dX11_goOn_73 ?_
  refine P_300_7 hC hS m472 dX11_goOn_74 (fun w_3 H locs ew_3 hS => ?_)
  have hp := hp w_3 ew_3
  refine lv_aload_n hx hb dX11_goOn_77 rfl (lv_at hl 1 rfl) ?_
  refine G_300_6 hC hS m478 dX11_goOn_78 ?_
  refine lv_aload_n hx hb dX11_goOn_81 rfl (lv_at hl 1 rfl) ?_
  refine G_300_3 hC hS m471 dX11_goOn_82 ?_
  refine lv_icmp_lt (tgt := 112) hx hb dX11_goOn_85 (by decide) (fun c_4 => ?_) (fun c_4 => ?_)
  · have hp := hp.1 c_4
    refine lv_iload_n hx hb dX11_goOn_112 rfl (lv_at hl 0 rfl) ?_
    exact False.elim hp
  · have hp := hp.2 c_4
    refine lv_aload_n hx hb dX11_goOn_88 rfl (lv_at hl 1 rfl) ?_
    refine lv_iconst hx hb dX11_goOn_89 kI_0 ?_
    refine P_300_8 hC hS m473 dX11_goOn_90 (fun w_5 H locs ew_5 hS => ?_)
    have hp := hp w_5 ew_5
    refine lv_aload_n hx hb dX11_goOn_93 rfl (lv_at hl 1 rfl) ?_
    refine lv_aload_n hx hb dX11_goOn_94 rfl (lv_at hl 1 rfl) ?_
    refine G_300_3 hC hS m471 dX11_goOn_95 ?_
    refine P_300_6 hC hS m478 dX11_goOn_98 (fun w_6 H locs ew_6 hS => ?_)
    have hp := hp w_6 ew_6
    refine lv_aload_n hx hb dX11_goOn_101 rfl (lv_at hl 1 rfl) ?_
    refine lv_aload_n hx hb dX11_goOn_102 rfl (lv_at hl 1 rfl) ?_
    refine G_300_3 hC hS m471 dX11_goOn_103 ?_
    refine P_300_7 hC hS m472 dX11_goOn_106 (fun w_7 H locs ew_7 hS => ?_)
    have hp := hp w_7 ew_7
    refine lv_goto (tgt := 377) hx hb dX11_goOn_109 (by decide) ?_
    exact hR _ _ _ _ _ dX11_goOn_377 hp hS
set_option maxHeartbeats 4000000 in
set_option maxRecDepth 100000 in
theorem bX11_goOn_45 {p : Program} {l : Launch} {e : Env} {s : State} {m : MethodId} {args : Array Value} {below : List Frame} {meth : Method} {c : Code} {Q : State → Prop} {A : Nat → Prop} {g : Gw} {post : Wd → Prop}  (hC : Cx p s m args c cX11_goOn RX11 3 g) (hR : RtV tabM p l e (rk 2) s m args below meth c Q cX11_goOn A g post)  {k8 : Wd → Prop} (hk8 : ∀  (w : Wd) (H : Heap) (locs : List Loc) (ls : Array Slot), k8  w → St tabM A s.heap g w H locs → lv_has ls 3 [(0, .ref (g.2.2 300))] → W p l e (rk 2) s m args below meth c H locs 0 0 Q (F0 m 8 ls [])) : ∀  (w : Wd) (H : Heap) (locs : List Loc) (ls : Array Slot), pX11_goOn_45 k8 post  w → St tabM A s.heap g w H locs → lv_has ls 3 [(0, .ref (g.2.2 300))] → W p l e (rk 2) s m args below meth c H locs 0 0 Q (F0 m 45 ls []) := by
  have hx := hC.1
  have hb := hC.2.1
  intro  w H locs ls hp hS hl
  unfold pX11_goOn_45 at hp
  refine lv_aload_n hx hb dX11_goOn_45 rfl (lv_at hl 0 rfl) ?_
  refine lv_dup hx hb dX11_goOn_46 rfl ?_
  refine G_300_6 hC hS m478 dX11_goOn_47 ?_
  refine lv_iconst hx hb dX11_goOn_50 kI_1 ?_
  refine lv_iadd hx hb dX11_goOn_51 ?_
  refine P_300_6 hC hS m478 dX11_goOn_52 (fun w_1 H locs ew_1 hS => ?_)
  have hp := hp w_1 ew_1
  refine lv_goto (tgt := 8) hx hb dX11_goOn_55 (by decide) ?_
  exact hk8  w_1 _ _ _ hp hS (lv_sub hl [0] rfl)
set_option maxHeartbeats 4000000 in
set_option maxRecDepth 100000 in
theorem bX11_goOn_8 {p : Program} {l : Launch} {e : Env} {s : State} {m : MethodId} {args : Array Value} {below : List Frame} {meth : Method} {c : Code} {Q : State → Prop} {A : Nat → Prop} {g : Gw} {post : Wd → Prop}  (hC : Cx p s m args c cX11_goOn RX11 3 g) (hR : RtV tabM p l e (rk 2) s m args below meth c Q cX11_goOn A g post)  : ∀ (n : Nat)  (w : Wd) (H : Heap) (locs : List Loc) (ls : Array Slot), pX11_goOn_8 post n  w → St tabM A s.heap g w H locs → lv_has ls 3 [(0, .ref (g.2.2 300))] → W p l e (rk 2) s m args below meth c H locs 0 0 Q (F0 m 8 ls []) := by
  have hx := hC.1
  have hb := hC.2.1
  intro n
  induction n with
  | zero =>
    intro  w H locs ls hp hS hl
    exact False.elim hp
  | succ n ih =>
    intro  w H locs ls hp hS hl
    unfold pX11_goOn_8 at hp
    refine lv_aload_n hx hb dX11_goOn_8 rfl (lv_at hl 0 rfl) ?_
    refine G_300_6 hC hS m478 dX11_goOn_9 ?_
    refine lv_aload_n hx hb dX11_goOn_12 rfl (lv_at hl 0 rfl) ?_
    refine G_300_3 hC hS m471 dX11_goOn_13 ?_
    refine lv_icmp_ge (tgt := 58) hx hb dX11_goOn_16 (by decide) (fun c_1 => ?_) (fun c_1 => ?_)
    · have hp := hp.1 c_1
      exact bX11_goOn_58 hC hR  w _ _ _ hp hS (lv_sub hl [0] rfl)
    · have hp := hp.2 c_1
      refine lv_aload_n hx hb dX11_goOn_19 rfl (lv_at hl 0 rfl) ?_
      refine lv_aload_n hx hb dX11_goOn_20 rfl (lv_at hl 0 rfl) ?_
      refine G_300_6 hC hS m478 dX11_goOn_21 ?_
      refine q_cvI (As := [.int (w.1 300 6)]) (rest := []) hC hS hl.1 (rX11_sign hp) cwX11_199 yvX11_sign (rcv_300 hC hS) rfl rfl (Nat.le_of_ble_eq_true rfl) (rmk (by decide) (by decide)) dX11_goOn_24 (fun r_2 w_3 H locs hp hS => ?_)
      refine lv_bipush hx hb dX11_goOn_27 kB_32 ?_
      refine lv_icmp_eq (tgt := 45) hx hb dX11_goOn_29 (by decide) (fun c_4 => ?_) (fun c_4 => ?_)
      · have hp := hp.1 c_4
        exact bX11_goOn_45 hC hR ih  w_3 _ _ _ hp hS (lv_sub hl [0] rfl)
      · have hp := hp.2 c_4
        refine lv_aload_n hx hb dX11_goOn_32 rfl (lv_at hl 0 rfl) ?_
        refine lv_aload_n hx hb dX11_goOn_33 rfl (lv_at hl 0 rfl) ?_
        refine G_300_6 hC hS m478 dX11_goOn_34 ?_
        refine q_cvI (As := [.int (w_3.1 300 6)]) (rest := []) hC hS hl.1 (rX11_sign hp) cwX11_199 yvX11_sign (rcv_300 hC hS) rfl rfl (Nat.le_of_ble_eq_true rfl) (rmk (by decide) (by decide)) dX11_goOn_37 (fun r_5 w_6 H locs hp hS => ?_)
        refine lv_bipush hx hb dX11_goOn_40 kB_10 ?_
        refine lv_icmp_ne (tgt := 58) hx hb dX11_goOn_42 (by decide) (fun c_7 => ?_) (fun c_7 => ?_)
        · have hp := hp.1 c_7
          exact bX11_goOn_58 hC hR  w_6 _ _ _ hp hS (lv_sub hl [0] rfl)
        · have hp := hp.2 c_7
          exact bX11_goOn_45 hC hR ih  w_6 _ _ _ hp hS (lv_sub hl [0] rfl)
set_option maxHeartbeats 4000000 in
set_option maxRecDepth 100000 in
theorem rX11_goOn {l : Launch} {g : Gw} {w : Wd} {post : Wd → Prop}    (hp : pX11_goOn post  w) : MtV tabM l yX11_goOn cX11_goOn 3 none 2 g w [.ref (g.2.2 300)] post := by
  refine q_entV tabM_nd (by decide) rfl (Nat.le_of_ble_eq_true rfl) ?_
  intro p e s m args below meth c A Q ls hC hR hS hl
  have hx := hC.1
  have hb := hC.2.1
  have hl : lv_has ls 3 [(0, .ref (g.2.2 300))] := hl
  unfold pX11_goOn at hp
  refine lv_aload_n hx hb dX11_goOn_0 rfl (lv_at hl 0 rfl) ?_
  refine lv_aload_n hx hb dX11_goOn_1 rfl (lv_at hl 0 rfl) ?_
  refine G_300_7 hC hS m472 dX11_goOn_2 ?_
  refine P_300_6 hC hS m478 dX11_goOn_5 (fun w_1 H locs ew_1 hS => ?_)
  have hp := hp w_1 ew_1
  obtain ⟨n9, hp⟩ := hp
  exact bX11_goOn_8 hC hR n9  w_1 _ _ _ hp hS (lv_sub hl [0] rfl)
def pX11_isGood (post : Int32 → Wd → Prop)  (w : Wd) : Prop := (¬ (w.1 300 4) = 0 → (post (0 : Int32) w)) ∧ ((w.1 300 4) = 0 → (post (1 : Int32) w))
set_option maxHeartbeats 4000000 in
set_option maxRecDepth 100000 in
theorem rX11_isGood {l : Launch} {g : Gw} {w : Wd} {post : Int32 → Wd → Prop}    (hp : pX11_isGood post  w) : MtI tabM l yX11_isGood cX11_isGood 1 (some .boolean) 1 g w [.ref (g.2.2 300)] post := by
  refine q_entZ tabM_nd (by decide) rfl (Nat.le_of_ble_eq_true rfl) ?_
  intro p e s m args below meth c A Q ls hC hR hS hl
  have hx := hC.1
  have hb := hC.2.1
  have hl : lv_has ls 1 [(0, .ref (g.2.2 300))] := hl
  unfold pX11_isGood at hp
  refine lv_aload_n hx hb dX11_isGood_0 rfl (lv_at hl 0 rfl) ?_
  refine G_300_4 hC hS m470 dX11_isGood_1 ?_
  refine lv_if_ne (tgt := 11) hx hb dX11_isGood_4 (by decide) (fun c_1 => ?_) (fun c_1 => ?_)
  · have hp := hp.1 c_1
    refine lv_iconst hx hb dX11_isGood_11 kI_0 ?_
    exact hR _ _ _ _ _ _ dX11_isGood_12 (by decide) hp hS
  · have hp := hp.2 c_1
    refine lv_iconst hx hb dX11_isGood_7 kI_1 ?_
    refine lv_goto (tgt := 12) hx hb dX11_isGood_8 (by decide) ?_
    exact hR _ _ _ _ _ _ dX11_isGood_12 (by decide) hp hS
def pX11_startAnew_116 (post : Wd → Prop) : Nat → Int32 → Wd → Prop
  | 0, _, _ => False
  | n + 1, x1, w => ((3 : Int32) ≤ x1 → (post w)) ∧ (¬ (3 : Int32) ≤ x1 → (vp_in x1 3 ∧ ∀ w_2, w_2 = sA w 369 x1.toNatClampNeg (vp_nar .boolean (0 : Int32)) → ∀ x1_3, x1_3 = x1 + (1 : Int32) → pX11_startAnew_116 post n x1_3 w_2))
def pX11_startAnew_2 (post : Wd → Prop) : Nat → Int32 → Wd → Prop
  | 0, _, _ => False
  | n + 1, x1, w => ((221 : Int32) ≤ x1 → (vp_in (w.1 300 29) 2 ∧ ∀ w_2, w_2 = sA w 341 (0 : Int32).toNatClampNeg (w.2.1 313 (w.1 300 29).toNatClampNeg) → ∀ w_3, w_3 = sA w_2 341 (1 : Int32).toNatClampNeg (-1 : Int32) → ∀ w_4, w_4 = sA w_3 341 (2 : Int32).toNatClampNeg (-1 : Int32) → ∀ w_5, w_5 = sA w_4 341 (216 : Int32).toNatClampNeg (1 : Int32) → vp_in (w_5.1 300 29) 2 ∧ ∀ w_6, w_6 = sA w_5 341 (218 : Int32).toNatClampNeg (w_5.2.1 316 (w_5.1 300 29).toNatClampNeg) → vp_in (w_6.1 300 29) 2 ∧ ∀ w_7, w_7 = sA w_6 341 (220 : Int32).toNatClampNeg (w_6.2.1 317 (w_6.1 300 29).toNatClampNeg) → ∀ w_8, w_8 = sI w_7 300 42 (0 : Int32) → ∀ w_9, w_9 = sI w_8 300 43 (0 : Int32) → ∀ w_10, w_10 = sI w_9 300 58 (0 : Int32) → ∀ w_11, w_11 = sI w_10 300 48 (0 : Int32) → ∃ n9, pX11_startAnew_116 post n9 (0 : Int32) w_11)) ∧ (¬ (221 : Int32) ≤ x1 → (vp_in x1 221 ∧ ∀ w_12, w_12 = sA w 341 x1.toNatClampNeg (0 : Int32) → ∀ x1_13, x1_13 = x1 + (1 : Int32) → pX11_startAnew_2 post n x1_13 w_12))
def pX11_startAnew (post : Wd → Prop)  (w : Wd) : Prop := ∃ n9, pX11_startAnew_2 post n9 (0 : Int32) w
set_option maxHeartbeats 4000000 in
set_option maxRecDepth 100000 in
theorem bX11_startAnew_116 {p : Program} {l : Launch} {e : Env} {s : State} {m : MethodId} {args : Array Value} {below : List Frame} {meth : Method} {c : Code} {Q : State → Prop} {A : Nat → Prop} {g : Gw} {post : Wd → Prop}  (hC : Cx p s m args c cX11_startAnew RX11 2 g) (hR : RtV tabM p l e (rk 1) s m args below meth c Q cX11_startAnew A g post)  : ∀ (n : Nat) (x1 : Int32) (w : Wd) (H : Heap) (locs : List Loc) (ls : Array Slot), pX11_startAnew_116 post n x1 w → St tabM A s.heap g w H locs → lv_has ls 2 [(0, .ref (g.2.2 300)), (1, .int x1)] → W p l e (rk 1) s m args below meth c H locs 0 0 Q (F0 m 116 ls []) := by
  have hx := hC.1
  have hb := hC.2.1
  intro n
  induction n with
  | zero =>
    intro x1 w H locs ls hp hS hl
    exact False.elim hp
  | succ n ih =>
    intro x1 w H locs ls hp hS hl
    unfold pX11_startAnew_116 at hp
    refine lv_iload_n hx hb dX11_startAnew_116 rfl (lv_at hl 1 rfl) ?_
    refine lv_iconst hx hb dX11_startAnew_117 kI_3 ?_
    refine lv_icmp_ge (tgt := 134) hx hb dX11_startAnew_118 (by decide) (fun c_1 => ?_) (fun c_1 => ?_)
    · have hp := hp.1 c_1
      exact hR _ _ _ _ _ dX11_startAnew_134 hp hS
    · have hp := hp.2 c_1
      refine lv_aload_n hx hb dX11_startAnew_121 rfl (lv_at hl 0 rfl) ?_
      refine G_300_68 hC hS m297 dX11_startAnew_122 ?_
      refine lv_iload_n hx hb dX11_startAnew_125 rfl (lv_at hl 1 rfl) ?_
      refine lv_iconst hx hb dX11_startAnew_126 kI_0 ?_
      refine Sa_369 hC hS hp.1 dX11_startAnew_127 (fun w_2 H locs ew_2 hS => ?_)
      have hp := hp.2
      have hp := hp w_2 ew_2
      obtain ⟨x1_3, ex1_3⟩ : ∃ y : Int32, y = x1 + (1 : Int32) := ⟨_, rfl⟩
      have hp := hp x1_3 ex1_3
      refine lv_iinc (v := x1_3) (lv' := [(1, .int x1_3), (0, .ref (g.2.2 300))]) hx hb dX11_startAnew_128 hl (k := 1) rfl (by rw [ex1_3]; rfl) (by decide) rfl (fun ls hl => ?_)
      refine lv_goto (tgt := 116) hx hb dX11_startAnew_131 (by decide) ?_
      exact ih x1_3 w_2 _ _ _ hp hS (lv_sub hl [1, 0] rfl)
set_option maxHeartbeats 4000000 in
set_option maxRecDepth 100000 in
theorem bX11_startAnew_2 {p : Program} {l : Launch} {e : Env} {s : State} {m : MethodId} {args : Array Value} {below : List Frame} {meth : Method} {c : Code} {Q : State → Prop} {A : Nat → Prop} {g : Gw} {post : Wd → Prop}  (hC : Cx p s m args c cX11_startAnew RX11 2 g) (hR : RtV tabM p l e (rk 1) s m args below meth c Q cX11_startAnew A g post)  : ∀ (n : Nat) (x1 : Int32) (w : Wd) (H : Heap) (locs : List Loc) (ls : Array Slot), pX11_startAnew_2 post n x1 w → St tabM A s.heap g w H locs → lv_has ls 2 [(0, .ref (g.2.2 300)), (1, .int x1)] → W p l e (rk 1) s m args below meth c H locs 0 0 Q (F0 m 2 ls []) := by
  have hx := hC.1
  have hb := hC.2.1
  intro n
  induction n with
  | zero =>
    intro x1 w H locs ls hp hS hl
    exact False.elim hp
  | succ n ih =>
    intro x1 w H locs ls hp hS hl
    unfold pX11_startAnew_2 at hp
    refine lv_iload_n hx hb dX11_startAnew_2 rfl (lv_at hl 1 rfl) ?_
    refine lv_sipush hx hb dX11_startAnew_3 kS_221 ?_
    refine lv_icmp_ge (tgt := 22) hx hb dX11_startAnew_6 (by decide) (fun c_1 => ?_) (fun c_1 => ?_)
    · have hp := hp.1 c_1
      refine lv_aload_n hx hb dX11_startAnew_22 rfl (lv_at hl 0 rfl) ?_
      refine G_300_40 hC hS m274 dX11_startAnew_23 ?_
      refine lv_iconst hx hb dX11_startAnew_26 kI_0 ?_
      refine lv_aload_n hx hb dX11_startAnew_27 rfl (lv_at hl 0 rfl) ?_
      refine G_300_12 hC hS m257 dX11_startAnew_28 ?_
      refine lv_aload_n hx hb dX11_startAnew_31 rfl (lv_at hl 0 rfl) ?_
      refine G_300_29 hC hS m308 dX11_startAnew_32 ?_
      refine La_313 hC hS hp.1 dX11_startAnew_35 ?_
      have hp := hp.2
      refine Sa_341 hC hS (by unfold vp_in; decide) dX11_startAnew_36 (fun w_2 H locs ew_2 hS => ?_)
      have hp := hp w_2 ew_2
      refine lv_aload_n hx hb dX11_startAnew_37 rfl (lv_at hl 0 rfl) ?_
      refine G_300_40 hC hS m274 dX11_startAnew_38 ?_
      refine lv_iconst hx hb dX11_startAnew_41 kI_1 ?_
      refine lv_iconst hx hb dX11_startAnew_42 kI_m1 ?_
      refine Sa_341 hC hS (by unfold vp_in; decide) dX11_startAnew_43 (fun w_3 H locs ew_3 hS => ?_)
      have hp := hp w_3 ew_3
      refine lv_aload_n hx hb dX11_startAnew_44 rfl (lv_at hl 0 rfl) ?_
      refine G_300_40 hC hS m274 dX11_startAnew_45 ?_
      refine lv_iconst hx hb dX11_startAnew_48 kI_2 ?_
      refine lv_iconst hx hb dX11_startAnew_49 kI_m1 ?_
      refine Sa_341 hC hS (by unfold vp_in; decide) dX11_startAnew_50 (fun w_4 H locs ew_4 hS => ?_)
      have hp := hp w_4 ew_4
      refine lv_aload_n hx hb dX11_startAnew_51 rfl (lv_at hl 0 rfl) ?_
      refine G_300_40 hC hS m274 dX11_startAnew_52 ?_
      refine lv_sipush hx hb dX11_startAnew_55 kS_216 ?_
      refine lv_iconst hx hb dX11_startAnew_58 kI_1 ?_
      refine Sa_341 hC hS (by unfold vp_in; decide) dX11_startAnew_59 (fun w_5 H locs ew_5 hS => ?_)
      have hp := hp w_5 ew_5
      refine lv_aload_n hx hb dX11_startAnew_60 rfl (lv_at hl 0 rfl) ?_
      refine G_300_40 hC hS m274 dX11_startAnew_61 ?_
      refine lv_sipush hx hb dX11_startAnew_64 kS_218 ?_
      refine lv_aload_n hx hb dX11_startAnew_67 rfl (lv_at hl 0 rfl) ?_
      refine G_300_15 hC hS m260 dX11_startAnew_68 ?_
      refine lv_aload_n hx hb dX11_startAnew_71 rfl (lv_at hl 0 rfl) ?_
      refine G_300_29 hC hS m308 dX11_startAnew_72 ?_
      refine La_316 hC hS hp.1 dX11_startAnew_75 ?_
      have hp := hp.2
      refine Sa_341 hC hS (by unfold vp_in; decide) dX11_startAnew_76 (fun w_6 H locs ew_6 hS => ?_)
      have hp := hp w_6 ew_6
      refine lv_aload_n hx hb dX11_startAnew_77 rfl (lv_at hl 0 rfl) ?_
      refine G_300_40 hC hS m274 dX11_startAnew_78 ?_
      refine lv_sipush hx hb dX11_startAnew_81 kS_220 ?_
      refine lv_aload_n hx hb dX11_startAnew_84 rfl (lv_at hl 0 rfl) ?_
      refine G_300_16 hC hS m261 dX11_startAnew_85 ?_
      refine lv_aload_n hx hb dX11_startAnew_88 rfl (lv_at hl 0 rfl) ?_
      refine G_300_29 hC hS m308 dX11_startAnew_89 ?_
      refine La_317 hC hS hp.1 dX11_startAnew_92 ?_
      have hp := hp.2
      refine Sa_341 hC hS (by unfold vp_in; decide) dX11_startAnew_93 (fun w_7 H locs ew_7 hS => ?_)
      have hp := hp w_7 ew_7
      refine lv_aload_n hx hb dX11_startAnew_94 rfl (lv_at hl 0 rfl) ?_
      refine lv_iconst hx hb dX11_startAnew_95 kI_0 ?_
      refine P_300_42 hC hS m309 dX11_startAnew_96 (fun w_8 H locs ew_8 hS => ?_)
      have hp := hp w_8 ew_8
      refine lv_aload_n hx hb dX11_startAnew_99 rfl (lv_at hl 0 rfl) ?_
      refine lv_iconst hx hb dX11_startAnew_100 kI_0 ?_
      refine P_300_43 hC hS m310 dX11_startAnew_101 (fun w_9 H locs ew_9 hS => ?_)
      have hp := hp w_9 ew_9
      refine lv_aload_n hx hb dX11_startAnew_104 rfl (lv_at hl 0 rfl) ?_
      refine lv_iconst hx hb dX11_startAnew_105 kI_0 ?_
      refine P_300_58 hC hS m311 dX11_startAnew_106 (fun w_10 H locs ew_10 hS => ?_)
      have hp := hp w_10 ew_10
      refine lv_aload_n hx hb dX11_startAnew_109 rfl (lv_at hl 0 rfl) ?_
      refine lv_iconst hx hb dX11_startAnew_110 kI_0 ?_
      refine P_300_48 hC hS m312 dX11_startAnew_111 (fun w_11 H locs ew_11 hS => ?_)
      have hp := hp w_11 ew_11
      refine lv_iconst hx hb dX11_startAnew_114 kI_0 ?_
      refine lv_istore_n (lv' := [(1, .int (0 : Int32)), (0, .ref (g.2.2 300))]) hx hb dX11_startAnew_115 rfl hl (by decide) rfl (fun ls hl => ?_)
      obtain ⟨n9, hp⟩ := hp
      exact bX11_startAnew_116 hC hR n9 (0 : Int32) w_11 _ _ _ hp hS (lv_sub hl [1, 0] rfl)
    · have hp := hp.2 c_1
      refine lv_aload_n hx hb dX11_startAnew_9 rfl (lv_at hl 0 rfl) ?_
      refine G_300_40 hC hS m274 dX11_startAnew_10 ?_
      refine lv_iload_n hx hb dX11_startAnew_13 rfl (lv_at hl 1 rfl) ?_
      refine lv_iconst hx hb dX11_startAnew_14 kI_0 ?_
      refine Sa_341 hC hS hp.1 dX11_startAnew_15 (fun w_12 H locs ew_12 hS => ?_)
      have hp := hp.2
      have hp := hp w_12 ew_12
      obtain ⟨x1_13, ex1_13⟩ : ∃ y : Int32, y = x1 + (1 : Int32) := ⟨_, rfl⟩
      have hp := hp x1_13 ex1_13
      refine lv_iinc (v := x1_13) (lv' := [(1, .int x1_13), (0, .ref (g.2.2 300))]) hx hb dX11_startAnew_16 hl (k := 1) rfl (by rw [ex1_13]; rfl) (by decide) rfl (fun ls hl => ?_)
      refine lv_goto (tgt := 2) hx hb dX11_startAnew_19 (by decide) ?_
      exact ih x1_13 w_12 _ _ _ hp hS (lv_sub hl [1, 0] rfl)
set_option maxHeartbeats 4000000 in
set_option maxRecDepth 100000 in
theorem rX11_startAnew {l : Launch} {g : Gw} {w : Wd} {post : Wd → Prop}    (hp : pX11_startAnew post  w) : MtV tabM l yX11_startAnew cX11_startAnew 2 none 1 g w [.ref (g.2.2 300)] post := by
  refine q_entV tabM_nd (by decide) rfl (Nat.le_of_ble_eq_true rfl) ?_
  intro p e s m args below meth c A Q ls hC hR hS hl
  have hx := hC.1
  have hb := hC.2.1
  have hl : lv_has ls 2 [(0, .ref (g.2.2 300))] := hl
  unfold pX11_startAnew at hp
  refine lv_iconst hx hb dX11_startAnew_0 kI_0 ?_
  refine lv_istore_n (lv' := [(1, .int (0 : Int32)), (0, .ref (g.2.2 300))]) hx hb dX11_startAnew_1 rfl hl (by decide) rfl (fun ls hl => ?_)
  obtain ⟨n9, hp⟩ := hp
  exact bX11_startAnew_2 hC hR n9 (0 : Int32) w _ _ _ hp hS (lv_sub hl [1, 0] rfl)
def pX11_chancery_95 (post : Int32 → Wd → Prop)  (w : Wd) : Prop := pX11_isGood (fun r_1 w_2 => (¬ r_1 = 0 → (∀ w_4, w_4 = sI w_2 300 29 (w_2.1 300 30) → pX11_startAnew (fun w_5 => vp_in (w_5.1 300 29) 2 ∧ post (w_5.2.1 314 (w_5.1 300 29).toNatClampNeg) w_5) w_4)) ∧ (r_1 = 0 → (post (-1 : Int32) w_2))) w
def pX11_chancery_74 (post : Int32 → Wd → Prop) : Nat → Wd → Prop
  | 0, _ => False
  | n + 1, w => pX11_isGood (fun r_1 w_2 => (r_1 = 0 → (pX11_chancery_95 post  w_2)) ∧ (¬ r_1 = 0 → (((w_2.1 300 8) = 0 → (pX11_chancery_95 post  w_2)) ∧ (¬ (w_2.1 300 8) = 0 → (False))))) w
def pX11_chancery_20 (post : Int32 → Wd → Prop) : Nat → Int32 → Wd → Prop
  | 0, _, _ => False
  | n + 1, x1, w => ((w.1 300 3) ≤ x1 → (∀ w_2, w_2 = sI w 300 2 (0 : Int32) → ∀ w_3, w_3 = sI w_2 300 7 (0 : Int32) → ∀ w_4, w_4 = sI w_3 300 30 ((1 : Int32) - (w_3.1 300 29)) → pX11_clearBank (fun w_5 => pX11_goOn (fun w_6 => ∃ n9, pX11_chancery_74 post n9  w_6) w_5) w_4)) ∧ (¬ (w.1 300 3) ≤ x1 → (vp_in x1 1620 ∧ vp_in x1 1600 ∧ ∀ w_7, w_7 = sA w 302 x1.toNatClampNeg (vp_nar .byte (w.2.1 301 x1.toNatClampNeg)) → ∀ x1_8, x1_8 = x1 + (1 : Int32) → pX11_chancery_20 post n x1_8 w_7))
def pX11_chancery (post : Int32 → Wd → Prop)  (w : Wd) : Prop := ∀ w_1, w_1 = sI w 300 4 (0 : Int32) → ∀ w_2, w_2 = sI w_1 300 5 (-1 : Int32) → ∀ w_3, w_3 = sI w_2 300 3 (w_2.1 300 2) → ∃ n9, pX11_chancery_20 post n9 (0 : Int32) w_3
set_option maxHeartbeats 4000000 in
set_option maxRecDepth 100000 in
theorem bX11_chancery_95 {p : Program} {l : Launch} {e : Env} {s : State} {m : MethodId} {args : Array Value} {below : List Frame} {meth : Method} {c : Code} {Q : State → Prop} {A : Nat → Prop} {g : Gw} {post : Int32 → Wd → Prop}  (hC : Cx p s m args c cX11_chancery RX11 2 g) (hR : RtI tabM p l e (rk 3) s m args below meth c Q cX11_chancery A g post)  : ∀  (w : Wd) (H : Heap) (locs : List Loc) (ls : Array Slot), pX11_chancery_95 post  w → St tabM A s.heap g w H locs → lv_has ls 2 [(0, .ref (g.2.2 300))] → W p l e (rk 3) s m args below meth c H locs 0 0 Q (F0 m 95 ls []) := by
  have hx := hC.1
  have hb := hC.2.1
  intro  w H locs ls hp hS hl
  unfold pX11_chancery_95 at hp
  refine lv_aload_n hx hb dX11_chancery_95 rfl (lv_at hl 0 rfl) ?_
  refine q_cvI (As := []) (rest := []) hC hS hl.1 (rX11_isGood hp) cwX11_231 yvX11_isGood (rcv_300 hC hS) rfl rfl (Nat.le_of_ble_eq_true rfl) (rmk (by decide) (by decide)) dX11_chancery_96 (fun r_1 w_2 H locs hp hS => ?_)
  refine lv_if_ne (tgt := 104) hx hb dX11_chancery_99 (by decide) (fun c_3 => ?_) (fun c_3 => ?_)
  · have hp := hp.1 c_3
    refine lv_aload_n hx hb dX11_chancery_104 rfl (lv_at hl 0 rfl) ?_
    refine lv_aload_n hx hb dX11_chancery_105 rfl (lv_at hl 0 rfl) ?_
    refine G_300_30 hC hS m302 dX11_chancery_106 ?_
    refine P_300_29 hC hS m308 dX11_chancery_109 (fun w_4 H locs ew_4 hS => ?_)
    have hp := hp w_4 ew_4
    refine lv_aload_n hx hb dX11_chancery_112 rfl (lv_at hl 0 rfl) ?_
    refine q_cvV (As := []) (rest := []) hC hS hl.1 (rX11_startAnew hp) cwX11_150 yvX11_startAnew (rcv_300 hC hS) rfl rfl (Nat.le_of_ble_eq_true rfl) (rmk (by decide) (by decide)) dX11_chancery_113 (fun w_5 H locs hp hS => ?_)
    refine lv_aload_n hx hb dX11_chancery_116 rfl (lv_at hl 0 rfl) ?_
    refine G_300_13 hC hS m258 dX11_chancery_117 ?_
    refine lv_aload_n hx hb dX11_chancery_120 rfl (lv_at hl 0 rfl) ?_
    refine G_300_29 hC hS m308 dX11_chancery_121 ?_
    refine La_314 hC hS hp.1 dX11_chancery_124 ?_
    have hp := hp.2
    exact hR _ _ _ _ _ _ dX11_chancery_125 hp hS
  · have hp := hp.2 c_3
    refine lv_iconst hx hb dX11_chancery_102 kI_m1 ?_
    exact hR _ _ _ _ _ _ dX11_chancery_103 hp hS
set_option maxHeartbeats 4000000 in
set_option maxRecDepth 100000 in
theorem bX11_chancery_74 {p : Program} {l : Launch} {e : Env} {s : State} {m : MethodId} {args : Array Value} {below : List Frame} {meth : Method} {c : Code} {Q : State → Prop} {A : Nat → Prop} {g : Gw} {post : Int32 → Wd → Prop}  (hC : Cx p s m args c cX11_chancery RX11 2 g) (hR : RtI tabM p l e (rk 3) s m args below meth c Q cX11_chancery A g post)  : ∀ (n : Nat)  (w : Wd) (H : Heap) (locs : List Loc) (ls : Array Slot), pX11_chancery_74 post n  w → St tabM A s.heap g w H locs → lv_has ls 2 [(0, .ref (g.2.2 300))] → W p l e (rk 3) s m args below meth c H locs 0 0 Q (F0 m 74 ls []) := by
  have hx := hC.1
  have hb := hC.2.1
  intro n
  induction n with
  | zero =>
    intro  w H locs ls hp hS hl
    exact False.elim hp
  | succ n ih =>
    intro  w H locs ls hp hS hl
    unfold pX11_chancery_74 at hp
    refine lv_aload_n hx hb dX11_chancery_74 rfl (lv_at hl 0 rfl) ?_
    refine q_cvI (As := []) (rest := []) hC hS hl.1 (rX11_isGood hp) cwX11_231 yvX11_isGood (rcv_300 hC hS) rfl rfl (Nat.le_of_ble_eq_true rfl) (rmk (by decide) (by decide)) dX11_chancery_75 (fun r_1 w_2 H locs hp hS => ?_)
    refine lv_if_eq (tgt := 95) hx hb dX11_chancery_78 (by decide) (fun c_3 => ?_) (fun c_3 => ?_)
    · have hp := hp.1 c_3
      exact bX11_chancery_95 hC hR  w_2 _ _ _ hp hS (lv_sub hl [0] rfl)
    · have hp := hp.2 c_3
      refine lv_aload_n hx hb dX11_chancery_81 rfl (lv_at hl 0 rfl) ?_
      refine G_300_8 hC hS m473 dX11_chancery_82 ?_
      refine lv_if_eq (tgt := 95) hx hb dX11_chancery_85 (by decide) (fun c_4 => ?_) (fun c_4 => ?_)
      · have hp := hp.1 c_4
        exact bX11_chancery_95 hC hR  w_2 _ _ _ hp hS (lv_sub hl [0] rfl)
      · have hp := hp.2 c_4
        refine lv_aload_n hx hb dX11_chancery_88 rfl (lv_at hl 0 rfl) ?_
        exact False.elim hp
set_option maxHeartbeats 4000000 in
set_option maxRecDepth 100000 in
theorem bX11_chancery_20 {p : Program} {l : Launch} {e : Env} {s : State} {m : MethodId} {args : Array Value} {below : List Frame} {meth : Method} {c : Code} {Q : State → Prop} {A : Nat → Prop} {g : Gw} {post : Int32 → Wd → Prop}  (hC : Cx p s m args c cX11_chancery RX11 2 g) (hR : RtI tabM p l e (rk 3) s m args below meth c Q cX11_chancery A g post)  : ∀ (n : Nat) (x1 : Int32) (w : Wd) (H : Heap) (locs : List Loc) (ls : Array Slot), pX11_chancery_20 post n x1 w → St tabM A s.heap g w H locs → lv_has ls 2 [(0, .ref (g.2.2 300)), (1, .int x1)] → W p l e (rk 3) s m args below meth c H locs 0 0 Q (F0 m 20 ls []) := by
  have hx := hC.1
  have hb := hC.2.1
  intro n
  induction n with
  | zero =>
    intro x1 w H locs ls hp hS hl
    exact False.elim hp
  | succ n ih =>
    intro x1 w H locs ls hp hS hl
    unfold pX11_chancery_20 at hp
    refine lv_iload_n hx hb dX11_chancery_20 rfl (lv_at hl 1 rfl) ?_
    refine lv_aload_n hx hb dX11_chancery_21 rfl (lv_at hl 0 rfl) ?_
    refine G_300_3 hC hS m471 dX11_chancery_22 ?_
    refine lv_icmp_ge (tgt := 46) hx hb dX11_chancery_25 (by decide) (fun c_1 => ?_) (fun c_1 => ?_)
    · have hp := hp.1 c_1
      refine lv_aload_n hx hb dX11_chancery_46 rfl (lv_at hl 0 rfl) ?_
      refine lv_iconst hx hb dX11_chancery_47 kI_0 ?_
      refine P_300_2 hC hS m325 dX11_chancery_48 (fun w_2 H locs ew_2 hS => ?_)
      have hp := hp w_2 ew_2
      refine lv_aload_n hx hb dX11_chancery_51 rfl (lv_at hl 0 rfl) ?_
      refine lv_iconst hx hb dX11_chancery_52 kI_0 ?_
      refine P_300_7 hC hS m472 dX11_chancery_53 (fun w_3 H locs ew_3 hS => ?_)
      have hp := hp w_3 ew_3
      refine lv_aload_n hx hb dX11_chancery_56 rfl (lv_at hl 0 rfl) ?_
      refine lv_iconst hx hb dX11_chancery_57 kI_1 ?_
      refine lv_aload_n hx hb dX11_chancery_58 rfl (lv_at hl 0 rfl) ?_
      refine G_300_29 hC hS m308 dX11_chancery_59 ?_
      refine lv_isub hx hb dX11_chancery_62 ?_
      refine P_300_30 hC hS m302 dX11_chancery_63 (fun w_4 H locs ew_4 hS => ?_)
      have hp := hp w_4 ew_4
      refine lv_aload_n hx hb dX11_chancery_66 rfl (lv_at hl 0 rfl) ?_
      refine q_cvV (As := []) (rest := []) hC hS hl.1 (rX11_clearBank hp) cwX11_147 yvX11_clearBank (rcv_300 hC hS) rfl rfl (Nat.le_of_ble_eq_true rfl) (rmk (by decide) (by decide)) dX11_chancery_67 (fun w_5 H locs hp hS => ?_)
      refine lv_aload_n hx hb dX11_chancery_70 rfl (lv_at hl 0 rfl) ?_
      refine q_cvV (As := []) (rest := []) hC hS hl.1 (rX11_goOn hp) cwX11_235 yvX11_goOn (rcv_300 hC hS) rfl rfl (Nat.le_of_ble_eq_true rfl) (rmk (by decide) (by decide)) dX11_chancery_71 (fun w_6 H locs hp hS => ?_)
      obtain ⟨n9, hp⟩ := hp
      exact bX11_chancery_74 hC hR n9  w_6 _ _ _ hp hS (lv_sub hl [0] rfl)
    · have hp := hp.2 c_1
      refine lv_aload_n hx hb dX11_chancery_28 rfl (lv_at hl 0 rfl) ?_
      refine G_300_1 hC hS m254 dX11_chancery_29 ?_
      refine lv_iload_n hx hb dX11_chancery_32 rfl (lv_at hl 1 rfl) ?_
      refine lv_aload_n hx hb dX11_chancery_33 rfl (lv_at hl 0 rfl) ?_
      refine G_300_0 hC hS m253 dX11_chancery_34 ?_
      refine lv_iload_n hx hb dX11_chancery_37 rfl (lv_at hl 1 rfl) ?_
      refine La_301 hC hS hp.1 dX11_chancery_38 ?_
      have hp := hp.2
      refine Sa_302 hC hS hp.1 dX11_chancery_39 (fun w_7 H locs ew_7 hS => ?_)
      have hp := hp.2
      have hp := hp w_7 ew_7
      obtain ⟨x1_8, ex1_8⟩ : ∃ y : Int32, y = x1 + (1 : Int32) := ⟨_, rfl⟩
      have hp := hp x1_8 ex1_8
      refine lv_iinc (v := x1_8) (lv' := [(1, .int x1_8), (0, .ref (g.2.2 300))]) hx hb dX11_chancery_40 hl (k := 1) rfl (by rw [ex1_8]; rfl) (by decide) rfl (fun ls hl => ?_)
      refine lv_goto (tgt := 20) hx hb dX11_chancery_43 (by decide) ?_
      exact ih x1_8 w_7 _ _ _ hp hS (lv_sub hl [1, 0] rfl)
set_option maxHeartbeats 4000000 in
set_option maxRecDepth 100000 in
theorem rX11_chancery {l : Launch} {g : Gw} {w : Wd} {post : Int32 → Wd → Prop}    (hp : pX11_chancery post  w) : MtI tabM l yX11_chancery cX11_chancery 2 (some .int) 3 g w [.ref (g.2.2 300)] post := by
  refine q_entI tabM_nd (by decide) rfl (Nat.le_of_ble_eq_true rfl) ?_
  intro p e s m args below meth c A Q ls hC hR hS hl
  have hx := hC.1
  have hb := hC.2.1
  have hl : lv_has ls 2 [(0, .ref (g.2.2 300))] := hl
  unfold pX11_chancery at hp
  refine lv_aload_n hx hb dX11_chancery_0 rfl (lv_at hl 0 rfl) ?_
  refine lv_iconst hx hb dX11_chancery_1 kI_0 ?_
  refine P_300_4 hC hS m470 dX11_chancery_2 (fun w_1 H locs ew_1 hS => ?_)
  have hp := hp w_1 ew_1
  refine lv_aload_n hx hb dX11_chancery_5 rfl (lv_at hl 0 rfl) ?_
  refine lv_iconst hx hb dX11_chancery_6 kI_m1 ?_
  refine P_300_5 hC hS m255 dX11_chancery_7 (fun w_2 H locs ew_2 hS => ?_)
  have hp := hp w_2 ew_2
  refine lv_aload_n hx hb dX11_chancery_10 rfl (lv_at hl 0 rfl) ?_
  refine lv_aload_n hx hb dX11_chancery_11 rfl (lv_at hl 0 rfl) ?_
  refine G_300_2 hC hS m325 dX11_chancery_12 ?_
  refine P_300_3 hC hS m471 dX11_chancery_15 (fun w_3 H locs ew_3 hS => ?_)
  have hp := hp w_3 ew_3
  refine lv_iconst hx hb dX11_chancery_18 kI_0 ?_
  refine lv_istore_n (lv' := [(1, .int (0 : Int32)), (0, .ref (g.2.2 300))]) hx hb dX11_chancery_19 rfl hl (by decide) rfl (fun ls hl => ?_)
  obtain ⟨n9, hp⟩ := hp
  exact bX11_chancery_20 hC hR n9 (0 : Int32) w_3 _ _ _ hp hS (lv_sub hl [1, 0] rfl)
def pX11_fault (post : Int32 → Wd → Prop) (x1 : Int32) (w : Wd) : Prop := (¬ x1 = 0 → ((¬ x1 = (1 : Int32) → (post (-1 : Int32) w)) ∧ (x1 = (1 : Int32) → (post (w.1 300 5) w)))) ∧ (x1 = 0 → (post (w.1 300 4) w))
set_option maxHeartbeats 4000000 in
set_option maxRecDepth 100000 in
theorem rX11_fault {l : Launch} {g : Gw} {w : Wd} {post : Int32 → Wd → Prop}   {x1 : Int32} (hp : pX11_fault post x1 w) : MtI tabM l yX11_fault cX11_fault 2 (some .int) 1 g w [.ref (g.2.2 300), .int x1] post := by
  refine q_entI tabM_nd (by decide) rfl (Nat.le_of_ble_eq_true rfl) ?_
  intro p e s m args below meth c A Q ls hC hR hS hl
  have hx := hC.1
  have hb := hC.2.1
  have hl : lv_has ls 2 [(0, .ref (g.2.2 300)), (1, .int x1)] := hl
  unfold pX11_fault at hp
  refine lv_iload_n hx hb dX11_fault_0 rfl (lv_at hl 1 rfl) ?_
  refine lv_if_ne (tgt := 11) hx hb dX11_fault_1 (by decide) (fun c_1 => ?_) (fun c_1 => ?_)
  · have hp := hp.1 c_1
    refine lv_iload_n hx hb dX11_fault_11 rfl (lv_at hl 1 rfl) ?_
    refine lv_iconst hx hb dX11_fault_12 kI_1 ?_
    refine lv_icmp_ne (tgt := 23) hx hb dX11_fault_13 (by decide) (fun c_2 => ?_) (fun c_2 => ?_)
    · have hp := hp.1 c_2
      refine lv_iconst hx hb dX11_fault_23 kI_m1 ?_
      exact hR _ _ _ _ _ _ dX11_fault_24 hp hS
    · have hp := hp.2 c_2
      refine lv_aload_n hx hb dX11_fault_16 rfl (lv_at hl 0 rfl) ?_
      refine G_300_5 hC hS m255 dX11_fault_17 ?_
      refine lv_goto (tgt := 24) hx hb dX11_fault_20 (by decide) ?_
      exact hR _ _ _ _ _ _ dX11_fault_24 hp hS
  · have hp := hp.2 c_1
    refine lv_aload_n hx hb dX11_fault_4 rfl (lv_at hl 0 rfl) ?_
    refine G_300_4 hC hS m470 dX11_fault_5 ?_
    refine lv_goto (tgt := 24) hx hb dX11_fault_8 (by decide) ?_
    exact hR _ _ _ _ _ _ dX11_fault_24 hp hS
def pX11_deep_4 (post : Int32 → Wd → Prop) : Nat → Int32 → Int32 → Wd → Prop
  | 0, _, _, _ => False
  | n + 1, x2, x3, w => (x3 ≤ 0 → (post x2 w)) ∧ (¬ x3 ≤ 0 → (∀ x2_2, x2_2 = x2 + (1 : Int32) → vp_in (((4 : Int32) * x3) + (1 : Int32)) 221 ∧ ∀ x3_3, x3_3 = (w.2.1 341 (((4 : Int32) * x3) + (1 : Int32)).toNatClampNeg) → pX11_deep_4 post n x2_2 x3_3 w))
def pX11_deep (post : Int32 → Wd → Prop) (x1 : Int32) (w : Wd) : Prop := ∃ n9, pX11_deep_4 post n9 (0 : Int32) x1 w
set_option maxHeartbeats 4000000 in
set_option maxRecDepth 100000 in
theorem bX11_deep_4 {p : Program} {l : Launch} {e : Env} {s : State} {m : MethodId} {args : Array Value} {below : List Frame} {meth : Method} {c : Code} {Q : State → Prop} {A : Nat → Prop} {g : Gw} {post : Int32 → Wd → Prop}  (hC : Cx p s m args c cX11_deep RX11 4 g) (hR : RtI tabM p l e (rk 1) s m args below meth c Q cX11_deep A g post)  : ∀ (n : Nat) (x2 : Int32) (x3 : Int32) (w : Wd) (H : Heap) (locs : List Loc) (ls : Array Slot), pX11_deep_4 post n x2 x3 w → St tabM A s.heap g w H locs → lv_has ls 4 [(0, .ref (g.2.2 300)), (2, .int x2), (3, .int x3)] → W p l e (rk 1) s m args below meth c H locs 0 0 Q (F0 m 4 ls []) := by
  have hx := hC.1
  have hb := hC.2.1
  intro n
  induction n with
  | zero =>
    intro x2 x3 w H locs ls hp hS hl
    exact False.elim hp
  | succ n ih =>
    intro x2 x3 w H locs ls hp hS hl
    unfold pX11_deep_4 at hp
    refine lv_iload_n hx hb dX11_deep_4 rfl (lv_at hl 2 rfl) ?_
    refine lv_if_le (tgt := 25) hx hb dX11_deep_5 (by decide) (fun c_1 => ?_) (fun c_1 => ?_)
    · have hp := hp.1 c_1
      refine lv_iload_n hx hb dX11_deep_25 rfl (lv_at hl 1 rfl) ?_
      exact hR _ _ _ _ _ _ dX11_deep_26 hp hS
    · have hp := hp.2 c_1
      obtain ⟨x2_2, ex2_2⟩ : ∃ y : Int32, y = x2 + (1 : Int32) := ⟨_, rfl⟩
      have hp := hp x2_2 ex2_2
      refine lv_iinc (v := x2_2) (lv' := [(2, .int x2_2), (0, .ref (g.2.2 300)), (3, .int x3)]) hx hb dX11_deep_8 hl (k := 1) rfl (by rw [ex2_2]; rfl) (by decide) rfl (fun ls hl => ?_)
      refine lv_aload_n hx hb dX11_deep_11 rfl (lv_at hl 1 rfl) ?_
      refine G_300_40 hC hS m274 dX11_deep_12 ?_
      refine lv_iconst hx hb dX11_deep_15 kI_4 ?_
      refine lv_iload_n hx hb dX11_deep_16 rfl (lv_at hl 2 rfl) ?_
      refine lv_imul hx hb dX11_deep_17 ?_
      refine lv_iconst hx hb dX11_deep_18 kI_1 ?_
      refine lv_iadd hx hb dX11_deep_19 ?_
      refine La_341 hC hS hp.1 dX11_deep_20 ?_
      have hp := hp.2
      refine lv_topi (fun x3_3 ex3_3 => ?_)
      have hp := hp x3_3 ex3_3
      refine lv_istore_n (lv' := [(3, .int x3_3), (2, .int x2_2), (0, .ref (g.2.2 300))]) hx hb dX11_deep_21 rfl hl (by decide) rfl (fun ls hl => ?_)
      refine lv_goto (tgt := 4) hx hb dX11_deep_22 (by decide) ?_
      exact ih x2_2 x3_3 w _ _ _ hp hS (lv_sub hl [2, 1, 0] rfl)
set_option maxHeartbeats 4000000 in
set_option maxRecDepth 100000 in
theorem rX11_deep {l : Launch} {g : Gw} {w : Wd} {post : Int32 → Wd → Prop}   {x1 : Int32} (hp : pX11_deep post x1 w) : MtI tabM l yX11_deep cX11_deep 4 (some .int) 1 g w [.ref (g.2.2 300), .int x1] post := by
  refine q_entI tabM_nd (by decide) rfl (Nat.le_of_ble_eq_true rfl) ?_
  intro p e s m args below meth c A Q ls hC hR hS hl
  have hx := hC.1
  have hb := hC.2.1
  have hl : lv_has ls 4 [(0, .ref (g.2.2 300)), (1, .int x1)] := hl
  unfold pX11_deep at hp
  refine lv_iconst hx hb dX11_deep_0 kI_0 ?_
  refine lv_istore_n (lv' := [(2, .int (0 : Int32)), (0, .ref (g.2.2 300)), (1, .int x1)]) hx hb dX11_deep_1 rfl hl (by decide) rfl (fun ls hl => ?_)
  refine lv_iload_n hx hb dX11_deep_2 rfl (lv_at hl 2 rfl) ?_
  refine lv_istore_n (lv' := [(3, .int x1), (2, .int (0 : Int32)), (0, .ref (g.2.2 300)), (1, .int x1)]) hx hb dX11_deep_3 rfl hl (by decide) rfl (fun ls hl => ?_)
  obtain ⟨n9, hp⟩ := hp
  exact bX11_deep_4 hC hR n9 (0 : Int32) x1 w _ _ _ hp hS (lv_sub hl [2, 1, 0] rfl)
def pX11_isIn (post : Int32 → Wd → Prop) (x0 : Int32) (x1 : Int32) (x2 : Int32) (w : Wd) : Prop := (x0 < x1 → (post (0 : Int32) w)) ∧ (¬ x0 < x1 → ((x2 < x0 → (post (0 : Int32) w)) ∧ (¬ x2 < x0 → (post (1 : Int32) w))))
set_option maxHeartbeats 4000000 in
set_option maxRecDepth 100000 in
theorem rX11_isIn {l : Launch} {g : Gw} {w : Wd} {post : Int32 → Wd → Prop}   {x0 : Int32} {x1 : Int32} {x2 : Int32} (hp : pX11_isIn post x0 x1 x2 w) : MtI tabM l yX11_isIn cX11_isIn 3 (some .boolean) 1 g w [.int x0, .int x1, .int x2] post := by
  refine q_entZ tabM_nd (by decide) rfl (Nat.le_of_ble_eq_true rfl) ?_
  intro p e s m args below meth c A Q ls hC hR hS hl
  have hx := hC.1
  have hb := hC.2.1
  have hl : lv_has ls 3 [(0, .int x0), (1, .int x1), (2, .int x2)] := hl
  unfold pX11_isIn at hp
  refine lv_iload_n hx hb dX11_isIn_0 rfl (lv_at hl 0 rfl) ?_
  refine lv_iload_n hx hb dX11_isIn_1 rfl (lv_at hl 1 rfl) ?_
  refine lv_icmp_lt (tgt := 14) hx hb dX11_isIn_2 (by decide) (fun c_1 => ?_) (fun c_1 => ?_)
  · have hp := hp.1 c_1
    refine lv_iconst hx hb dX11_isIn_14 kI_0 ?_
    exact hR _ _ _ _ _ _ dX11_isIn_15 (by decide) hp hS
  · have hp := hp.2 c_1
    refine lv_iload_n hx hb dX11_isIn_5 rfl (lv_at hl 0 rfl) ?_
    refine lv_iload_n hx hb dX11_isIn_6 rfl (lv_at hl 2 rfl) ?_
    refine lv_icmp_gt (tgt := 14) hx hb dX11_isIn_7 (by decide) (fun c_2 => ?_) (fun c_2 => ?_)
    · have hp := hp.1 c_2
      refine lv_iconst hx hb dX11_isIn_14 kI_0 ?_
      exact hR _ _ _ _ _ _ dX11_isIn_15 (by decide) hp hS
    · have hp := hp.2 c_2
      refine lv_iconst hx hb dX11_isIn_10 kI_1 ?_
      refine lv_goto (tgt := 15) hx hb dX11_isIn_11 (by decide) ?_
      exact hR _ _ _ _ _ _ dX11_isIn_15 (by decide) hp hS
def pX11_isSeal (post : Int32 → Wd → Prop) (x1 : Int32) (w : Wd) : Prop := pX11_isIn (fun r_1 w_2 => r_1 = vp_nar .boolean r_1 ∧ post r_1 w_2) x1 (0 : Int32) ((w.2.1 341 (216 : Int32).toNatClampNeg) - (1 : Int32)) w
set_option maxHeartbeats 4000000 in
set_option maxRecDepth 100000 in
theorem rX11_isSeal {l : Launch} {g : Gw} {w : Wd} {post : Int32 → Wd → Prop}   {x1 : Int32} (hp : pX11_isSeal post x1 w) : MtI tabM l yX11_isSeal cX11_isSeal 2 (some .boolean) 2 g w [.ref (g.2.2 300), .int x1] post := by
  refine q_entZ tabM_nd (by decide) rfl (Nat.le_of_ble_eq_true rfl) ?_
  intro p e s m args below meth c A Q ls hC hR hS hl
  have hx := hC.1
  have hb := hC.2.1
  have hl : lv_has ls 2 [(0, .ref (g.2.2 300)), (1, .int x1)] := hl
  unfold pX11_isSeal at hp
  refine lv_iload_n hx hb dX11_isSeal_0 rfl (lv_at hl 1 rfl) ?_
  refine lv_iconst hx hb dX11_isSeal_1 kI_0 ?_
  refine lv_aload_n hx hb dX11_isSeal_2 rfl (lv_at hl 0 rfl) ?_
  refine G_300_40 hC hS m274 dX11_isSeal_3 ?_
  refine lv_sipush hx hb dX11_isSeal_6 kS_216 ?_
  refine La_341 hC hS (by unfold vp_in; decide) dX11_isSeal_9 ?_
  refine lv_iconst hx hb dX11_isSeal_10 kI_1 ?_
  refine lv_isub hx hb dX11_isSeal_11 ?_
  refine q_csI (As := [.int x1, .int (0 : Int32), .int ((w.2.1 341 (216 : Int32).toNatClampNeg) - (1 : Int32))]) (rest := []) hC hS hl.1 (rX11_isIn hp) cwX11_345 ysX11_isIn rfl rfl (Nat.le_of_ble_eq_true rfl) (rmk (by decide) (by decide)) dX11_isSeal_12 (fun r_1 w_2 H locs hp hS => ?_)
  exact hR _ _ _ _ _ _ dX11_isSeal_15 hp.1 hp.2 hS
def pX11_seal (post : Int32 → Wd → Prop) (x1 : Int32) (x2 : Int32) (w : Wd) : Prop := pX11_isSeal (fun r_1 w_2 => (r_1 = 0 → (post (-1 : Int32) w_2)) ∧ (¬ r_1 = 0 → (pX11_isIn (fun r_4 w_5 => (¬ r_4 = 0 → ((¬ x2 = (4 : Int32) → (vp_in (((4 : Int32) * x1) + x2) 221 ∧ post (w_5.2.1 341 (((4 : Int32) * x1) + x2).toNatClampNeg) w_5)) ∧ (x2 = (4 : Int32) → (pX11_deep (fun r_8 w_9 => post r_8 w_9) x1 w_5)))) ∧ (r_4 = 0 → (post (-1 : Int32) w_5))) x2 (0 : Int32) (4 : Int32) w_2))) x1 w
set_option maxHeartbeats 4000000 in
set_option maxRecDepth 100000 in
theorem rX11_seal {l : Launch} {g : Gw} {w : Wd} {post : Int32 → Wd → Prop}   {x1 : Int32} {x2 : Int32} (hp : pX11_seal post x1 x2 w) : MtI tabM l yX11_seal cX11_seal 3 (some .int) 3 g w [.ref (g.2.2 300), .int x1, .int x2] post := by
  refine q_entI tabM_nd (by decide) rfl (Nat.le_of_ble_eq_true rfl) ?_
  intro p e s m args below meth c A Q ls hC hR hS hl
  have hx := hC.1
  have hb := hC.2.1
  have hl : lv_has ls 3 [(0, .ref (g.2.2 300)), (1, .int x1), (2, .int x2)] := hl
  unfold pX11_seal at hp
  refine lv_aload_n hx hb dX11_seal_0 rfl (lv_at hl 0 rfl) ?_
  refine lv_iload_n hx hb dX11_seal_1 rfl (lv_at hl 1 rfl) ?_
  refine q_cvI (As := [.int x1]) (rest := []) hC hS hl.1 (rX11_isSeal hp) cwX11_383 yvX11_isSeal (rcv_300 hC hS) rfl rfl (Nat.le_of_ble_eq_true rfl) (rmk (by decide) (by decide)) dX11_seal_2 (fun r_1 w_2 H locs hp hS => ?_)
  refine lv_if_eq (tgt := 17) hx hb dX11_seal_5 (by decide) (fun c_3 => ?_) (fun c_3 => ?_)
  · have hp := hp.1 c_3
    refine lv_iconst hx hb dX11_seal_17 kI_m1 ?_
    refine lv_goto (tgt := 44) hx hb dX11_seal_18 (by decide) ?_
    exact hR _ _ _ _ _ _ dX11_seal_44 hp hS
  · have hp := hp.2 c_3
    refine lv_iload_n hx hb dX11_seal_8 rfl (lv_at hl 2 rfl) ?_
    refine lv_iconst hx hb dX11_seal_9 kI_0 ?_
    refine lv_iconst hx hb dX11_seal_10 kI_4 ?_
    refine q_csI (As := [.int x2, .int (0 : Int32), .int (4 : Int32)]) (rest := []) hC hS hl.1 (rX11_isIn hp) cwX11_345 ysX11_isIn rfl rfl (Nat.le_of_ble_eq_true rfl) (rmk (by decide) (by decide)) dX11_seal_11 (fun r_4 w_5 H locs hp hS => ?_)
    refine lv_if_ne (tgt := 21) hx hb dX11_seal_14 (by decide) (fun c_6 => ?_) (fun c_6 => ?_)
    · have hp := hp.1 c_6
      refine lv_iload_n hx hb dX11_seal_21 rfl (lv_at hl 2 rfl) ?_
      refine lv_iconst hx hb dX11_seal_22 kI_4 ?_
      refine lv_icmp_ne (tgt := 34) hx hb dX11_seal_23 (by decide) (fun c_7 => ?_) (fun c_7 => ?_)
      · have hp := hp.1 c_7
        refine lv_aload_n hx hb dX11_seal_34 rfl (lv_at hl 0 rfl) ?_
        refine G_300_40 hC hS m274 dX11_seal_35 ?_
        refine lv_iconst hx hb dX11_seal_38 kI_4 ?_
        refine lv_iload_n hx hb dX11_seal_39 rfl (lv_at hl 1 rfl) ?_
        refine lv_imul hx hb dX11_seal_40 ?_
        refine lv_iload_n hx hb dX11_seal_41 rfl (lv_at hl 2 rfl) ?_
        refine lv_iadd hx hb dX11_seal_42 ?_
        refine La_341 hC hS hp.1 dX11_seal_43 ?_
        have hp := hp.2
        exact hR _ _ _ _ _ _ dX11_seal_44 hp hS
      · have hp := hp.2 c_7
        refine lv_aload_n hx hb dX11_seal_26 rfl (lv_at hl 0 rfl) ?_
        refine lv_iload_n hx hb dX11_seal_27 rfl (lv_at hl 1 rfl) ?_
        refine q_cvI (As := [.int x1]) (rest := []) hC hS hl.1 (rX11_deep hp) cwX11_386 yvX11_deep (rcv_300 hC hS) rfl rfl (Nat.le_of_ble_eq_true rfl) (rmk (by decide) (by decide)) dX11_seal_28 (fun r_8 w_9 H locs hp hS => ?_)
        refine lv_goto (tgt := 44) hx hb dX11_seal_31 (by decide) ?_
        exact hR _ _ _ _ _ _ dX11_seal_44 hp hS
    · have hp := hp.2 c_6
      refine lv_iconst hx hb dX11_seal_17 kI_m1 ?_
      refine lv_goto (tgt := 44) hx hb dX11_seal_18 (by decide) ?_
      exact hR _ _ _ _ _ _ dX11_seal_44 hp hS
def pX11_shown (post : Int32 → Wd → Prop) (x1 : Int32) (x2 : Int32) (w : Wd) : Prop := pX11_isIn (fun r_1 w_2 => (r_1 = 0 → (post (-1 : Int32) w_2)) ∧ (¬ r_1 = 0 → (pX11_isIn (fun r_4 w_5 => (r_4 = 0 → (post (-1 : Int32) w_5)) ∧ (¬ r_4 = 0 → (vp_in (((96 : Int32) + ((3 : Int32) * x1)) + x2) 221 ∧ post (w_5.2.1 341 (((96 : Int32) + ((3 : Int32) * x1)) + x2).toNatClampNeg) w_5))) x2 (0 : Int32) (2 : Int32) w_2))) x1 (0 : Int32) ((w.2.1 341 (217 : Int32).toNatClampNeg) - (1 : Int32)) w
set_option maxHeartbeats 4000000 in
set_option maxRecDepth 100000 in
theorem rX11_shown {l : Launch} {g : Gw} {w : Wd} {post : Int32 → Wd → Prop}   {x1 : Int32} {x2 : Int32} (hp : pX11_shown post x1 x2 w) : MtI tabM l yX11_shown cX11_shown 3 (some .int) 2 g w [.ref (g.2.2 300), .int x1, .int x2] post := by
  refine q_entI tabM_nd (by decide) rfl (Nat.le_of_ble_eq_true rfl) ?_
  intro p e s m args below meth c A Q ls hC hR hS hl
  have hx := hC.1
  have hb := hC.2.1
  have hl : lv_has ls 3 [(0, .ref (g.2.2 300)), (1, .int x1), (2, .int x2)] := hl
  unfold pX11_shown at hp
  refine lv_iload_n hx hb dX11_shown_0 rfl (lv_at hl 1 rfl) ?_
  refine lv_iconst hx hb dX11_shown_1 kI_0 ?_
  refine lv_aload_n hx hb dX11_shown_2 rfl (lv_at hl 0 rfl) ?_
  refine G_300_40 hC hS m274 dX11_shown_3 ?_
  refine lv_sipush hx hb dX11_shown_6 kS_217 ?_
  refine La_341 hC hS (by unfold vp_in; decide) dX11_shown_9 ?_
  refine lv_iconst hx hb dX11_shown_10 kI_1 ?_
  refine lv_isub hx hb dX11_shown_11 ?_
  refine q_csI (As := [.int x1, .int (0 : Int32), .int ((w.2.1 341 (217 : Int32).toNatClampNeg) - (1 : Int32))]) (rest := []) hC hS hl.1 (rX11_isIn hp) cwX11_345 ysX11_isIn rfl rfl (Nat.le_of_ble_eq_true rfl) (rmk (by decide) (by decide)) dX11_shown_12 (fun r_1 w_2 H locs hp hS => ?_)
  refine lv_if_eq (tgt := 43) hx hb dX11_shown_15 (by decide) (fun c_3 => ?_) (fun c_3 => ?_)
  · have hp := hp.1 c_3
    refine lv_iconst hx hb dX11_shown_43 kI_m1 ?_
    exact hR _ _ _ _ _ _ dX11_shown_44 hp hS
  · have hp := hp.2 c_3
    refine lv_iload_n hx hb dX11_shown_18 rfl (lv_at hl 2 rfl) ?_
    refine lv_iconst hx hb dX11_shown_19 kI_0 ?_
    refine lv_iconst hx hb dX11_shown_20 kI_2 ?_
    refine q_csI (As := [.int x2, .int (0 : Int32), .int (2 : Int32)]) (rest := []) hC hS hl.1 (rX11_isIn hp) cwX11_345 ysX11_isIn rfl rfl (Nat.le_of_ble_eq_true rfl) (rmk (by decide) (by decide)) dX11_shown_21 (fun r_4 w_5 H locs hp hS => ?_)
    refine lv_if_eq (tgt := 43) hx hb dX11_shown_24 (by decide) (fun c_6 => ?_) (fun c_6 => ?_)
    · have hp := hp.1 c_6
      refine lv_iconst hx hb dX11_shown_43 kI_m1 ?_
      exact hR _ _ _ _ _ _ dX11_shown_44 hp hS
    · have hp := hp.2 c_6
      refine lv_aload_n hx hb dX11_shown_27 rfl (lv_at hl 0 rfl) ?_
      refine G_300_40 hC hS m274 dX11_shown_28 ?_
      refine lv_bipush hx hb dX11_shown_31 kB_96 ?_
      refine lv_iconst hx hb dX11_shown_33 kI_3 ?_
      refine lv_iload_n hx hb dX11_shown_34 rfl (lv_at hl 1 rfl) ?_
      refine lv_imul hx hb dX11_shown_35 ?_
      refine lv_iadd hx hb dX11_shown_36 ?_
      refine lv_iload_n hx hb dX11_shown_37 rfl (lv_at hl 2 rfl) ?_
      refine lv_iadd hx hb dX11_shown_38 ?_
      refine La_341 hC hS hp.1 dX11_shown_39 ?_
      have hp := hp.2
      refine lv_goto (tgt := 44) hx hb dX11_shown_40 (by decide) ?_
      exact hR _ _ _ _ _ _ dX11_shown_44 hp hS
def pX11_width (post : Int32 → Wd → Prop)  (w : Wd) : Prop := vp_in (w.1 300 29) 2 ∧ post (w.2.1 312 (w.1 300 29).toNatClampNeg) w
set_option maxHeartbeats 4000000 in
set_option maxRecDepth 100000 in
theorem rX11_width {l : Launch} {g : Gw} {w : Wd} {post : Int32 → Wd → Prop}    (hp : pX11_width post  w) : MtI tabM l yX11_width cX11_width 1 (some .int) 1 g w [.ref (g.2.2 300)] post := by
  refine q_entI tabM_nd (by decide) rfl (Nat.le_of_ble_eq_true rfl) ?_
  intro p e s m args below meth c A Q ls hC hR hS hl
  have hx := hC.1
  have hb := hC.2.1
  have hl : lv_has ls 1 [(0, .ref (g.2.2 300))] := hl
  unfold pX11_width at hp
  refine lv_aload_n hx hb dX11_width_0 rfl (lv_at hl 0 rfl) ?_
  refine G_300_11 hC hS m256 dX11_width_1 ?_
  refine lv_aload_n hx hb dX11_width_4 rfl (lv_at hl 0 rfl) ?_
  refine G_300_29 hC hS m308 dX11_width_5 ?_
  refine La_312 hC hS hp.1 dX11_width_8 ?_
  have hp := hp.2
  exact hR _ _ _ _ _ _ dX11_width_9 hp hS
def pX11_isRow (post : Int32 → Wd → Prop) (x1 : Int32) (w : Wd) : Prop := (x1 < 0 → (post (0 : Int32) w)) ∧ (¬ x1 < 0 → (pX11_width (fun r_2 w_3 => (((1 : Int32) <<< (r_2 &&& 31)) ≤ x1 → (post (0 : Int32) w_3)) ∧ (¬ ((1 : Int32) <<< (r_2 &&& 31)) ≤ x1 → (post (1 : Int32) w_3))) w))
set_option maxHeartbeats 4000000 in
set_option maxRecDepth 100000 in
theorem rX11_isRow {l : Launch} {g : Gw} {w : Wd} {post : Int32 → Wd → Prop}   {x1 : Int32} (hp : pX11_isRow post x1 w) : MtI tabM l yX11_isRow cX11_isRow 2 (some .boolean) 2 g w [.ref (g.2.2 300), .int x1] post := by
  refine q_entZ tabM_nd (by decide) rfl (Nat.le_of_ble_eq_true rfl) ?_
  intro p e s m args below meth c A Q ls hC hR hS hl
  have hx := hC.1
  have hb := hC.2.1
  have hl : lv_has ls 2 [(0, .ref (g.2.2 300)), (1, .int x1)] := hl
  unfold pX11_isRow at hp
  refine lv_iload_n hx hb dX11_isRow_0 rfl (lv_at hl 1 rfl) ?_
  refine lv_if_lt (tgt := 18) hx hb dX11_isRow_1 (by decide) (fun c_1 => ?_) (fun c_1 => ?_)
  · have hp := hp.1 c_1
    refine lv_iconst hx hb dX11_isRow_18 kI_0 ?_
    exact hR _ _ _ _ _ _ dX11_isRow_19 (by decide) hp hS
  · have hp := hp.2 c_1
    refine lv_iload_n hx hb dX11_isRow_4 rfl (lv_at hl 1 rfl) ?_
    refine lv_iconst hx hb dX11_isRow_5 kI_1 ?_
    refine lv_aload_n hx hb dX11_isRow_6 rfl (lv_at hl 0 rfl) ?_
    refine q_cvI (As := []) (rest := [.int (1 : Int32), .int x1]) hC hS hl.1 (rX11_width hp) cwX11_342 yvX11_width (rcv_300 hC hS) rfl rfl (Nat.le_of_ble_eq_true rfl) (rmk (by decide) (by decide)) dX11_isRow_7 (fun r_2 w_3 H locs hp hS => ?_)
    refine lv_ishl hx hb dX11_isRow_10 ?_
    refine lv_icmp_ge (tgt := 18) hx hb dX11_isRow_11 (by decide) (fun c_4 => ?_) (fun c_4 => ?_)
    · have hp := hp.1 c_4
      refine lv_iconst hx hb dX11_isRow_18 kI_0 ?_
      exact hR _ _ _ _ _ _ dX11_isRow_19 (by decide) hp hS
    · have hp := hp.2 c_4
      refine lv_iconst hx hb dX11_isRow_14 kI_1 ?_
      refine lv_goto (tgt := 19) hx hb dX11_isRow_15 (by decide) ?_
      exact hR _ _ _ _ _ _ dX11_isRow_19 (by decide) hp hS
def pX11_prints_90 (k30 : Int32 → Int32 → Int32 → Int32 → Int32 → Int32 → Wd → Prop) (post : Int32 → Wd → Prop) (x1 : Int32) (x2 : Int32) (x3 : Int32) (x4 : Int32) (x5 : Int32) (x6 : Int32) (w : Wd) : Prop := ∀ x6_1, x6_1 = x6 + (1 : Int32) → k30 x1 x2 x3 x4 x5 x6_1 w
def pX11_prints_30 (post : Int32 → Wd → Prop) : Nat → Int32 → Int32 → Int32 → Int32 → Int32 → Int32 → Wd → Prop
  | 0, _, _, _, _, _, _, _ => False
  | n + 1, x1, x2, x3, x4, x5, x6, w => ((w.2.1 341 (217 : Int32).toNatClampNeg) ≤ x6 → ((¬ x2 = 0 → ((¬ x2 = (1 : Int32) → (post x5 w)) ∧ (x2 = (1 : Int32) → (post x4 w)))) ∧ (x2 = 0 → (post x3 w)))) ∧ (¬ (w.2.1 341 (217 : Int32).toNatClampNeg) ≤ x6 → (vp_in ((96 : Int32) + ((3 : Int32) * x6)) 221 ∧ ((w.2.1 341 ((96 : Int32) + ((3 : Int32) * x6)).toNatClampNeg) = x1 → (∀ x3_5, x3_5 = x3 + (1 : Int32) → vp_in (((96 : Int32) + ((3 : Int32) * x6)) + (2 : Int32)) 221 ∧ ∀ x5_6, x5_6 = (w.2.1 341 (((96 : Int32) + ((3 : Int32) * x6)) + (2 : Int32)).toNatClampNeg) → (0 ≤ x4 → (pX11_prints_90 (pX11_prints_30 post n) post x1 x2 x3_5 x4 x5_6 x6 w)) ∧ (¬ 0 ≤ x4 → (pX11_prints_90 (pX11_prints_30 post n) post x1 x2 x3_5 x5_6 x5_6 x6 w)))) ∧ (¬ (w.2.1 341 ((96 : Int32) + ((3 : Int32) * x6)).toNatClampNeg) = x1 → (pX11_prints_90 (pX11_prints_30 post n) post x1 x2 x3 x4 x5 x6 w))))
def pX11_prints (post : Int32 → Wd → Prop) (x1 : Int32) (x2 : Int32) (w : Wd) : Prop := pX11_isRow (fun r_1 w_2 => (r_1 = 0 → (post (-1 : Int32) w_2)) ∧ (¬ r_1 = 0 → (pX11_isIn (fun r_4 w_5 => (¬ r_4 = 0 → (∃ n9, pX11_prints_30 post n9 x1 x2 (0 : Int32) (-1 : Int32) (-1 : Int32) (0 : Int32) w_5)) ∧ (r_4 = 0 → (post (-1 : Int32) w_5))) x2 (0 : Int32) (2 : Int32) w_2))) x1 w
set_option maxHeartbeats 4000000 in
set_option maxRecDepth 100000 in
theorem bX11_prints_90 {p : Program} {l : Launch} {e : Env} {s : State} {m : MethodId} {args : Array Value} {below : List Frame} {meth : Method} {c : Code} {Q : State → Prop} {A : Nat → Prop} {g : Gw} {post : Int32 → Wd → Prop}  (hC : Cx p s m args c cX11_prints RX11 7 g) (hR : RtI tabM p l e (rk 3) s m args below meth c Q cX11_prints A g post)  {k30 : Int32 → Int32 → Int32 → Int32 → Int32 → Int32 → Wd → Prop} (hk30 : ∀ (x1 : Int32) (x2 : Int32) (x3 : Int32) (x4 : Int32) (x5 : Int32) (x6 : Int32) (w : Wd) (H : Heap) (locs : List Loc) (ls : Array Slot), k30 x1 x2 x3 x4 x5 x6 w → St tabM A s.heap g w H locs → lv_has ls 7 [(0, .ref (g.2.2 300)), (1, .int x1), (2, .int x2), (3, .int x3), (4, .int x4), (5, .int x5), (6, .int x6)] → W p l e (rk 3) s m args below meth c H locs 0 0 Q (F0 m 30 ls [])) : ∀ (x1 : Int32) (x2 : Int32) (x3 : Int32) (x4 : Int32) (x5 : Int32) (x6 : Int32) (w : Wd) (H : Heap) (locs : List Loc) (ls : Array Slot), pX11_prints_90 k30 post x1 x2 x3 x4 x5 x6 w → St tabM A s.heap g w H locs → lv_has ls 7 [(0, .ref (g.2.2 300)), (1, .int x1), (2, .int x2), (3, .int x3), (4, .int x4), (5, .int x5), (6, .int x6)] → W p l e (rk 3) s m args below meth c H locs 0 0 Q (F0 m 90 ls []) := by
  have hx := hC.1
  have hb := hC.2.1
  intro x1 x2 x3 x4 x5 x6 w H locs ls hp hS hl
  unfold pX11_prints_90 at hp
  obtain ⟨x6_1, ex6_1⟩ : ∃ y : Int32, y = x6 + (1 : Int32) := ⟨_, rfl⟩
  have hp := hp x6_1 ex6_1
  refine lv_iinc (v := x6_1) (lv' := [(6, .int x6_1), (0, .ref (g.2.2 300)), (1, .int x1), (2, .int x2), (3, .int x3), (4, .int x4), (5, .int x5)]) hx hb dX11_prints_90 hl (k := 6) rfl (by rw [ex6_1]; rfl) (by decide) rfl (fun ls hl => ?_)
  refine lv_goto (tgt := 30) hx hb dX11_prints_93 (by decide) ?_
  exact hk30 x1 x2 x3 x4 x5 x6_1 w _ _ _ hp hS (lv_sub hl [1, 2, 3, 4, 5, 6, 0] rfl)
set_option maxHeartbeats 4000000 in
set_option maxRecDepth 100000 in
theorem bX11_prints_30 {p : Program} {l : Launch} {e : Env} {s : State} {m : MethodId} {args : Array Value} {below : List Frame} {meth : Method} {c : Code} {Q : State → Prop} {A : Nat → Prop} {g : Gw} {post : Int32 → Wd → Prop}  (hC : Cx p s m args c cX11_prints RX11 7 g) (hR : RtI tabM p l e (rk 3) s m args below meth c Q cX11_prints A g post)  : ∀ (n : Nat) (x1 : Int32) (x2 : Int32) (x3 : Int32) (x4 : Int32) (x5 : Int32) (x6 : Int32) (w : Wd) (H : Heap) (locs : List Loc) (ls : Array Slot), pX11_prints_30 post n x1 x2 x3 x4 x5 x6 w → St tabM A s.heap g w H locs → lv_has ls 7 [(0, .ref (g.2.2 300)), (1, .int x1), (2, .int x2), (3, .int x3), (4, .int x4), (5, .int x5), (6, .int x6)] → W p l e (rk 3) s m args below meth c H locs 0 0 Q (F0 m 30 ls []) := by
  have hx := hC.1
  have hb := hC.2.1
  intro n
  induction n with
  | zero =>
    intro x1 x2 x3 x4 x5 x6 w H locs ls hp hS hl
    exact False.elim hp
  | succ n ih =>
    intro x1 x2 x3 x4 x5 x6 w H locs ls hp hS hl
    unfold pX11_prints_30 at hp
    refine lv_iload hx hb dX11_prints_30 (lv_at hl 6 rfl) ?_
    refine lv_aload_n hx hb dX11_prints_32 rfl (lv_at hl 0 rfl) ?_
    refine G_300_40 hC hS m274 dX11_prints_33 ?_
    refine lv_sipush hx hb dX11_prints_36 kS_217 ?_
    refine La_341 hC hS (by unfold vp_in; decide) dX11_prints_39 ?_
    refine lv_icmp_ge (tgt := 96) hx hb dX11_prints_40 (by decide) (fun c_1 => ?_) (fun c_1 => ?_)
    · have hp := hp.1 c_1
      refine lv_iload_n hx hb dX11_prints_96 rfl (lv_at hl 2 rfl) ?_
      refine lv_if_ne (tgt := 104) hx hb dX11_prints_97 (by decide) (fun c_2 => ?_) (fun c_2 => ?_)
      · have hp := hp.1 c_2
        refine lv_iload_n hx hb dX11_prints_104 rfl (lv_at hl 2 rfl) ?_
        refine lv_iconst hx hb dX11_prints_105 kI_1 ?_
        refine lv_icmp_ne (tgt := 114) hx hb dX11_prints_106 (by decide) (fun c_3 => ?_) (fun c_3 => ?_)
        · have hp := hp.1 c_3
          refine lv_iload hx hb dX11_prints_114 (lv_at hl 5 rfl) ?_
          exact hR _ _ _ _ _ _ dX11_prints_116 hp hS
        · have hp := hp.2 c_3
          refine lv_iload hx hb dX11_prints_109 (lv_at hl 4 rfl) ?_
          refine lv_goto (tgt := 116) hx hb dX11_prints_111 (by decide) ?_
          exact hR _ _ _ _ _ _ dX11_prints_116 hp hS
      · have hp := hp.2 c_2
        refine lv_iload_n hx hb dX11_prints_100 rfl (lv_at hl 3 rfl) ?_
        refine lv_goto (tgt := 116) hx hb dX11_prints_101 (by decide) ?_
        exact hR _ _ _ _ _ _ dX11_prints_116 hp hS
    · have hp := hp.2 c_1
      refine lv_aload_n hx hb dX11_prints_43 rfl (lv_at hl 0 rfl) ?_
      refine G_300_40 hC hS m274 dX11_prints_44 ?_
      refine lv_bipush hx hb dX11_prints_47 kB_96 ?_
      refine lv_iconst hx hb dX11_prints_49 kI_3 ?_
      refine lv_iload hx hb dX11_prints_50 (lv_at hl 6 rfl) ?_
      refine lv_imul hx hb dX11_prints_52 ?_
      refine lv_iadd hx hb dX11_prints_53 ?_
      refine La_341 hC hS hp.1 dX11_prints_54 ?_
      have hp := hp.2
      refine lv_iload_n hx hb dX11_prints_55 rfl (lv_at hl 1 rfl) ?_
      refine lv_icmp_eq (tgt := 62) hx hb dX11_prints_56 (by decide) (fun c_4 => ?_) (fun c_4 => ?_)
      · have hp := hp.1 c_4
        obtain ⟨x3_5, ex3_5⟩ : ∃ y : Int32, y = x3 + (1 : Int32) := ⟨_, rfl⟩
        have hp := hp x3_5 ex3_5
        refine lv_iinc (v := x3_5) (lv' := [(3, .int x3_5), (0, .ref (g.2.2 300)), (1, .int x1), (2, .int x2), (4, .int x4), (5, .int x5), (6, .int x6)]) hx hb dX11_prints_62 hl (k := 3) rfl (by rw [ex3_5]; rfl) (by decide) rfl (fun ls hl => ?_)
        refine lv_aload_n hx hb dX11_prints_65 rfl (lv_at hl 1 rfl) ?_
        refine G_300_40 hC hS m274 dX11_prints_66 ?_
        refine lv_bipush hx hb dX11_prints_69 kB_96 ?_
        refine lv_iconst hx hb dX11_prints_71 kI_3 ?_
        refine lv_iload hx hb dX11_prints_72 (lv_at hl 6 rfl) ?_
        refine lv_imul hx hb dX11_prints_74 ?_
        refine lv_iadd hx hb dX11_prints_75 ?_
        refine lv_iconst hx hb dX11_prints_76 kI_2 ?_
        refine lv_iadd hx hb dX11_prints_77 ?_
        refine La_341 hC hS hp.1 dX11_prints_78 ?_
        have hp := hp.2
        refine lv_topi (fun x5_6 ex5_6 => ?_)
        have hp := hp x5_6 ex5_6
        refine lv_istore (lv' := [(5, .int x5_6), (3, .int x3_5), (0, .ref (g.2.2 300)), (1, .int x1), (2, .int x2), (4, .int x4), (6, .int x6)]) hx hb dX11_prints_79 hl (by decide) rfl (fun ls hl => ?_)
        refine lv_iload hx hb dX11_prints_81 (lv_at hl 5 rfl) ?_
        refine lv_if_ge (tgt := 90) hx hb dX11_prints_83 (by decide) (fun c_7 => ?_) (fun c_7 => ?_)
        · have hp := hp.1 c_7
          exact bX11_prints_90 hC hR ih x1 x2 x3_5 x4 x5_6 x6 w _ _ _ hp hS (lv_sub hl [2, 3, 4, 1, 5, 0, 6] rfl)
        · have hp := hp.2 c_7
          refine lv_iload hx hb dX11_prints_86 (lv_at hl 0 rfl) ?_
          refine lv_istore (lv' := [(4, .int x5_6), (5, .int x5_6), (3, .int x3_5), (0, .ref (g.2.2 300)), (1, .int x1), (2, .int x2), (6, .int x6)]) hx hb dX11_prints_88 hl (by decide) rfl (fun ls hl => ?_)
          exact bX11_prints_90 hC hR ih x1 x2 x3_5 x5_6 x5_6 x6 w _ _ _ hp hS (lv_sub hl [3, 4, 5, 2, 0, 1, 6] rfl)
      · have hp := hp.2 c_4
        refine lv_goto (tgt := 90) hx hb dX11_prints_59 (by decide) ?_
        exact bX11_prints_90 hC hR ih x1 x2 x3 x4 x5 x6 w _ _ _ hp hS (lv_sub hl [0, 1, 2, 3, 4, 5, 6] rfl)
set_option maxHeartbeats 4000000 in
set_option maxRecDepth 100000 in
theorem rX11_prints {l : Launch} {g : Gw} {w : Wd} {post : Int32 → Wd → Prop}   {x1 : Int32} {x2 : Int32} (hp : pX11_prints post x1 x2 w) : MtI tabM l yX11_prints cX11_prints 7 (some .int) 3 g w [.ref (g.2.2 300), .int x1, .int x2] post := by
  refine q_entI tabM_nd (by decide) rfl (Nat.le_of_ble_eq_true rfl) ?_
  intro p e s m args below meth c A Q ls hC hR hS hl
  have hx := hC.1
  have hb := hC.2.1
  have hl : lv_has ls 7 [(0, .ref (g.2.2 300)), (1, .int x1), (2, .int x2)] := hl
  unfold pX11_prints at hp
  refine lv_aload_n hx hb dX11_prints_0 rfl (lv_at hl 0 rfl) ?_
  refine lv_iload_n hx hb dX11_prints_1 rfl (lv_at hl 1 rfl) ?_
  refine q_cvI (As := [.int x1]) (rest := []) hC hS hl.1 (rX11_isRow hp) cwX11_358 yvX11_isRow (rcv_300 hC hS) rfl rfl (Nat.le_of_ble_eq_true rfl) (rmk (by decide) (by decide)) dX11_prints_2 (fun r_1 w_2 H locs hp hS => ?_)
  refine lv_if_eq (tgt := 17) hx hb dX11_prints_5 (by decide) (fun c_3 => ?_) (fun c_3 => ?_)
  · have hp := hp.1 c_3
    refine lv_iconst hx hb dX11_prints_17 kI_m1 ?_
    exact hR _ _ _ _ _ _ dX11_prints_18 hp hS
  · have hp := hp.2 c_3
    refine lv_iload_n hx hb dX11_prints_8 rfl (lv_at hl 2 rfl) ?_
    refine lv_iconst hx hb dX11_prints_9 kI_0 ?_
    refine lv_iconst hx hb dX11_prints_10 kI_2 ?_
    refine q_csI (As := [.int x2, .int (0 : Int32), .int (2 : Int32)]) (rest := []) hC hS hl.1 (rX11_isIn hp) cwX11_345 ysX11_isIn rfl rfl (Nat.le_of_ble_eq_true rfl) (rmk (by decide) (by decide)) dX11_prints_11 (fun r_4 w_5 H locs hp hS => ?_)
    refine lv_if_ne (tgt := 19) hx hb dX11_prints_14 (by decide) (fun c_6 => ?_) (fun c_6 => ?_)
    · have hp := hp.1 c_6
      refine lv_iconst hx hb dX11_prints_19 kI_0 ?_
      refine lv_istore_n (lv' := [(3, .int (0 : Int32)), (0, .ref (g.2.2 300)), (1, .int x1), (2, .int x2)]) hx hb dX11_prints_20 rfl hl (by decide) rfl (fun ls hl => ?_)
      refine lv_iconst hx hb dX11_prints_21 kI_m1 ?_
      refine lv_istore (lv' := [(4, .int (-1 : Int32)), (3, .int (0 : Int32)), (0, .ref (g.2.2 300)), (1, .int x1), (2, .int x2)]) hx hb dX11_prints_22 hl (by decide) rfl (fun ls hl => ?_)
      refine lv_iconst hx hb dX11_prints_24 kI_m1 ?_
      refine lv_istore (lv' := [(5, .int (-1 : Int32)), (4, .int (-1 : Int32)), (3, .int (0 : Int32)), (0, .ref (g.2.2 300)), (1, .int x1), (2, .int x2)]) hx hb dX11_prints_25 hl (by decide) rfl (fun ls hl => ?_)
      refine lv_iconst hx hb dX11_prints_27 kI_0 ?_
      refine lv_istore (lv' := [(6, .int (0 : Int32)), (5, .int (-1 : Int32)), (4, .int (-1 : Int32)), (3, .int (0 : Int32)), (0, .ref (g.2.2 300)), (1, .int x1), (2, .int x2)]) hx hb dX11_prints_28 hl (by decide) rfl (fun ls hl => ?_)
      obtain ⟨n9, hp⟩ := hp
      exact bX11_prints_30 hC hR n9 x1 x2 (0 : Int32) (-1 : Int32) (-1 : Int32) (0 : Int32) w_5 _ _ _ hp hS (lv_sub hl [4, 5, 6, 3, 2, 1, 0] rfl)
    · have hp := hp.2 c_6
      refine lv_iconst hx hb dX11_prints_17 kI_m1 ?_
      exact hR _ _ _ _ _ _ dX11_prints_18 hp hS
def pX11_turnedRow_34 (k4 : Int32 → Int32 → Int32 → Wd → Prop) (post : Int32 → Wd → Prop) (x1 : Int32) (x2 : Int32) (x3 : Int32) (w : Wd) : Prop := ∀ x3_1, x3_1 = x3 + (1 : Int32) → k4 x1 x2 x3_1 w
def pX11_turnedRow_4 (post : Int32 → Wd → Prop) : Nat → Int32 → Int32 → Int32 → Wd → Prop
  | 0, _, _, _, _ => False
  | n + 1, x1, x2, x3, w => pX11_width (fun r_1 w_2 => (r_1 ≤ x3 → (post x2 w_2)) ∧ (¬ r_1 ≤ x3 → ((¬ ((x1 >>> (x3 &&& 31)) &&& (1 : Int32)) = (1 : Int32) → (pX11_turnedRow_34 (pX11_turnedRow_4 post n) post x1 x2 x3 w_2)) ∧ (((x1 >>> (x3 &&& 31)) &&& (1 : Int32)) = (1 : Int32) → (pX11_width (fun r_5 w_6 => ∀ x2_7, x2_7 = (x2 ||| ((1 : Int32) <<< (((r_5 - (1 : Int32)) - x3) &&& 31))) → pX11_turnedRow_34 (pX11_turnedRow_4 post n) post x1 x2_7 x3 w_6) w_2))))) w
def pX11_turnedRow (post : Int32 → Wd → Prop) (x1 : Int32) (w : Wd) : Prop := ∃ n9, pX11_turnedRow_4 post n9 x1 (0 : Int32) (0 : Int32) w
set_option maxHeartbeats 4000000 in
set_option maxRecDepth 100000 in
theorem bX11_turnedRow_34 {p : Program} {l : Launch} {e : Env} {s : State} {m : MethodId} {args : Array Value} {below : List Frame} {meth : Method} {c : Code} {Q : State → Prop} {A : Nat → Prop} {g : Gw} {post : Int32 → Wd → Prop}  (hC : Cx p s m args c cX11_turnedRow RX11 4 g) (hR : RtI tabM p l e (rk 2) s m args below meth c Q cX11_turnedRow A g post)  {k4 : Int32 → Int32 → Int32 → Wd → Prop} (hk4 : ∀ (x1 : Int32) (x2 : Int32) (x3 : Int32) (w : Wd) (H : Heap) (locs : List Loc) (ls : Array Slot), k4 x1 x2 x3 w → St tabM A s.heap g w H locs → lv_has ls 4 [(0, .ref (g.2.2 300)), (1, .int x1), (2, .int x2), (3, .int x3)] → W p l e (rk 2) s m args below meth c H locs 0 0 Q (F0 m 4 ls [])) : ∀ (x1 : Int32) (x2 : Int32) (x3 : Int32) (w : Wd) (H : Heap) (locs : List Loc) (ls : Array Slot), pX11_turnedRow_34 k4 post x1 x2 x3 w → St tabM A s.heap g w H locs → lv_has ls 4 [(0, .ref (g.2.2 300)), (1, .int x1), (2, .int x2), (3, .int x3)] → W p l e (rk 2) s m args below meth c H locs 0 0 Q (F0 m 34 ls []) := by
  have hx := hC.1
  have hb := hC.2.1
  intro x1 x2 x3 w H locs ls hp hS hl
  unfold pX11_turnedRow_34 at hp
  obtain ⟨x3_1, ex3_1⟩ : ∃ y : Int32, y = x3 + (1 : Int32) := ⟨_, rfl⟩
  have hp := hp x3_1 ex3_1
  refine lv_iinc (v := x3_1) (lv' := [(3, .int x3_1), (0, .ref (g.2.2 300)), (1, .int x1), (2, .int x2)]) hx hb dX11_turnedRow_34 hl (k := 3) rfl (by rw [ex3_1]; rfl) (by decide) rfl (fun ls hl => ?_)
  refine lv_goto (tgt := 4) hx hb dX11_turnedRow_37 (by decide) ?_
  exact hk4 x1 x2 x3_1 w _ _ _ hp hS (lv_sub hl [1, 2, 3, 0] rfl)
set_option maxHeartbeats 4000000 in
set_option maxRecDepth 100000 in
theorem bX11_turnedRow_4 {p : Program} {l : Launch} {e : Env} {s : State} {m : MethodId} {args : Array Value} {below : List Frame} {meth : Method} {c : Code} {Q : State → Prop} {A : Nat → Prop} {g : Gw} {post : Int32 → Wd → Prop}  (hC : Cx p s m args c cX11_turnedRow RX11 4 g) (hR : RtI tabM p l e (rk 2) s m args below meth c Q cX11_turnedRow A g post)  : ∀ (n : Nat) (x1 : Int32) (x2 : Int32) (x3 : Int32) (w : Wd) (H : Heap) (locs : List Loc) (ls : Array Slot), pX11_turnedRow_4 post n x1 x2 x3 w → St tabM A s.heap g w H locs → lv_has ls 4 [(0, .ref (g.2.2 300)), (1, .int x1), (2, .int x2), (3, .int x3)] → W p l e (rk 2) s m args below meth c H locs 0 0 Q (F0 m 4 ls []) := by
  have hx := hC.1
  have hb := hC.2.1
  intro n
  induction n with
  | zero =>
    intro x1 x2 x3 w H locs ls hp hS hl
    exact False.elim hp
  | succ n ih =>
    intro x1 x2 x3 w H locs ls hp hS hl
    unfold pX11_turnedRow_4 at hp
    refine lv_iload_n hx hb dX11_turnedRow_4 rfl (lv_at hl 3 rfl) ?_
    refine lv_aload_n hx hb dX11_turnedRow_5 rfl (lv_at hl 0 rfl) ?_
    refine q_cvI (As := []) (rest := [.int x3]) hC hS hl.1 (rX11_width hp) cwX11_342 yvX11_width (rcv_300 hC hS) rfl rfl (Nat.le_of_ble_eq_true rfl) (rmk (by decide) (by decide)) dX11_turnedRow_6 (fun r_1 w_2 H locs hp hS => ?_)
    refine lv_icmp_ge (tgt := 40) hx hb dX11_turnedRow_9 (by decide) (fun c_3 => ?_) (fun c_3 => ?_)
    · have hp := hp.1 c_3
      refine lv_iload_n hx hb dX11_turnedRow_40 rfl (lv_at hl 2 rfl) ?_
      exact hR _ _ _ _ _ _ dX11_turnedRow_41 hp hS
    · have hp := hp.2 c_3
      refine lv_iload_n hx hb dX11_turnedRow_12 rfl (lv_at hl 1 rfl) ?_
      refine lv_iload_n hx hb dX11_turnedRow_13 rfl (lv_at hl 3 rfl) ?_
      refine lv_ishr hx hb dX11_turnedRow_14 ?_
      refine lv_iconst hx hb dX11_turnedRow_15 kI_1 ?_
      refine lv_iand hx hb dX11_turnedRow_16 ?_
      refine lv_iconst hx hb dX11_turnedRow_17 kI_1 ?_
      refine lv_icmp_ne (tgt := 34) hx hb dX11_turnedRow_18 (by decide) (fun c_4 => ?_) (fun c_4 => ?_)
      · have hp := hp.1 c_4
        exact bX11_turnedRow_34 hC hR ih x1 x2 x3 w_2 _ _ _ hp hS (lv_sub hl [0, 1, 2, 3] rfl)
      · have hp := hp.2 c_4
        refine lv_iload_n hx hb dX11_turnedRow_21 rfl (lv_at hl 2 rfl) ?_
        refine lv_iconst hx hb dX11_turnedRow_22 kI_1 ?_
        refine lv_aload_n hx hb dX11_turnedRow_23 rfl (lv_at hl 0 rfl) ?_
        refine q_cvI (As := []) (rest := [.int (1 : Int32), .int x2]) hC hS hl.1 (rX11_width hp) cwX11_342 yvX11_width (rcv_300 hC hS) rfl rfl (Nat.le_of_ble_eq_true rfl) (rmk (by decide) (by decide)) dX11_turnedRow_24 (fun r_5 w_6 H locs hp hS => ?_)
        refine lv_iconst hx hb dX11_turnedRow_27 kI_1 ?_
        refine lv_isub hx hb dX11_turnedRow_28 ?_
        refine lv_iload_n hx hb dX11_turnedRow_29 rfl (lv_at hl 3 rfl) ?_
        refine lv_isub hx hb dX11_turnedRow_30 ?_
        refine lv_ishl hx hb dX11_turnedRow_31 ?_
        refine lv_ior hx hb dX11_turnedRow_32 ?_
        refine lv_topi (fun x2_7 ex2_7 => ?_)
        have hp := hp x2_7 ex2_7
        refine lv_istore_n (lv' := [(2, .int x2_7), (0, .ref (g.2.2 300)), (1, .int x1), (3, .int x3)]) hx hb dX11_turnedRow_33 rfl hl (by decide) rfl (fun ls hl => ?_)
        exact bX11_turnedRow_34 hC hR ih x1 x2_7 x3 w_6 _ _ _ hp hS (lv_sub hl [1, 2, 0, 3] rfl)
set_option maxHeartbeats 4000000 in
set_option maxRecDepth 100000 in
theorem rX11_turnedRow {l : Launch} {g : Gw} {w : Wd} {post : Int32 → Wd → Prop}   {x1 : Int32} (hp : pX11_turnedRow post x1 w) : MtI tabM l yX11_turnedRow cX11_turnedRow 4 (some .int) 2 g w [.ref (g.2.2 300), .int x1] post := by
  refine q_entI tabM_nd (by decide) rfl (Nat.le_of_ble_eq_true rfl) ?_
  intro p e s m args below meth c A Q ls hC hR hS hl
  have hx := hC.1
  have hb := hC.2.1
  have hl : lv_has ls 4 [(0, .ref (g.2.2 300)), (1, .int x1)] := hl
  unfold pX11_turnedRow at hp
  refine lv_iconst hx hb dX11_turnedRow_0 kI_0 ?_
  refine lv_istore_n (lv' := [(2, .int (0 : Int32)), (0, .ref (g.2.2 300)), (1, .int x1)]) hx hb dX11_turnedRow_1 rfl hl (by decide) rfl (fun ls hl => ?_)
  refine lv_iconst hx hb dX11_turnedRow_2 kI_0 ?_
  refine lv_istore_n (lv' := [(3, .int (0 : Int32)), (2, .int (0 : Int32)), (0, .ref (g.2.2 300)), (1, .int x1)]) hx hb dX11_turnedRow_3 rfl hl (by decide) rfl (fun ls hl => ?_)
  obtain ⟨n9, hp⟩ := hp
  exact bX11_turnedRow_4 hC hR n9 x1 (0 : Int32) (0 : Int32) w _ _ _ hp hS (lv_sub hl [2, 3, 1, 0] rfl)
def pX11_turned (post : Int32 → Wd → Prop) (x1 : Int32) (w : Wd) : Prop := pX11_isRow (fun r_1 w_2 => (r_1 = 0 → (post (-1 : Int32) w_2)) ∧ (¬ r_1 = 0 → (pX11_turnedRow (fun r_4 w_5 => post r_4 w_5) x1 w_2))) x1 w
set_option maxHeartbeats 4000000 in
set_option maxRecDepth 100000 in
theorem rX11_turned {l : Launch} {g : Gw} {w : Wd} {post : Int32 → Wd → Prop}   {x1 : Int32} (hp : pX11_turned post x1 w) : MtI tabM l yX11_turned cX11_turned 2 (some .int) 3 g w [.ref (g.2.2 300), .int x1] post := by
  refine q_entI tabM_nd (by decide) rfl (Nat.le_of_ble_eq_true rfl) ?_
  intro p e s m args below meth c A Q ls hC hR hS hl
  have hx := hC.1
  have hb := hC.2.1
  have hl : lv_has ls 2 [(0, .ref (g.2.2 300)), (1, .int x1)] := hl
  unfold pX11_turned at hp
  refine lv_aload_n hx hb dX11_turned_0 rfl (lv_at hl 0 rfl) ?_
  refine lv_iload_n hx hb dX11_turned_1 rfl (lv_at hl 1 rfl) ?_
  refine q_cvI (As := [.int x1]) (rest := []) hC hS hl.1 (rX11_isRow hp) cwX11_358 yvX11_isRow (rcv_300 hC hS) rfl rfl (Nat.le_of_ble_eq_true rfl) (rmk (by decide) (by decide)) dX11_turned_2 (fun r_1 w_2 H locs hp hS => ?_)
  refine lv_if_eq (tgt := 16) hx hb dX11_turned_5 (by decide) (fun c_3 => ?_) (fun c_3 => ?_)
  · have hp := hp.1 c_3
    refine lv_iconst hx hb dX11_turned_16 kI_m1 ?_
    exact hR _ _ _ _ _ _ dX11_turned_17 hp hS
  · have hp := hp.2 c_3
    refine lv_aload_n hx hb dX11_turned_8 rfl (lv_at hl 0 rfl) ?_
    refine lv_iload_n hx hb dX11_turned_9 rfl (lv_at hl 1 rfl) ?_
    refine q_cvI (As := [.int x1]) (rest := []) hC hS hl.1 (rX11_turnedRow hp) cwX11_349 yvX11_turnedRow (rcv_300 hC hS) rfl rfl (Nat.le_of_ble_eq_true rfl) (rmk (by decide) (by decide)) dX11_turned_10 (fun r_4 w_5 H locs hp hS => ?_)
    refine lv_goto (tgt := 17) hx hb dX11_turned_13 (by decide) ?_
    exact hR _ _ _ _ _ _ dX11_turned_17 hp hS
def pX11_isHand (post : Int32 → Wd → Prop) (x1 : Int32) (w : Wd) : Prop := vp_in (w.1 300 29) 2 ∧ pX11_isIn (fun r_1 w_2 => r_1 = vp_nar .boolean r_1 ∧ post r_1 w_2) x1 (0 : Int32) ((w.2.1 314 (w.1 300 29).toNatClampNeg) - (1 : Int32)) w
set_option maxHeartbeats 4000000 in
set_option maxRecDepth 100000 in
theorem rX11_isHand {l : Launch} {g : Gw} {w : Wd} {post : Int32 → Wd → Prop}   {x1 : Int32} (hp : pX11_isHand post x1 w) : MtI tabM l yX11_isHand cX11_isHand 2 (some .boolean) 2 g w [.ref (g.2.2 300), .int x1] post := by
  refine q_entZ tabM_nd (by decide) rfl (Nat.le_of_ble_eq_true rfl) ?_
  intro p e s m args below meth c A Q ls hC hR hS hl
  have hx := hC.1
  have hb := hC.2.1
  have hl : lv_has ls 2 [(0, .ref (g.2.2 300)), (1, .int x1)] := hl
  unfold pX11_isHand at hp
  refine lv_iload_n hx hb dX11_isHand_0 rfl (lv_at hl 1 rfl) ?_
  refine lv_iconst hx hb dX11_isHand_1 kI_0 ?_
  refine lv_aload_n hx hb dX11_isHand_2 rfl (lv_at hl 0 rfl) ?_
  refine G_300_13 hC hS m258 dX11_isHand_3 ?_
  refine lv_aload_n hx hb dX11_isHand_6 rfl (lv_at hl 0 rfl) ?_
  refine G_300_29 hC hS m308 dX11_isHand_7 ?_
  refine La_314 hC hS hp.1 dX11_isHand_10 ?_
  have hp := hp.2
  refine lv_iconst hx hb dX11_isHand_11 kI_1 ?_
  refine lv_isub hx hb dX11_isHand_12 ?_
  refine q_csI (As := [.int x1, .int (0 : Int32), .int ((w.2.1 314 (w.1 300 29).toNatClampNeg) - (1 : Int32))]) (rest := []) hC hS hl.1 (rX11_isIn hp) cwX11_345 ysX11_isIn rfl rfl (Nat.le_of_ble_eq_true rfl) (rmk (by decide) (by decide)) dX11_isHand_13 (fun r_1 w_2 H locs hp hS => ?_)
  exact hR _ _ _ _ _ _ dX11_isHand_16 hp.1 hp.2 hS
def pX11_isHeat (post : Int32 → Wd → Prop) (x0 : Int32) (w : Wd) : Prop := pX11_isIn (fun r_1 w_2 => r_1 = vp_nar .boolean r_1 ∧ post r_1 w_2) x0 (0 : Int32) (9 : Int32) w
set_option maxHeartbeats 4000000 in
set_option maxRecDepth 100000 in
theorem rX11_isHeat {l : Launch} {g : Gw} {w : Wd} {post : Int32 → Wd → Prop}   {x0 : Int32} (hp : pX11_isHeat post x0 w) : MtI tabM l yX11_isHeat cX11_isHeat 1 (some .boolean) 2 g w [.int x0] post := by
  refine q_entZ tabM_nd (by decide) rfl (Nat.le_of_ble_eq_true rfl) ?_
  intro p e s m args below meth c A Q ls hC hR hS hl
  have hx := hC.1
  have hb := hC.2.1
  have hl : lv_has ls 1 [(0, .int x0)] := hl
  unfold pX11_isHeat at hp
  refine lv_iload_n hx hb dX11_isHeat_0 rfl (lv_at hl 0 rfl) ?_
  refine lv_iconst hx hb dX11_isHeat_1 kI_0 ?_
  refine lv_bipush hx hb dX11_isHeat_2 kB_9 ?_
  refine q_csI (As := [.int x0, .int (0 : Int32), .int (9 : Int32)]) (rest := []) hC hS hl.1 (rX11_isIn hp) cwX11_345 ysX11_isIn rfl rfl (Nat.le_of_ble_eq_true rfl) (rmk (by decide) (by decide)) dX11_isHeat_4 (fun r_1 w_2 H locs hp hS => ?_)
  exact hR _ _ _ _ _ _ dX11_isHeat_7 hp.1 hp.2 hS
def pX11_would (post : Int32 → Wd → Prop) (x1 : Int32) (x2 : Int32) (x3 : Int32) (x4 : Int32) (w : Wd) : Prop := pX11_isRow (fun r_1 w_2 => (r_1 = 0 → (post (-1 : Int32) w_2)) ∧ (¬ r_1 = 0 → (pX11_isHand (fun r_4 w_5 => (r_4 = 0 → (post (-1 : Int32) w_5)) ∧ (¬ r_4 = 0 → (pX11_isHeat (fun r_7 w_8 => (r_7 = 0 → (post (-1 : Int32) w_8)) ∧ (¬ r_7 = 0 → (pX11_isIn (fun r_10 w_11 => (r_10 = 0 → (post (-1 : Int32) w_11)) ∧ (¬ r_10 = 0 → (False))) x4 (0 : Int32) (99 : Int32) w_8))) x3 w_5))) x2 w_2))) x1 w
set_option maxHeartbeats 4000000 in
set_option maxRecDepth 100000 in
theorem rX11_would {l : Launch} {g : Gw} {w : Wd} {post : Int32 → Wd → Prop}   {x1 : Int32} {x2 : Int32} {x3 : Int32} {x4 : Int32} (hp : pX11_would post x1 x2 x3 x4 w) : MtI tabM l yX11_would cX11_would 5 (some .int) 3 g w [.ref (g.2.2 300), .int x1, .int x2, .int x3, .int x4] post := by
  refine q_entI tabM_nd (by decide) rfl (Nat.le_of_ble_eq_true rfl) ?_
  intro p e s m args below meth c A Q ls hC hR hS hl
  have hx := hC.1
  have hb := hC.2.1
  have hl : lv_has ls 5 [(0, .ref (g.2.2 300)), (1, .int x1), (2, .int x2), (3, .int x3), (4, .int x4)] := hl
  unfold pX11_would at hp
  refine lv_aload_n hx hb dX11_would_0 rfl (lv_at hl 0 rfl) ?_
  refine lv_iload_n hx hb dX11_would_1 rfl (lv_at hl 1 rfl) ?_
  refine q_cvI (As := [.int x1]) (rest := []) hC hS hl.1 (rX11_isRow hp) cwX11_358 yvX11_isRow (rcv_300 hC hS) rfl rfl (Nat.le_of_ble_eq_true rfl) (rmk (by decide) (by decide)) dX11_would_2 (fun r_1 w_2 H locs hp hS => ?_)
  refine lv_if_eq (tgt := 46) hx hb dX11_would_5 (by decide) (fun c_3 => ?_) (fun c_3 => ?_)
  · have hp := hp.1 c_3
    refine lv_iconst hx hb dX11_would_46 kI_m1 ?_
    exact hR _ _ _ _ _ _ dX11_would_47 hp hS
  · have hp := hp.2 c_3
    refine lv_aload_n hx hb dX11_would_8 rfl (lv_at hl 0 rfl) ?_
    refine lv_iload_n hx hb dX11_would_9 rfl (lv_at hl 2 rfl) ?_
    refine q_cvI (As := [.int x2]) (rest := []) hC hS hl.1 (rX11_isHand hp) cwX11_361 yvX11_isHand (rcv_300 hC hS) rfl rfl (Nat.le_of_ble_eq_true rfl) (rmk (by decide) (by decide)) dX11_would_10 (fun r_4 w_5 H locs hp hS => ?_)
    refine lv_if_eq (tgt := 46) hx hb dX11_would_13 (by decide) (fun c_6 => ?_) (fun c_6 => ?_)
    · have hp := hp.1 c_6
      refine lv_iconst hx hb dX11_would_46 kI_m1 ?_
      exact hR _ _ _ _ _ _ dX11_would_47 hp hS
    · have hp := hp.2 c_6
      refine lv_iload_n hx hb dX11_would_16 rfl (lv_at hl 3 rfl) ?_
      refine q_csI (As := [.int x3]) (rest := []) hC hS hl.1 (rX11_isHeat hp) cwX11_364 ysX11_isHeat rfl rfl (Nat.le_of_ble_eq_true rfl) (rmk (by decide) (by decide)) dX11_would_17 (fun r_7 w_8 H locs hp hS => ?_)
      refine lv_if_eq (tgt := 46) hx hb dX11_would_20 (by decide) (fun c_9 => ?_) (fun c_9 => ?_)
      · have hp := hp.1 c_9
        refine lv_iconst hx hb dX11_would_46 kI_m1 ?_
        exact hR _ _ _ _ _ _ dX11_would_47 hp hS
      · have hp := hp.2 c_9
        refine lv_iload hx hb dX11_would_23 (lv_at hl 4 rfl) ?_
        refine lv_iconst hx hb dX11_would_25 kI_0 ?_
        refine lv_bipush hx hb dX11_would_26 kB_99 ?_
        refine q_csI (As := [.int x4, .int (0 : Int32), .int (99 : Int32)]) (rest := []) hC hS hl.1 (rX11_isIn hp) cwX11_345 ysX11_isIn rfl rfl (Nat.le_of_ble_eq_true rfl) (rmk (by decide) (by decide)) dX11_would_28 (fun r_10 w_11 H locs hp hS => ?_)
        refine lv_if_eq (tgt := 46) hx hb dX11_would_31 (by decide) (fun c_12 => ?_) (fun c_12 => ?_)
        · have hp := hp.1 c_12
          refine lv_iconst hx hb dX11_would_46 kI_m1 ?_
          exact hR _ _ _ _ _ _ dX11_would_47 hp hS
        · have hp := hp.2 c_12
          refine lv_aload_n hx hb dX11_would_34 rfl (lv_at hl 0 rfl) ?_
          refine lv_iload_n hx hb dX11_would_35 rfl (lv_at hl 1 rfl) ?_
          refine lv_iload_n hx hb dX11_would_36 rfl (lv_at hl 2 rfl) ?_
          refine lv_iload_n hx hb dX11_would_37 rfl (lv_at hl 3 rfl) ?_
          refine lv_iload hx hb dX11_would_38 (lv_at hl 4 rfl) ?_
          exact False.elim hp
def pX11_keepAct_52 (post : Wd → Prop) : Nat → Int32 → Wd → Prop
  | 0, _, _ => False
  | n + 1, x1, w => ((221 : Int32) ≤ x1 → (∀ w_2, w_2 = sI w 300 42 ((w.1 300 42) + (1 : Int32)) → ∀ w_3, w_3 = sI w_2 300 43 (0 : Int32) → post w_3)) ∧ (¬ (221 : Int32) ≤ x1 → (vp_in x1 221 ∧ vp_in (((221 : Int32) * (w.1 300 42)) + x1) 9061 ∧ ∀ w_4, w_4 = sA w 342 (((221 : Int32) * (w.1 300 42)) + x1).toNatClampNeg (w.2.1 341 x1.toNatClampNeg) → ∀ x1_5, x1_5 = x1 + (1 : Int32) → pX11_keepAct_52 post n x1_5 w_4))
def pX11_keepAct_50 (post : Wd → Prop)  (w : Wd) : Prop := ∃ n9, pX11_keepAct_52 post n9 (0 : Int32) w
def pX11_keepAct_11 (post : Wd → Prop) : Nat → Int32 → Wd → Prop
  | 0, _, _ => False
  | n + 1, x1, w => ((8840 : Int32) ≤ x1 → (∀ w_2, w_2 = sI w 300 42 ((w.1 300 42) - (1 : Int32)) → pX11_keepAct_50 post  w_2)) ∧ (¬ (8840 : Int32) ≤ x1 → (vp_in (x1 + (221 : Int32)) 9061 ∧ vp_in x1 9061 ∧ ∀ w_3, w_3 = sA w 342 x1.toNatClampNeg (w.2.1 342 (x1 + (221 : Int32)).toNatClampNeg) → ∀ x1_4, x1_4 = x1 + (1 : Int32) → pX11_keepAct_11 post n x1_4 w_3))
def pX11_keepAct (post : Wd → Prop)  (w : Wd) : Prop := (¬ (w.1 300 42) = (40 : Int32) → (pX11_keepAct_50 post  w)) ∧ ((w.1 300 42) = (40 : Int32) → (∃ n9, pX11_keepAct_11 post n9 (0 : Int32) w))
set_option maxHeartbeats 4000000 in
set_option maxRecDepth 100000 in
theorem bX11_keepAct_52 {p : Program} {l : Launch} {e : Env} {s : State} {m : MethodId} {args : Array Value} {below : List Frame} {meth : Method} {c : Code} {Q : State → Prop} {A : Nat → Prop} {g : Gw} {post : Wd → Prop}  (hC : Cx p s m args c cX11_keepAct RX11 2 g) (hR : RtV tabM p l e (rk 1) s m args below meth c Q cX11_keepAct A g post)  : ∀ (n : Nat) (x1 : Int32) (w : Wd) (H : Heap) (locs : List Loc) (ls : Array Slot), pX11_keepAct_52 post n x1 w → St tabM A s.heap g w H locs → lv_has ls 2 [(0, .ref (g.2.2 300)), (1, .int x1)] → W p l e (rk 1) s m args below meth c H locs 0 0 Q (F0 m 52 ls []) := by
  have hx := hC.1
  have hb := hC.2.1
  intro n
  induction n with
  | zero =>
    intro x1 w H locs ls hp hS hl
    exact False.elim hp
  | succ n ih =>
    intro x1 w H locs ls hp hS hl
    unfold pX11_keepAct_52 at hp
    refine lv_iload_n hx hb dX11_keepAct_52 rfl (lv_at hl 1 rfl) ?_
    refine lv_sipush hx hb dX11_keepAct_53 kS_221 ?_
    refine lv_icmp_ge (tgt := 86) hx hb dX11_keepAct_56 (by decide) (fun c_1 => ?_) (fun c_1 => ?_)
    · have hp := hp.1 c_1
      refine lv_aload_n hx hb dX11_keepAct_86 rfl (lv_at hl 0 rfl) ?_
      refine lv_dup hx hb dX11_keepAct_87 rfl ?_
      refine G_300_42 hC hS m309 dX11_keepAct_88 ?_
      refine lv_iconst hx hb dX11_keepAct_91 kI_1 ?_
      refine lv_iadd hx hb dX11_keepAct_92 ?_
      refine P_300_42 hC hS m309 dX11_keepAct_93 (fun w_2 H locs ew_2 hS => ?_)
      have hp := hp w_2 ew_2
      refine lv_aload_n hx hb dX11_keepAct_96 rfl (lv_at hl 0 rfl) ?_
      refine lv_iconst hx hb dX11_keepAct_97 kI_0 ?_
      refine P_300_43 hC hS m310 dX11_keepAct_98 (fun w_3 H locs ew_3 hS => ?_)
      have hp := hp w_3 ew_3
      exact hR _ _ _ _ _ dX11_keepAct_101 hp hS
    · have hp := hp.2 c_1
      refine lv_aload_n hx hb dX11_keepAct_59 rfl (lv_at hl 0 rfl) ?_
      refine G_300_41 hC hS m275 dX11_keepAct_60 ?_
      refine lv_sipush hx hb dX11_keepAct_63 kS_221 ?_
      refine lv_aload_n hx hb dX11_keepAct_66 rfl (lv_at hl 0 rfl) ?_
      refine G_300_42 hC hS m309 dX11_keepAct_67 ?_
      refine lv_imul hx hb dX11_keepAct_70 ?_
      refine lv_iload_n hx hb dX11_keepAct_71 rfl (lv_at hl 1 rfl) ?_
      refine lv_iadd hx hb dX11_keepAct_72 ?_
      refine lv_aload_n hx hb dX11_keepAct_73 rfl (lv_at hl 0 rfl) ?_
      refine G_300_40 hC hS m274 dX11_keepAct_74 ?_
      refine lv_iload_n hx hb dX11_keepAct_77 rfl (lv_at hl 1 rfl) ?_
      refine La_341 hC hS hp.1 dX11_keepAct_78 ?_
      have hp := hp.2
      refine Sa_342 hC hS hp.1 dX11_keepAct_79 (fun w_4 H locs ew_4 hS => ?_)
      have hp := hp.2
      have hp := hp w_4 ew_4
      obtain ⟨x1_5, ex1_5⟩ : ∃ y : Int32, y = x1 + (1 : Int32) := ⟨_, rfl⟩
      have hp := hp x1_5 ex1_5
      refine lv_iinc (v := x1_5) (lv' := [(1, .int x1_5), (0, .ref (g.2.2 300))]) hx hb dX11_keepAct_80 hl (k := 1) rfl (by rw [ex1_5]; rfl) (by decide) rfl (fun ls hl => ?_)
      refine lv_goto (tgt := 52) hx hb dX11_keepAct_83 (by decide) ?_
      exact ih x1_5 w_4 _ _ _ hp hS (lv_sub hl [1, 0] rfl)
set_option maxHeartbeats 4000000 in
set_option maxRecDepth 100000 in
theorem bX11_keepAct_50 {p : Program} {l : Launch} {e : Env} {s : State} {m : MethodId} {args : Array Value} {below : List Frame} {meth : Method} {c : Code} {Q : State → Prop} {A : Nat → Prop} {g : Gw} {post : Wd → Prop}  (hC : Cx p s m args c cX11_keepAct RX11 2 g) (hR : RtV tabM p l e (rk 1) s m args below meth c Q cX11_keepAct A g post)  : ∀  (w : Wd) (H : Heap) (locs : List Loc) (ls : Array Slot), pX11_keepAct_50 post  w → St tabM A s.heap g w H locs → lv_has ls 2 [(0, .ref (g.2.2 300))] → W p l e (rk 1) s m args below meth c H locs 0 0 Q (F0 m 50 ls []) := by
  have hx := hC.1
  have hb := hC.2.1
  intro  w H locs ls hp hS hl
  unfold pX11_keepAct_50 at hp
  refine lv_iconst hx hb dX11_keepAct_50 kI_0 ?_
  refine lv_istore_n (lv' := [(1, .int (0 : Int32)), (0, .ref (g.2.2 300))]) hx hb dX11_keepAct_51 rfl hl (by decide) rfl (fun ls hl => ?_)
  obtain ⟨n9, hp⟩ := hp
  exact bX11_keepAct_52 hC hR n9 (0 : Int32) w _ _ _ hp hS (lv_sub hl [1, 0] rfl)
set_option maxHeartbeats 4000000 in
set_option maxRecDepth 100000 in
theorem bX11_keepAct_11 {p : Program} {l : Launch} {e : Env} {s : State} {m : MethodId} {args : Array Value} {below : List Frame} {meth : Method} {c : Code} {Q : State → Prop} {A : Nat → Prop} {g : Gw} {post : Wd → Prop}  (hC : Cx p s m args c cX11_keepAct RX11 2 g) (hR : RtV tabM p l e (rk 1) s m args below meth c Q cX11_keepAct A g post)  : ∀ (n : Nat) (x1 : Int32) (w : Wd) (H : Heap) (locs : List Loc) (ls : Array Slot), pX11_keepAct_11 post n x1 w → St tabM A s.heap g w H locs → lv_has ls 2 [(0, .ref (g.2.2 300)), (1, .int x1)] → W p l e (rk 1) s m args below meth c H locs 0 0 Q (F0 m 11 ls []) := by
  have hx := hC.1
  have hb := hC.2.1
  intro n
  induction n with
  | zero =>
    intro x1 w H locs ls hp hS hl
    exact False.elim hp
  | succ n ih =>
    intro x1 w H locs ls hp hS hl
    unfold pX11_keepAct_11 at hp
    refine lv_iload_n hx hb dX11_keepAct_11 rfl (lv_at hl 1 rfl) ?_
    refine lv_sipush hx hb dX11_keepAct_12 kS_8840 ?_
    refine lv_icmp_ge (tgt := 40) hx hb dX11_keepAct_15 (by decide) (fun c_1 => ?_) (fun c_1 => ?_)
    · have hp := hp.1 c_1
      refine lv_aload_n hx hb dX11_keepAct_40 rfl (lv_at hl 0 rfl) ?_
      refine lv_dup hx hb dX11_keepAct_41 rfl ?_
      refine G_300_42 hC hS m309 dX11_keepAct_42 ?_
      refine lv_iconst hx hb dX11_keepAct_45 kI_1 ?_
      refine lv_isub hx hb dX11_keepAct_46 ?_
      refine P_300_42 hC hS m309 dX11_keepAct_47 (fun w_2 H locs ew_2 hS => ?_)
      have hp := hp w_2 ew_2
      exact bX11_keepAct_50 hC hR  w_2 _ _ _ hp hS (lv_sub hl [0] rfl)
    · have hp := hp.2 c_1
      refine lv_aload_n hx hb dX11_keepAct_18 rfl (lv_at hl 0 rfl) ?_
      refine G_300_41 hC hS m275 dX11_keepAct_19 ?_
      refine lv_iload_n hx hb dX11_keepAct_22 rfl (lv_at hl 1 rfl) ?_
      refine lv_aload_n hx hb dX11_keepAct_23 rfl (lv_at hl 0 rfl) ?_
      refine G_300_41 hC hS m275 dX11_keepAct_24 ?_
      refine lv_iload_n hx hb dX11_keepAct_27 rfl (lv_at hl 1 rfl) ?_
      refine lv_sipush hx hb dX11_keepAct_28 kS_221 ?_
      refine lv_iadd hx hb dX11_keepAct_31 ?_
      refine La_342 hC hS hp.1 dX11_keepAct_32 ?_
      have hp := hp.2
      refine Sa_342 hC hS hp.1 dX11_keepAct_33 (fun w_3 H locs ew_3 hS => ?_)
      have hp := hp.2
      have hp := hp w_3 ew_3
      obtain ⟨x1_4, ex1_4⟩ : ∃ y : Int32, y = x1 + (1 : Int32) := ⟨_, rfl⟩
      have hp := hp x1_4 ex1_4
      refine lv_iinc (v := x1_4) (lv' := [(1, .int x1_4), (0, .ref (g.2.2 300))]) hx hb dX11_keepAct_34 hl (k := 1) rfl (by rw [ex1_4]; rfl) (by decide) rfl (fun ls hl => ?_)
      refine lv_goto (tgt := 11) hx hb dX11_keepAct_37 (by decide) ?_
      exact ih x1_4 w_3 _ _ _ hp hS (lv_sub hl [1, 0] rfl)
set_option maxHeartbeats 4000000 in
set_option maxRecDepth 100000 in
theorem rX11_keepAct {l : Launch} {g : Gw} {w : Wd} {post : Wd → Prop}    (hp : pX11_keepAct post  w) : MtV tabM l yX11_keepAct cX11_keepAct 2 none 1 g w [.ref (g.2.2 300)] post := by
  refine q_entV tabM_nd (by decide) rfl (Nat.le_of_ble_eq_true rfl) ?_
  intro p e s m args below meth c A Q ls hC hR hS hl
  have hx := hC.1
  have hb := hC.2.1
  have hl : lv_has ls 2 [(0, .ref (g.2.2 300))] := hl
  unfold pX11_keepAct at hp
  refine lv_aload_n hx hb dX11_keepAct_0 rfl (lv_at hl 0 rfl) ?_
  refine G_300_42 hC hS m309 dX11_keepAct_1 ?_
  refine lv_bipush hx hb dX11_keepAct_4 kB_40 ?_
  refine lv_icmp_ne (tgt := 50) hx hb dX11_keepAct_6 (by decide) (fun c_1 => ?_) (fun c_1 => ?_)
  · have hp := hp.1 c_1
    exact bX11_keepAct_50 hC hR  w _ _ _ hp hS (lv_sub hl [0] rfl)
  · have hp := hp.2 c_1
    refine lv_iconst hx hb dX11_keepAct_9 kI_0 ?_
    refine lv_istore_n (lv' := [(1, .int (0 : Int32)), (0, .ref (g.2.2 300))]) hx hb dX11_keepAct_10 rfl hl (by decide) rfl (fun ls hl => ?_)
    obtain ⟨n9, hp⟩ := hp
    exact bX11_keepAct_11 hC hR n9 (0 : Int32) w _ _ _ hp hS (lv_sub hl [1, 0] rfl)
def pX11_rowOf (post : Int32 → Wd → Prop) (x1 : Int32) (w : Wd) : Prop := vp_in ((4 : Int32) * x1) 221 ∧ post (w.2.1 341 ((4 : Int32) * x1).toNatClampNeg) w
set_option maxHeartbeats 4000000 in
set_option maxRecDepth 100000 in
theorem rX11_rowOf {l : Launch} {g : Gw} {w : Wd} {post : Int32 → Wd → Prop}   {x1 : Int32} (hp : pX11_rowOf post x1 w) : MtI tabM l yX11_rowOf cX11_rowOf 2 (some .int) 1 g w [.ref (g.2.2 300), .int x1] post := by
  refine q_entI tabM_nd (by decide) rfl (Nat.le_of_ble_eq_true rfl) ?_
  intro p e s m args below meth c A Q ls hC hR hS hl
  have hx := hC.1
  have hb := hC.2.1
  have hl : lv_has ls 2 [(0, .ref (g.2.2 300)), (1, .int x1)] := hl
  unfold pX11_rowOf at hp
  refine lv_aload_n hx hb dX11_rowOf_0 rfl (lv_at hl 0 rfl) ?_
  refine G_300_40 hC hS m274 dX11_rowOf_1 ?_
  refine lv_iconst hx hb dX11_rowOf_4 kI_4 ?_
  refine lv_iload_n hx hb dX11_rowOf_5 rfl (lv_at hl 1 rfl) ?_
  refine lv_imul hx hb dX11_rowOf_6 ?_
  refine La_341 hC hS hp.1 dX11_rowOf_7 ?_
  have hp := hp.2
  exact hR _ _ _ _ _ _ dX11_rowOf_8 hp hS
def pX11_cast (post : Int32 → Wd → Prop) (x1 : Int32) (x2 : Int32) (x3 : Int32) (w : Wd) : Prop := pX11_isSeal (fun r_1 w_2 => (r_1 = 0 → (post (-1 : Int32) w_2)) ∧ (¬ r_1 = 0 → (pX11_isHand (fun r_4 w_5 => (r_4 = 0 → (post (-1 : Int32) w_5)) ∧ (¬ r_4 = 0 → (pX11_isHeat (fun r_7 w_8 => (r_7 = 0 → (post (-1 : Int32) w_8)) ∧ (¬ r_7 = 0 → (((w_8.2.1 341 (216 : Int32).toNatClampNeg) = (24 : Int32) → (post (-1 : Int32) w_8)) ∧ (¬ (w_8.2.1 341 (216 : Int32).toNatClampNeg) = (24 : Int32) → ((((1 : Int32) + x3) ≤ (w_8.2.1 341 (218 : Int32).toNatClampNeg) → (pX11_keepAct (fun w_12 => ∀ x4_13, x4_13 = (w_12.2.1 341 (216 : Int32).toNatClampNeg) → ∀ w_14, w_14 = sA w_12 341 (220 : Int32).toNatClampNeg ((((137 : Int32) * (w_12.2.1 341 (220 : Int32).toNatClampNeg)) + (71 : Int32)) - (((137 : Int32) * (w_12.2.1 341 (220 : Int32).toNatClampNeg)) + (71 : Int32)) / (1000 : Int32) * (1000 : Int32)) → pX11_rowOf (fun r_15 w_16 => False) x1 w_14) w_8)) ∧ (¬ ((1 : Int32) + x3) ≤ (w_8.2.1 341 (218 : Int32).toNatClampNeg) → (post (-1 : Int32) w_8))))))) x3 w_5))) x2 w_2))) x1 w
set_option maxHeartbeats 4000000 in
set_option maxRecDepth 100000 in
theorem rX11_cast {l : Launch} {g : Gw} {w : Wd} {post : Int32 → Wd → Prop}   {x1 : Int32} {x2 : Int32} {x3 : Int32} (hp : pX11_cast post x1 x2 x3 w) : MtI tabM l yX11_cast cX11_cast 5 (some .int) 3 g w [.ref (g.2.2 300), .int x1, .int x2, .int x3] post := by
  refine q_entI tabM_nd (by decide) rfl (Nat.le_of_ble_eq_true rfl) ?_
  intro p e s m args below meth c A Q ls hC hR hS hl
  have hx := hC.1
  have hb := hC.2.1
  have hl : lv_has ls 5 [(0, .ref (g.2.2 300)), (1, .int x1), (2, .int x2), (3, .int x3)] := hl
  unfold pX11_cast at hp
  refine lv_aload_n hx hb dX11_cast_0 rfl (lv_at hl 0 rfl) ?_
  refine lv_iload_n hx hb dX11_cast_1 rfl (lv_at hl 1 rfl) ?_
  refine q_cvI (As := [.int x1]) (rest := []) hC hS hl.1 (rX11_isSeal hp) cwX11_383 yvX11_isSeal (rcv_300 hC hS) rfl rfl (Nat.le_of_ble_eq_true rfl) (rmk (by decide) (by decide)) dX11_cast_2 (fun r_1 w_2 H locs hp hS => ?_)
  refine lv_if_eq (tgt := 50) hx hb dX11_cast_5 (by decide) (fun c_3 => ?_) (fun c_3 => ?_)
  · have hp := hp.1 c_3
    refine lv_iconst hx hb dX11_cast_50 kI_m1 ?_
    exact hR _ _ _ _ _ _ dX11_cast_51 hp hS
  · have hp := hp.2 c_3
    refine lv_aload_n hx hb dX11_cast_8 rfl (lv_at hl 0 rfl) ?_
    refine lv_iload_n hx hb dX11_cast_9 rfl (lv_at hl 2 rfl) ?_
    refine q_cvI (As := [.int x2]) (rest := []) hC hS hl.1 (rX11_isHand hp) cwX11_361 yvX11_isHand (rcv_300 hC hS) rfl rfl (Nat.le_of_ble_eq_true rfl) (rmk (by decide) (by decide)) dX11_cast_10 (fun r_4 w_5 H locs hp hS => ?_)
    refine lv_if_eq (tgt := 50) hx hb dX11_cast_13 (by decide) (fun c_6 => ?_) (fun c_6 => ?_)
    · have hp := hp.1 c_6
      refine lv_iconst hx hb dX11_cast_50 kI_m1 ?_
      exact hR _ _ _ _ _ _ dX11_cast_51 hp hS
    · have hp := hp.2 c_6
      refine lv_iload_n hx hb dX11_cast_16 rfl (lv_at hl 3 rfl) ?_
      refine q_csI (As := [.int x3]) (rest := []) hC hS hl.1 (rX11_isHeat hp) cwX11_364 ysX11_isHeat rfl rfl (Nat.le_of_ble_eq_true rfl) (rmk (by decide) (by decide)) dX11_cast_17 (fun r_7 w_8 H locs hp hS => ?_)
      refine lv_if_eq (tgt := 50) hx hb dX11_cast_20 (by decide) (fun c_9 => ?_) (fun c_9 => ?_)
      · have hp := hp.1 c_9
        refine lv_iconst hx hb dX11_cast_50 kI_m1 ?_
        exact hR _ _ _ _ _ _ dX11_cast_51 hp hS
      · have hp := hp.2 c_9
        refine lv_aload_n hx hb dX11_cast_23 rfl (lv_at hl 0 rfl) ?_
        refine G_300_40 hC hS m274 dX11_cast_24 ?_
        refine lv_sipush hx hb dX11_cast_27 kS_216 ?_
        refine La_341 hC hS (by unfold vp_in; decide) dX11_cast_30 ?_
        refine lv_bipush hx hb dX11_cast_31 kB_24 ?_
        refine lv_icmp_eq (tgt := 50) hx hb dX11_cast_33 (by decide) (fun c_10 => ?_) (fun c_10 => ?_)
        · have hp := hp.1 c_10
          refine lv_iconst hx hb dX11_cast_50 kI_m1 ?_
          exact hR _ _ _ _ _ _ dX11_cast_51 hp hS
        · have hp := hp.2 c_10
          refine lv_aload_n hx hb dX11_cast_36 rfl (lv_at hl 0 rfl) ?_
          refine G_300_40 hC hS m274 dX11_cast_37 ?_
          refine lv_sipush hx hb dX11_cast_40 kS_218 ?_
          refine La_341 hC hS (by unfold vp_in; decide) dX11_cast_43 ?_
          refine lv_iconst hx hb dX11_cast_44 kI_1 ?_
          refine lv_iload_n hx hb dX11_cast_45 rfl (lv_at hl 3 rfl) ?_
          refine lv_iadd hx hb dX11_cast_46 ?_
          refine lv_icmp_ge (tgt := 52) hx hb dX11_cast_47 (by decide) (fun c_11 => ?_) (fun c_11 => ?_)
          · have hp := hp.1 c_11
            refine lv_aload_n hx hb dX11_cast_52 rfl (lv_at hl 0 rfl) ?_
            refine q_cvV (As := []) (rest := []) hC hS hl.1 (rX11_keepAct hp) cwX11_389 yvX11_keepAct (rcv_300 hC hS) rfl rfl (Nat.le_of_ble_eq_true rfl) (rmk (by decide) (by decide)) dX11_cast_53 (fun w_12 H locs hp hS => ?_)
            refine lv_aload_n hx hb dX11_cast_56 rfl (lv_at hl 0 rfl) ?_
            refine G_300_40 hC hS m274 dX11_cast_57 ?_
            refine lv_sipush hx hb dX11_cast_60 kS_216 ?_
            refine La_341 hC hS (by unfold vp_in; decide) dX11_cast_63 ?_
            refine lv_topi (fun x4_13 ex4_13 => ?_)
            have hp := hp x4_13 ex4_13
            refine lv_istore (lv' := [(4, .int x4_13), (0, .ref (g.2.2 300)), (1, .int x1), (2, .int x2), (3, .int x3)]) hx hb dX11_cast_64 hl (by decide) rfl (fun ls hl => ?_)
            refine lv_aload_n hx hb dX11_cast_66 rfl (lv_at hl 1 rfl) ?_
            refine G_300_40 hC hS m274 dX11_cast_67 ?_
            refine lv_sipush hx hb dX11_cast_70 kS_220 ?_
            refine lv_sipush hx hb dX11_cast_73 kS_137 ?_
            refine lv_aload_n hx hb dX11_cast_76 rfl (lv_at hl 1 rfl) ?_
            refine G_300_40 hC hS m274 dX11_cast_77 ?_
            refine lv_sipush hx hb dX11_cast_80 kS_220 ?_
            refine La_341 hC hS (by unfold vp_in; decide) dX11_cast_83 ?_
            refine lv_imul hx hb dX11_cast_84 ?_
            refine lv_bipush hx hb dX11_cast_85 kB_71 ?_
            refine lv_iadd hx hb dX11_cast_87 ?_
            refine lv_sipush hx hb dX11_cast_88 kS_1000 ?_
            refine lv_irem hx hb dX11_cast_91 (by decide) ?_
            refine Sa_341 hC hS (by unfold vp_in; decide) dX11_cast_92 (fun w_14 H locs ew_14 hS => ?_)
            have hp := hp w_14 ew_14
            refine lv_aload_n hx hb dX11_cast_93 rfl (lv_at hl 1 rfl) ?_
            refine G_300_40 hC hS m274 dX11_cast_94 ?_
            refine lv_iconst hx hb dX11_cast_97 kI_4 ?_
            refine lv_iload hx hb dX11_cast_98 (lv_at hl 0 rfl) ?_
            refine lv_imul hx hb dX11_cast_100 ?_
            refine lv_aload_n hx hb dX11_cast_101 rfl (lv_at hl 1 rfl) ?_
            refine lv_aload_n hx hb dX11_cast_102 rfl (lv_at hl 1 rfl) ?_
            refine lv_iload_n hx hb dX11_cast_103 rfl (lv_at hl 2 rfl) ?_
            refine q_cvI (As := [.int x1]) (rest := [.ref (g.2.2 300), .int ((4 : Int32) * x4_13), .ref (g.2.2 341)]) hC hS hl.1 (rX11_rowOf hp) cwX11_392 yvX11_rowOf (rcv_300 hC hS) rfl rfl (Nat.le_of_ble_eq_true rfl) (rmk (by decide) (by decide)) dX11_cast_104 (fun r_15 w_16 H locs hp hS => ?_)
            refine lv_iload_n hx hb dX11_cast_107 rfl (lv_at hl 3 rfl) ?_
            refine lv_iload_n hx hb dX11_cast_108 rfl (lv_at hl 4 rfl) ?_
            refine lv_aload_n hx hb dX11_cast_109 rfl (lv_at hl 1 rfl) ?_
            refine G_300_40 hC hS m274 dX11_cast_110 ?_
            refine lv_sipush hx hb dX11_cast_113 kS_220 ?_
            refine La_341 hC hS (by unfold vp_in; decide) dX11_cast_116 ?_
            refine lv_bipush hx hb dX11_cast_117 kB_100 ?_
            refine lv_irem hx hb dX11_cast_119 (by decide) ?_
            exact False.elim hp
          · have hp := hp.2 c_11
            refine lv_iconst hx hb dX11_cast_50 kI_m1 ?_
            exact hR _ _ _ _ _ _ dX11_cast_51 hp hS
