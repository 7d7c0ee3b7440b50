def pX11_feed_71 (k18 : Int32 → Int32 → Int32 → Int32 → Int32 → Int32 → Wd → Prop) (post : Int32 → Wd → Prop) (x1 : Int32) (x2 : Int32) (x3 : Int32) (x4 : Int32) (x5 : Int32) (x6 : Int32) (t0 : Int32) (w : Wd) : Prop := vp_in ((w.1 300 2) + x6) 1620 ∧ ∀ w_1, w_1 = sA w 301 ((w.1 300 2) + x6).toNatClampNeg (vp_nar .byte (((t0 >>> (((24 : Int32) - ((8 : Int32) * (x6 &&& (3 : Int32)))) &&& 31))).toInt8.toInt32)) → ∀ x6_2, x6_2 = x6 + (1 : Int32) → k18 x1 x2 x3 x4 x5 x6_2 w_1
def pX11_feed_18 (post : Int32 → Wd → Prop) : Nat → Int32 → Int32 → Int32 → Int32 → Int32 → Int32 → Wd → Prop
  | 0, _, _, _, _, _, _, _ => False
  | n + 1, x1, x2, x3, x4, x5, x6, w => ((20 : Int32) ≤ x6 → (∀ w_2, w_2 = sI w 300 2 ((w.1 300 2) + (20 : Int32)) → post (w_2.1 300 2) w_2)) ∧ (¬ (20 : Int32) ≤ x6 → (((4 : Int32) ≤ x6 → (((8 : Int32) ≤ x6 → (((12 : Int32) ≤ x6 → (((16 : Int32) ≤ x6 → (pX11_feed_71 (pX11_feed_18 post n) post x1 x2 x3 x4 x5 x6 x5 w)) ∧ (¬ (16 : Int32) ≤ x6 → (pX11_feed_71 (pX11_feed_18 post n) post x1 x2 x3 x4 x5 x6 x4 w)))) ∧ (¬ (12 : Int32) ≤ x6 → (pX11_feed_71 (pX11_feed_18 post n) post x1 x2 x3 x4 x5 x6 x3 w)))) ∧ (¬ (8 : Int32) ≤ x6 → (pX11_feed_71 (pX11_feed_18 post n) post x1 x2 x3 x4 x5 x6 x2 w)))) ∧ (¬ (4 : Int32) ≤ x6 → (pX11_feed_71 (pX11_feed_18 post n) post x1 x2 x3 x4 x5 x6 x1 w))))
def pX11_feed (post : Int32 → Wd → Prop) (x1 : Int32) (x2 : Int32) (x3 : Int32) (x4 : Int32) (x5 : Int32) (w : Wd) : Prop := (((w.1 300 2) + (20 : Int32)) ≤ (1600 : Int32) → (∃ n9, pX11_feed_18 post n9 x1 x2 x3 x4 x5 (0 : Int32) w)) ∧ (¬ ((w.1 300 2) + (20 : Int32)) ≤ (1600 : Int32) → (post (-1 : Int32) w))
set_option maxHeartbeats 4000000 in
set_option maxRecDepth 100000 in
theorem bX11_feed_71 {p : Program} {l : Launch} {e : Env} {s : State} {m : MethodId} {args : Array Value} {below : List Frame} {meth : Method} {c : Code} {Q : State → Prop} {A : Nat → Prop} {g : Gw} {post : Int32 → Wd → Prop}  (hC : Cx p s m args c cX11_feed RX11 8 g) (hR : RtI tabM p l e (rk 1) s m args below meth c Q cX11_feed A g post)  {k18 : Int32 → Int32 → Int32 → Int32 → Int32 → Int32 → Wd → Prop} (hk18 : ∀ (x1 : Int32) (x2 : Int32) (x3 : Int32) (x4 : Int32) (x5 : Int32) (x6 : Int32) (w : Wd) (H : Heap) (locs : List Loc) (ls : Array Slot), k18 x1 x2 x3 x4 x5 x6 w → St tabM A s.heap g w H locs → lv_has ls 8 [(0, .ref (g.2.2 300)), (1, .int x1), (2, .int x2), (3, .int x3), (4, .int x4), (5, .int x5), (6, .int x6)] → W p l e (rk 1) s m args below meth c H locs 0 0 Q (F0 m 18 ls [])) : ∀ (x1 : Int32) (x2 : Int32) (x3 : Int32) (x4 : Int32) (x5 : Int32) (x6 : Int32) (t0 : Int32) (w : Wd) (H : Heap) (locs : List Loc) (ls : Array Slot), pX11_feed_71 k18 post x1 x2 x3 x4 x5 x6 t0 w → St tabM A s.heap g w H locs → lv_has ls 8 [(0, .ref (g.2.2 300)), (1, .int x1), (2, .int x2), (3, .int x3), (4, .int x4), (5, .int x5), (6, .int x6)] → W p l e (rk 1) s m args below meth c H locs 0 0 Q (F0 m 71 ls [.int t0]) := by
  have hx := hC.1
  have hb := hC.2.1
  intro x1 x2 x3 x4 x5 x6 t0 w H locs ls hp hS hl
  unfold pX11_feed_71 at hp
  refine lv_istore (lv' := [(7, .int t0), (0, .ref (g.2.2 300)), (1, .int x1), (2, .int x2), (3, .int x3), (4, .int x4), (5, .int x5), (6, .int x6)]) hx hb dX11_feed_71 hl (by decide) rfl (fun ls hl => ?_)
  refine lv_aload_n hx hb dX11_feed_73 rfl (lv_at hl 1 rfl) ?_
  refine G_300_0 hC hS m253 dX11_feed_74 ?_
  refine lv_aload_n hx hb dX11_feed_77 rfl (lv_at hl 1 rfl) ?_
  refine G_300_2 hC hS m325 dX11_feed_78 ?_
  refine lv_iload hx hb dX11_feed_81 (lv_at hl 7 rfl) ?_
  refine lv_iadd hx hb dX11_feed_83 ?_
  refine lv_iload hx hb dX11_feed_84 (lv_at hl 0 rfl) ?_
  refine lv_bipush hx hb dX11_feed_86 kB_24 ?_
  refine lv_bipush hx hb dX11_feed_88 kB_8 ?_
  refine lv_iload hx hb dX11_feed_90 (lv_at hl 7 rfl) ?_
  refine lv_iconst hx hb dX11_feed_92 kI_3 ?_
  refine lv_iand hx hb dX11_feed_93 ?_
  refine lv_imul hx hb dX11_feed_94 ?_
  refine lv_isub hx hb dX11_feed_95 ?_
  refine lv_ishr hx hb dX11_feed_96 ?_
  refine lv_i2b hx hb dX11_feed_97 rfl ?_
  refine Sa_301 hC hS hp.1 dX11_feed_98 (fun w_1 H locs ew_1 hS => ?_)
  have hp := hp.2
  have hp := hp w_1 ew_1
  obtain ⟨x6_2, ex6_2⟩ : ∃ y : Int32, y = x6 + (1 : Int32) := ⟨_, rfl⟩
  have hp := hp x6_2 ex6_2
  refine lv_iinc (v := x6_2) (lv' := [(6, .int x6_2), (7, .int t0), (0, .ref (g.2.2 300)), (1, .int x1), (2, .int x2), (3, .int x3), (4, .int x4), (5, .int x5)]) hx hb dX11_feed_99 hl (k := 7) rfl (by rw [ex6_2]; rfl) (by decide) rfl (fun ls hl => ?_)
  refine lv_goto (tgt := 18) hx hb dX11_feed_102 (by decide) ?_
  exact hk18 x1 x2 x3 x4 x5 x6_2 w_1 _ _ _ hp hS (lv_sub hl [2, 3, 4, 5, 6, 7, 0] rfl)
set_option maxHeartbeats 4000000 in
set_option maxRecDepth 100000 in
theorem bX11_feed_18 {p : Program} {l : Launch} {e : Env} {s : State} {m : MethodId} {args : Array Value} {below : List Frame} {meth : Method} {c : Code} {Q : State → Prop} {A : Nat → Prop} {g : Gw} {post : Int32 → Wd → Prop}  (hC : Cx p s m args c cX11_feed RX11 8 g) (hR : RtI tabM p l e (rk 1) s m args below meth c Q cX11_feed A g post)  : ∀ (n : Nat) (x1 : Int32) (x2 : Int32) (x3 : Int32) (x4 : Int32) (x5 : Int32) (x6 : Int32) (w : Wd) (H : Heap) (locs : List Loc) (ls : Array Slot), pX11_feed_18 post n x1 x2 x3 x4 x5 x6 w → St tabM A s.heap g w H locs → lv_has ls 8 [(0, .ref (g.2.2 300)), (1, .int x1), (2, .int x2), (3, .int x3), (4, .int x4), (5, .int x5), (6, .int x6)] → W p l e (rk 1) s m args below meth c H locs 0 0 Q (F0 m 18 ls []) := by
  have hx := hC.1
  have hb := hC.2.1
  intro n
  induction n with
  | zero =>
    intro x1 x2 x3 x4 x5 x6 w H locs ls hp hS hl
    exact False.elim hp
  | succ n ih =>
    intro x1 x2 x3 x4 x5 x6 w H locs ls hp hS hl
    unfold pX11_feed_18 at hp
    refine lv_iload hx hb dX11_feed_18 (lv_at hl 6 rfl) ?_
    refine lv_bipush hx hb dX11_feed_20 kB_20 ?_
    refine lv_icmp_ge (tgt := 105) hx hb dX11_feed_22 (by decide) (fun c_1 => ?_) (fun c_1 => ?_)
    · have hp := hp.1 c_1
      refine lv_aload_n hx hb dX11_feed_105 rfl (lv_at hl 0 rfl) ?_
      refine lv_dup hx hb dX11_feed_106 rfl ?_
      refine G_300_2 hC hS m325 dX11_feed_107 ?_
      refine lv_bipush hx hb dX11_feed_110 kB_20 ?_
      refine lv_iadd hx hb dX11_feed_112 ?_
      refine P_300_2 hC hS m325 dX11_feed_113 (fun w_2 H locs ew_2 hS => ?_)
      have hp := hp w_2 ew_2
      refine lv_aload_n hx hb dX11_feed_116 rfl (lv_at hl 0 rfl) ?_
      refine G_300_2 hC hS m325 dX11_feed_117 ?_
      exact hR _ _ _ _ _ _ dX11_feed_120 hp hS
    · have hp := hp.2 c_1
      refine lv_iload hx hb dX11_feed_25 (lv_at hl 6 rfl) ?_
      refine lv_iconst hx hb dX11_feed_27 kI_4 ?_
      refine lv_icmp_ge (tgt := 35) hx hb dX11_feed_28 (by decide) (fun c_3 => ?_) (fun c_3 => ?_)
      · have hp := hp.1 c_3
        refine lv_iload hx hb dX11_feed_35 (lv_at hl 6 rfl) ?_
        refine lv_bipush hx hb dX11_feed_37 kB_8 ?_
        refine lv_icmp_ge (tgt := 46) hx hb dX11_feed_39 (by decide) (fun c_4 => ?_) (fun c_4 => ?_)
        · have hp := hp.1 c_4
          refine lv_iload hx hb dX11_feed_46 (lv_at hl 6 rfl) ?_
          refine lv_bipush hx hb dX11_feed_48 kB_12 ?_
          refine lv_icmp_ge (tgt := 57) hx hb dX11_feed_50 (by decide) (fun c_5 => ?_) (fun c_5 => ?_)
          · have hp := hp.1 c_5
            refine lv_iload hx hb dX11_feed_57 (lv_at hl 6 rfl) ?_
            refine lv_bipush hx hb dX11_feed_59 kB_16 ?_
            refine lv_icmp_ge (tgt := 69) hx hb dX11_feed_61 (by decide) (fun c_6 => ?_) (fun c_6 => ?_)
            · have hp := hp.1 c_6
              refine lv_iload hx hb dX11_feed_69 (lv_at hl 5 rfl) ?_
              exact bX11_feed_71 hC hR ih x1 x2 x3 x4 x5 x6 x5 w _ _ _ hp hS (lv_sub hl [0, 1, 2, 3, 4, 5, 6] rfl)
            · have hp := hp.2 c_6
              refine lv_iload hx hb dX11_feed_64 (lv_at hl 4 rfl) ?_
              refine lv_goto (tgt := 71) hx hb dX11_feed_66 (by decide) ?_
              exact bX11_feed_71 hC hR ih x1 x2 x3 x4 x5 x6 x4 w _ _ _ hp hS (lv_sub hl [0, 1, 2, 3, 4, 5, 6] rfl)
          · have hp := hp.2 c_5
            refine lv_iload_n hx hb dX11_feed_53 rfl (lv_at hl 3 rfl) ?_
            refine lv_goto (tgt := 71) hx hb dX11_feed_54 (by decide) ?_
            exact bX11_feed_71 hC hR ih x1 x2 x3 x4 x5 x6 x3 w _ _ _ hp hS (lv_sub hl [0, 1, 2, 3, 4, 5, 6] rfl)
        · have hp := hp.2 c_4
          refine lv_iload_n hx hb dX11_feed_42 rfl (lv_at hl 2 rfl) ?_
          refine lv_goto (tgt := 71) hx hb dX11_feed_43 (by decide) ?_
          exact bX11_feed_71 hC hR ih x1 x2 x3 x4 x5 x6 x2 w _ _ _ hp hS (lv_sub hl [0, 1, 2, 3, 4, 5, 6] rfl)
      · have hp := hp.2 c_3
        refine lv_iload_n hx hb dX11_feed_31 rfl (lv_at hl 1 rfl) ?_
        refine lv_goto (tgt := 71) hx hb dX11_feed_32 (by decide) ?_
        exact bX11_feed_71 hC hR ih x1 x2 x3 x4 x5 x6 x1 w _ _ _ hp hS (lv_sub hl [0, 1, 2, 3, 4, 5, 6] rfl)
set_option maxHeartbeats 4000000 in
set_option maxRecDepth 100000 in
theorem rX11_feed {l : Launch} {g : Gw} {w : Wd} {post : Int32 → Wd → Prop}   {x1 : Int32} {x2 : Int32} {x3 : Int32} {x4 : Int32} {x5 : Int32} (hp : pX11_feed post x1 x2 x3 x4 x5 w) : MtI tabM l yX11_feed cX11_feed 8 (some .int) 1 g w [.ref (g.2.2 300), .int x1, .int x2, .int x3, .int x4, .int x5] post := by
  refine q_entI tabM_nd (by decide) rfl (Nat.le_of_ble_eq_true rfl) ?_
  intro p e s m args below meth c A Q ls hC hR hS hl
  have hx := hC.1
  have hb := hC.2.1
  have hl : lv_has ls 8 [(0, .ref (g.2.2 300)), (1, .int x1), (2, .int x2), (3, .int x3), (4, .int x4), (5, .int x5)] := hl
  unfold pX11_feed at hp
  refine lv_aload_n hx hb dX11_feed_0 rfl (lv_at hl 0 rfl) ?_
  refine G_300_2 hC hS m325 dX11_feed_1 ?_
  refine lv_bipush hx hb dX11_feed_4 kB_20 ?_
  refine lv_iadd hx hb dX11_feed_6 ?_
  refine lv_sipush hx hb dX11_feed_7 kS_1600 ?_
  refine lv_icmp_le (tgt := 15) hx hb dX11_feed_10 (by decide) (fun c_1 => ?_) (fun c_1 => ?_)
  · have hp := hp.1 c_1
    refine lv_iconst hx hb dX11_feed_15 kI_0 ?_
    refine lv_istore (lv' := [(6, .int (0 : Int32)), (0, .ref (g.2.2 300)), (1, .int x1), (2, .int x2), (3, .int x3), (4, .int x4), (5, .int x5)]) hx hb dX11_feed_16 hl (by decide) rfl (fun ls hl => ?_)
    obtain ⟨n9, hp⟩ := hp
    exact bX11_feed_18 hC hR n9 x1 x2 x3 x4 x5 (0 : Int32) w _ _ _ hp hS (lv_sub hl [1, 2, 3, 4, 5, 6, 0] rfl)
  · have hp := hp.2 c_1
    refine lv_iconst hx hb dX11_feed_13 kI_m1 ?_
    exact hR _ _ _ _ _ _ dX11_feed_14 hp hS
def pX11_end (post : Int32 → Wd → Prop) (x1 : Int32) (w : Wd) : Prop := (x1 < 0 → (post (-1 : Int32) w)) ∧ (¬ x1 < 0 → ((x1 ≤ (w.1 300 2) → (∀ w_3, w_3 = sI w 300 2 x1 → post x1 w_3)) ∧ (¬ x1 ≤ (w.1 300 2) → (post (-1 : Int32) w))))
set_option maxHeartbeats 4000000 in
set_option maxRecDepth 100000 in
theorem rX11_end {l : Launch} {g : Gw} {w : Wd} {post : Int32 → Wd → Prop}   {x1 : Int32} (hp : pX11_end post x1 w) : MtI tabM l yX11_end cX11_end 2 (some .int) 1 g w [.ref (g.2.2 300), .int x1] post := by
  refine q_entI tabM_nd (by decide) rfl (Nat.le_of_ble_eq_true rfl) ?_
  intro p e s m args below meth c A Q ls hC hR hS hl
  have hx := hC.1
  have hb := hC.2.1
  have hl : lv_has ls 2 [(0, .ref (g.2.2 300)), (1, .int x1)] := hl
  unfold pX11_end at hp
  refine lv_iload_n hx hb dX11_end_0 rfl (lv_at hl 1 rfl) ?_
  refine lv_if_lt (tgt := 12) hx hb dX11_end_1 (by decide) (fun c_1 => ?_) (fun c_1 => ?_)
  · have hp := hp.1 c_1
    refine lv_iconst hx hb dX11_end_12 kI_m1 ?_
    exact hR _ _ _ _ _ _ dX11_end_13 hp hS
  · have hp := hp.2 c_1
    refine lv_iload_n hx hb dX11_end_4 rfl (lv_at hl 1 rfl) ?_
    refine lv_aload_n hx hb dX11_end_5 rfl (lv_at hl 0 rfl) ?_
    refine G_300_2 hC hS m325 dX11_end_6 ?_
    refine lv_icmp_le (tgt := 14) hx hb dX11_end_9 (by decide) (fun c_2 => ?_) (fun c_2 => ?_)
    · have hp := hp.1 c_2
      refine lv_aload_n hx hb dX11_end_14 rfl (lv_at hl 0 rfl) ?_
      refine lv_iload_n hx hb dX11_end_15 rfl (lv_at hl 1 rfl) ?_
      refine P_300_2 hC hS m325 dX11_end_16 (fun w_3 H locs ew_3 hS => ?_)
      have hp := hp w_3 ew_3
      refine lv_iload_n hx hb dX11_end_19 rfl (lv_at hl 1 rfl) ?_
      exact hR _ _ _ _ _ _ dX11_end_20 hp hS
    · have hp := hp.2 c_2
      refine lv_iconst hx hb dX11_end_12 kI_m1 ?_
      exact hR _ _ _ _ _ _ dX11_end_13 hp hS
def pX11_clearBank (post : Wd → Prop)  (w : Wd) : Prop := vp_in (w.1 300 30) 2 ∧ ∀ w_1, w_1 = sA w 312 (w.1 300 30).toNatClampNeg (8 : Int32) → vp_in (w_1.1 300 30) 2 ∧ ∀ w_2, w_2 = sA w_1 313 (w_1.1 300 30).toNatClampNeg (0 : Int32) → vp_in (w_2.1 300 30) 2 ∧ ∀ w_3, w_3 = sA w_2 314 (w_2.1 300 30).toNatClampNeg (0 : Int32) → vp_in (w_3.1 300 30) 2 ∧ ∀ w_4, w_4 = sA w_3 315 (w_3.1 300 30).toNatClampNeg (0 : Int32) → vp_in (w_4.1 300 30) 2 ∧ ∀ w_5, w_5 = sA w_4 316 (w_4.1 300 30).toNatClampNeg (100 : Int32) → vp_in (w_5.1 300 30) 2 ∧ ∀ w_6, w_6 = sA w_5 317 (w_5.1 300 30).toNatClampNeg (0 : Int32) → vp_in (w_6.1 300 30) 2 ∧ ∀ w_7, w_7 = sA w_6 318 (w_6.1 300 30).toNatClampNeg (0 : Int32) → vp_in (w_7.1 300 30) 2 ∧ ∀ w_8, w_8 = sA w_7 321 (w_7.1 300 30).toNatClampNeg (vp_nar .boolean (0 : Int32)) → vp_in (w_8.1 300 30) 2 ∧ ∀ w_9, w_9 = sA w_8 322 (w_8.1 300 30).toNatClampNeg (vp_nar .boolean (0 : Int32)) → vp_in (w_9.1 300 30) 2 ∧ ∀ w_10, w_10 = sA w_9 323 (w_9.1 300 30).toNatClampNeg (vp_nar .boolean (0 : Int32)) → ∀ w_11, w_11 = sI w_10 300 31 ((560 : Int32) * (w_10.1 300 30)) → post w_11
set_option maxHeartbeats 4000000 in
set_option maxRecDepth 100000 in
theorem rX11_clearBank {l : Launch} {g : Gw} {w : Wd} {post : Wd → Prop}    (hp : pX11_clearBank post  w) : MtV tabM l yX11_clearBank cX11_clearBank 1 none 1 g w [.ref (g.2.2 300)] post := by
  refine q_entV tabM_nd (by decide) rfl (Nat.le_of_ble_eq_true rfl) ?_
  intro p e s m args below meth c A Q ls hC hR hS hl
  have hx := hC.1
  have hb := hC.2.1
  have hl : lv_has ls 1 [(0, .ref (g.2.2 300))] := hl
  unfold pX11_clearBank at hp
  refine lv_aload_n hx hb dX11_clearBank_0 rfl (lv_at hl 0 rfl) ?_
  refine G_300_11 hC hS m256 dX11_clearBank_1 ?_
  refine lv_aload_n hx hb dX11_clearBank_4 rfl (lv_at hl 0 rfl) ?_
  refine G_300_30 hC hS m302 dX11_clearBank_5 ?_
  refine lv_bipush hx hb dX11_clearBank_8 kB_8 ?_
  refine Sa_312 hC hS hp.1 dX11_clearBank_10 (fun w_1 H locs ew_1 hS => ?_)
  have hp := hp.2
  have hp := hp w_1 ew_1
  refine lv_aload_n hx hb dX11_clearBank_11 rfl (lv_at hl 0 rfl) ?_
  refine G_300_12 hC hS m257 dX11_clearBank_12 ?_
  refine lv_aload_n hx hb dX11_clearBank_15 rfl (lv_at hl 0 rfl) ?_
  refine G_300_30 hC hS m302 dX11_clearBank_16 ?_
  refine lv_iconst hx hb dX11_clearBank_19 kI_0 ?_
  refine Sa_313 hC hS hp.1 dX11_clearBank_20 (fun w_2 H locs ew_2 hS => ?_)
  have hp := hp.2
  have hp := hp w_2 ew_2
  refine lv_aload_n hx hb dX11_clearBank_21 rfl (lv_at hl 0 rfl) ?_
  refine G_300_13 hC hS m258 dX11_clearBank_22 ?_
  refine lv_aload_n hx hb dX11_clearBank_25 rfl (lv_at hl 0 rfl) ?_
  refine G_300_30 hC hS m302 dX11_clearBank_26 ?_
  refine lv_iconst hx hb dX11_clearBank_29 kI_0 ?_
  refine Sa_314 hC hS hp.1 dX11_clearBank_30 (fun w_3 H locs ew_3 hS => ?_)
  have hp := hp.2
  have hp := hp w_3 ew_3
  refine lv_aload_n hx hb dX11_clearBank_31 rfl (lv_at hl 0 rfl) ?_
  refine G_300_14 hC hS m259 dX11_clearBank_32 ?_
  refine lv_aload_n hx hb dX11_clearBank_35 rfl (lv_at hl 0 rfl) ?_
  refine G_300_30 hC hS m302 dX11_clearBank_36 ?_
  refine lv_iconst hx hb dX11_clearBank_39 kI_0 ?_
  refine Sa_315 hC hS hp.1 dX11_clearBank_40 (fun w_4 H locs ew_4 hS => ?_)
  have hp := hp.2
  have hp := hp w_4 ew_4
  refine lv_aload_n hx hb dX11_clearBank_41 rfl (lv_at hl 0 rfl) ?_
  refine G_300_15 hC hS m260 dX11_clearBank_42 ?_
  refine lv_aload_n hx hb dX11_clearBank_45 rfl (lv_at hl 0 rfl) ?_
  refine G_300_30 hC hS m302 dX11_clearBank_46 ?_
  refine lv_bipush hx hb dX11_clearBank_49 kB_100 ?_
  refine Sa_316 hC hS hp.1 dX11_clearBank_51 (fun w_5 H locs ew_5 hS => ?_)
  have hp := hp.2
  have hp := hp w_5 ew_5
  refine lv_aload_n hx hb dX11_clearBank_52 rfl (lv_at hl 0 rfl) ?_
  refine G_300_16 hC hS m261 dX11_clearBank_53 ?_
  refine lv_aload_n hx hb dX11_clearBank_56 rfl (lv_at hl 0 rfl) ?_
  refine G_300_30 hC hS m302 dX11_clearBank_57 ?_
  refine lv_iconst hx hb dX11_clearBank_60 kI_0 ?_
  refine Sa_317 hC hS hp.1 dX11_clearBank_61 (fun w_6 H locs ew_6 hS => ?_)
  have hp := hp.2
  have hp := hp w_6 ew_6
  refine lv_aload_n hx hb dX11_clearBank_62 rfl (lv_at hl 0 rfl) ?_
  refine G_300_17 hC hS m262 dX11_clearBank_63 ?_
  refine lv_aload_n hx hb dX11_clearBank_66 rfl (lv_at hl 0 rfl) ?_
  refine G_300_30 hC hS m302 dX11_clearBank_67 ?_
  refine lv_iconst hx hb dX11_clearBank_70 kI_0 ?_
  refine Sa_318 hC hS hp.1 dX11_clearBank_71 (fun w_7 H locs ew_7 hS => ?_)
  have hp := hp.2
  have hp := hp w_7 ew_7
  refine lv_aload_n hx hb dX11_clearBank_72 rfl (lv_at hl 0 rfl) ?_
  refine G_300_20 hC hS m265 dX11_clearBank_73 ?_
  refine lv_aload_n hx hb dX11_clearBank_76 rfl (lv_at hl 0 rfl) ?_
  refine G_300_30 hC hS m302 dX11_clearBank_77 ?_
  refine lv_iconst hx hb dX11_clearBank_80 kI_0 ?_
  refine Sa_321 hC hS hp.1 dX11_clearBank_81 (fun w_8 H locs ew_8 hS => ?_)
  have hp := hp.2
  have hp := hp w_8 ew_8
  refine lv_aload_n hx hb dX11_clearBank_82 rfl (lv_at hl 0 rfl) ?_
  refine G_300_21 hC hS m266 dX11_clearBank_83 ?_
  refine lv_aload_n hx hb dX11_clearBank_86 rfl (lv_at hl 0 rfl) ?_
  refine G_300_30 hC hS m302 dX11_clearBank_87 ?_
  refine lv_iconst hx hb dX11_clearBank_90 kI_0 ?_
  refine Sa_322 hC hS hp.1 dX11_clearBank_91 (fun w_9 H locs ew_9 hS => ?_)
  have hp := hp.2
  have hp := hp w_9 ew_9
  refine lv_aload_n hx hb dX11_clearBank_92 rfl (lv_at hl 0 rfl) ?_
  refine G_300_22 hC hS m267 dX11_clearBank_93 ?_
  refine lv_aload_n hx hb dX11_clearBank_96 rfl (lv_at hl 0 rfl) ?_
  refine G_300_30 hC hS m302 dX11_clearBank_97 ?_
  refine lv_iconst hx hb dX11_clearBank_100 kI_0 ?_
  refine Sa_323 hC hS hp.1 dX11_clearBank_101 (fun w_10 H locs ew_10 hS => ?_)
  have hp := hp.2
  have hp := hp w_10 ew_10
  refine lv_aload_n hx hb dX11_clearBank_102 rfl (lv_at hl 0 rfl) ?_
  refine lv_sipush hx hb dX11_clearBank_103 kS_560 ?_
  refine lv_aload_n hx hb dX11_clearBank_106 rfl (lv_at hl 0 rfl) ?_
  refine G_300_30 hC hS m302 dX11_clearBank_107 ?_
  refine lv_imul hx hb dX11_clearBank_110 ?_
  refine P_300_31 hC hS m303 dX11_clearBank_111 (fun w_11 H locs ew_11 hS => ?_)
  have hp := hp w_11 ew_11
  exact hR _ _ _ _ _ dX11_clearBank_114 hp hS
def pX11_isDigit (post : Int32 → Wd → Prop) (x0 : Int32) (w : Wd) : Prop := (x0 < (48 : Int32) → (post (0 : Int32) w)) ∧ (¬ x0 < (48 : Int32) → (((57 : Int32) < x0 → (post (0 : Int32) w)) ∧ (¬ (57 : Int32) < x0 → (post (1 : Int32) w))))
set_option maxHeartbeats 4000000 in
set_option maxRecDepth 100000 in
theorem rX11_isDigit {l : Launch} {g : Gw} {w : Wd} {post : Int32 → Wd → Prop}   {x0 : Int32} (hp : pX11_isDigit post x0 w) : MtI tabM l yX11_isDigit cX11_isDigit 1 (some .boolean) 1 g w [.int x0] post := by
  refine q_entZ tabM_nd (by decide) rfl (Nat.le_of_ble_eq_true rfl) ?_
  intro p e s m args below meth c A Q ls hC hR hS hl
  have hx := hC.1
  have hb := hC.2.1
  have hl : lv_has ls 1 [(0, .int x0)] := hl
  unfold pX11_isDigit at hp
  refine lv_iload_n hx hb dX11_isDigit_0 rfl (lv_at hl 0 rfl) ?_
  refine lv_bipush hx hb dX11_isDigit_1 kB_48 ?_
  refine lv_icmp_lt (tgt := 16) hx hb dX11_isDigit_3 (by decide) (fun c_1 => ?_) (fun c_1 => ?_)
  · have hp := hp.1 c_1
    refine lv_iconst hx hb dX11_isDigit_16 kI_0 ?_
    exact hR _ _ _ _ _ _ dX11_isDigit_17 (by decide) hp hS
  · have hp := hp.2 c_1
    refine lv_iload_n hx hb dX11_isDigit_6 rfl (lv_at hl 0 rfl) ?_
    refine lv_bipush hx hb dX11_isDigit_7 kB_57 ?_
    refine lv_icmp_gt (tgt := 16) hx hb dX11_isDigit_9 (by decide) (fun c_2 => ?_) (fun c_2 => ?_)
    · have hp := hp.1 c_2
      refine lv_iconst hx hb dX11_isDigit_16 kI_0 ?_
      exact hR _ _ _ _ _ _ dX11_isDigit_17 (by decide) hp hS
    · have hp := hp.2 c_2
      refine lv_iconst hx hb dX11_isDigit_12 kI_1 ?_
      refine lv_goto (tgt := 17) hx hb dX11_isDigit_13 (by decide) ?_
      exact hR _ _ _ _ _ _ dX11_isDigit_17 (by decide) hp hS
def pX11_isKept_77 (post : Int32 → Wd → Prop) (x0 : Int64) (t0 : Int32) (w : Wd) : Prop := (¬ t0 = 0 → (post (1 : Int32) w)) ∧ (t0 = 0 → (((lg_cmp x0 (1818584692 : Int64)) = 0 → (post (1 : Int32) w)) ∧ (¬ (lg_cmp x0 (1818584692 : Int64)) = 0 → (((lg_cmp x0 (491394656372 : Int64)) = 0 → (post (1 : Int32) w)) ∧ (¬ (lg_cmp x0 (491394656372 : Int64)) = 0 → (((lg_cmp x0 (1835101817 : Int64)) = 0 → (post (1 : Int32) w)) ∧ (¬ (lg_cmp x0 (1835101817 : Int64)) = 0 → (((lg_cmp x0 (2036687218 : Int64)) = 0 → (post (1 : Int32) w)) ∧ (¬ (lg_cmp x0 (2036687218 : Int64)) = 0 → (((lg_cmp x0 (1751474548 : Int64)) = 0 → (post (1 : Int32) w)) ∧ (¬ (lg_cmp x0 (1751474548 : Int64)) = 0 → (((lg_cmp x0 (28530 : Int64)) = 0 → (post (1 : Int32) w)) ∧ (¬ (lg_cmp x0 (28530 : Int64)) = 0 → (((lg_cmp x0 (6385252 : Int64)) = 0 → (post (1 : Int32) w)) ∧ (¬ (lg_cmp x0 (6385252 : Int64)) = 0 → ((¬ (lg_cmp x0 (7237492 : Int64)) = 0 → (post (0 : Int32) w)) ∧ ((lg_cmp x0 (7237492 : Int64)) = 0 → (post (1 : Int32) w))))))))))))))))))
def pX11_isKept_72 (post : Int32 → Wd → Prop) (x0 : Int64) (w : Wd) : Prop := pX11_isKept_77 post x0 (1 : Int32) w
def pX11_isKept (post : Int32 → Wd → Prop) (x0 : Int64) (w : Wd) : Prop := ((lg_cmp x0 (469786323827 : Int64)) = 0 → (pX11_isKept_72 post x0 w)) ∧ (¬ (lg_cmp x0 (469786323827 : Int64)) = 0 → (((lg_cmp x0 (439855772532 : Int64)) = 0 → (pX11_isKept_72 post x0 w)) ∧ (¬ (lg_cmp x0 (439855772532 : Int64)) = 0 → (((lg_cmp x0 (1751215716 : Int64)) = 0 → (pX11_isKept_72 post x0 w)) ∧ (¬ (lg_cmp x0 (1751215716 : Int64)) = 0 → (((lg_cmp x0 (512801993331 : Int64)) = 0 → (pX11_isKept_72 post x0 w)) ∧ (¬ (lg_cmp x0 (512801993331 : Int64)) = 0 → (((lg_cmp x0 (439855377523 : Int64)) = 0 → (pX11_isKept_72 post x0 w)) ∧ (¬ (lg_cmp x0 (439855377523 : Int64)) = 0 → (((lg_cmp x0 (7823736 : Int64)) = 0 → (pX11_isKept_72 post x0 w)) ∧ (¬ (lg_cmp x0 (7823736 : Int64)) = 0 → (((lg_cmp x0 (1685217655 : Int64)) = 0 → (pX11_isKept_72 post x0 w)) ∧ (¬ (lg_cmp x0 (1685217655 : Int64)) = 0 → (((lg_cmp x0 (1835102827 : Int64)) = 0 → (pX11_isKept_72 post x0 w)) ∧ (¬ (lg_cmp x0 (1835102827 : Int64)) = 0 → ((¬ (lg_cmp x0 (6840691 : Int64)) = 0 → (pX11_isKept_77 post x0 (0 : Int32) w)) ∧ ((lg_cmp x0 (6840691 : Int64)) = 0 → (pX11_isKept_72 post x0 w))))))))))))))))))
set_option maxHeartbeats 4000000 in
set_option maxRecDepth 100000 in
theorem bX11_isKept_77 {p : Program} {l : Launch} {e : Env} {s : State} {m : MethodId} {args : Array Value} {below : List Frame} {meth : Method} {c : Code} {Q : State → Prop} {A : Nat → Prop} {g : Gw} {post : Int32 → Wd → Prop}  (hC : Cx p s m args c cX11_isKept RX11 3 g) (hR : RtZ tabM p l e (rk 1) s m args below meth c Q cX11_isKept A g post)  : ∀ (x0 : Int64) (t0 : Int32) (w : Wd) (H : Heap) (locs : List Loc) (ls : Array Slot), pX11_isKept_77 post x0 t0 w → St tabM A s.heap g w H locs → lv_has ls 3 [(0, .long x0)] → W p l e (rk 1) s m args below meth c H locs 0 0 Q (F0 m 77 ls [.int t0]) := by
  have hx := hC.1
  have hb := hC.2.1
  intro x0 t0 w H locs ls hp hS hl
  unfold pX11_isKept_77 at hp
  refine lv_istore_n (lv' := [(2, .int t0), (0, .long x0)]) hx hb dX11_isKept_77 rfl hl (by decide) rfl (fun ls hl => ?_)
  refine lv_iload_n hx hb dX11_isKept_78 rfl (lv_at hl 0 rfl) ?_
  refine lv_if_ne (tgt := 146) hx hb dX11_isKept_79 (by decide) (fun c_1 => ?_) (fun c_1 => ?_)
  · have hp := hp.1 c_1
    refine lv_iconst hx hb dX11_isKept_146 kI_1 ?_
    refine lv_goto (tgt := 151) hx hb dX11_isKept_147 (by decide) ?_
    exact hR _ _ _ _ _ _ dX11_isKept_151 (by decide) hp hS
  · have hp := hp.2 c_1
    refine lv_lload_n hx hb dX11_isKept_82 rfl (lv_at hl 1 rfl) ?_
    refine lv_ldc2 hx hb hC.2.2.2.1 (hC.2.2.2.2.1 _ m500) dX11_isKept_83 ?_
    refine W.lcmp hx hb dX11_isKept_86 ?_
    refine lv_if_eq (tgt := 146) hx hb dX11_isKept_87 (by decide) (fun c_2 => ?_) (fun c_2 => ?_)
    · have hp := hp.1 c_2
      refine lv_iconst hx hb dX11_isKept_146 kI_1 ?_
      refine lv_goto (tgt := 151) hx hb dX11_isKept_147 (by decide) ?_
      exact hR _ _ _ _ _ _ dX11_isKept_151 (by decide) hp hS
    · have hp := hp.2 c_2
      refine lv_lload_n hx hb dX11_isKept_90 rfl (lv_at hl 1 rfl) ?_
      refine lv_ldc2 hx hb hC.2.2.2.1 (hC.2.2.2.2.1 _ m501) dX11_isKept_91 ?_
      refine W.lcmp hx hb dX11_isKept_94 ?_
      refine lv_if_eq (tgt := 146) hx hb dX11_isKept_95 (by decide) (fun c_3 => ?_) (fun c_3 => ?_)
      · have hp := hp.1 c_3
        refine lv_iconst hx hb dX11_isKept_146 kI_1 ?_
        refine lv_goto (tgt := 151) hx hb dX11_isKept_147 (by decide) ?_
        exact hR _ _ _ _ _ _ dX11_isKept_151 (by decide) hp hS
      · have hp := hp.2 c_3
        refine lv_lload_n hx hb dX11_isKept_98 rfl (lv_at hl 1 rfl) ?_
        refine lv_ldc2 hx hb hC.2.2.2.1 (hC.2.2.2.2.1 _ m502) dX11_isKept_99 ?_
        refine W.lcmp hx hb dX11_isKept_102 ?_
        refine lv_if_eq (tgt := 146) hx hb dX11_isKept_103 (by decide) (fun c_4 => ?_) (fun c_4 => ?_)
        · have hp := hp.1 c_4
          refine lv_iconst hx hb dX11_isKept_146 kI_1 ?_
          refine lv_goto (tgt := 151) hx hb dX11_isKept_147 (by decide) ?_
          exact hR _ _ _ _ _ _ dX11_isKept_151 (by decide) hp hS
        · have hp := hp.2 c_4
          refine lv_lload_n hx hb dX11_isKept_106 rfl (lv_at hl 1 rfl) ?_
          refine lv_ldc2 hx hb hC.2.2.2.1 (hC.2.2.2.2.1 _ m503) dX11_isKept_107 ?_
          refine W.lcmp hx hb dX11_isKept_110 ?_
          refine lv_if_eq (tgt := 146) hx hb dX11_isKept_111 (by decide) (fun c_5 => ?_) (fun c_5 => ?_)
          · have hp := hp.1 c_5
            refine lv_iconst hx hb dX11_isKept_146 kI_1 ?_
            refine lv_goto (tgt := 151) hx hb dX11_isKept_147 (by decide) ?_
            exact hR _ _ _ _ _ _ dX11_isKept_151 (by decide) hp hS
          · have hp := hp.2 c_5
            refine lv_lload_n hx hb dX11_isKept_114 rfl (lv_at hl 1 rfl) ?_
            refine lv_ldc2 hx hb hC.2.2.2.1 (hC.2.2.2.2.1 _ m504) dX11_isKept_115 ?_
            refine W.lcmp hx hb dX11_isKept_118 ?_
            refine lv_if_eq (tgt := 146) hx hb dX11_isKept_119 (by decide) (fun c_6 => ?_) (fun c_6 => ?_)
            · have hp := hp.1 c_6
              refine lv_iconst hx hb dX11_isKept_146 kI_1 ?_
              refine lv_goto (tgt := 151) hx hb dX11_isKept_147 (by decide) ?_
              exact hR _ _ _ _ _ _ dX11_isKept_151 (by decide) hp hS
            · have hp := hp.2 c_6
              refine lv_lload_n hx hb dX11_isKept_122 rfl (lv_at hl 1 rfl) ?_
              refine lv_ldc2 hx hb hC.2.2.2.1 (hC.2.2.2.2.1 _ m505) dX11_isKept_123 ?_
              refine W.lcmp hx hb dX11_isKept_126 ?_
              refine lv_if_eq (tgt := 146) hx hb dX11_isKept_127 (by decide) (fun c_7 => ?_) (fun c_7 => ?_)
              · have hp := hp.1 c_7
                refine lv_iconst hx hb dX11_isKept_146 kI_1 ?_
                refine lv_goto (tgt := 151) hx hb dX11_isKept_147 (by decide) ?_
                exact hR _ _ _ _ _ _ dX11_isKept_151 (by decide) hp hS
              · have hp := hp.2 c_7
                refine lv_lload_n hx hb dX11_isKept_130 rfl (lv_at hl 1 rfl) ?_
                refine lv_ldc2 hx hb hC.2.2.2.1 (hC.2.2.2.2.1 _ m506) dX11_isKept_131 ?_
                refine W.lcmp hx hb dX11_isKept_134 ?_
                refine lv_if_eq (tgt := 146) hx hb dX11_isKept_135 (by decide) (fun c_8 => ?_) (fun c_8 => ?_)
                · have hp := hp.1 c_8
                  refine lv_iconst hx hb dX11_isKept_146 kI_1 ?_
                  refine lv_goto (tgt := 151) hx hb dX11_isKept_147 (by decide) ?_
                  exact hR _ _ _ _ _ _ dX11_isKept_151 (by decide) hp hS
                · have hp := hp.2 c_8
                  refine lv_lload_n hx hb dX11_isKept_138 rfl (lv_at hl 1 rfl) ?_
                  refine lv_ldc2 hx hb hC.2.2.2.1 (hC.2.2.2.2.1 _ m507) dX11_isKept_139 ?_
                  refine W.lcmp hx hb dX11_isKept_142 ?_
                  refine lv_if_ne (tgt := 150) hx hb dX11_isKept_143 (by decide) (fun c_9 => ?_) (fun c_9 => ?_)
                  · have hp := hp.1 c_9
                    refine lv_iconst hx hb dX11_isKept_150 kI_0 ?_
                    exact hR _ _ _ _ _ _ dX11_isKept_151 (by decide) hp hS
                  · have hp := hp.2 c_9
                    refine lv_iconst hx hb dX11_isKept_146 kI_1 ?_
                    refine lv_goto (tgt := 151) hx hb dX11_isKept_147 (by decide) ?_
                    exact hR _ _ _ _ _ _ dX11_isKept_151 (by decide) hp hS
set_option maxHeartbeats 4000000 in
set_option maxRecDepth 100000 in
theorem bX11_isKept_72 {p : Program} {l : Launch} {e : Env} {s : State} {m : MethodId} {args : Array Value} {below : List Frame} {meth : Method} {c : Code} {Q : State → Prop} {A : Nat → Prop} {g : Gw} {post : Int32 → Wd → Prop}  (hC : Cx p s m args c cX11_isKept RX11 3 g) (hR : RtZ tabM p l e (rk 1) s m args below meth c Q cX11_isKept A g post)  : ∀ (x0 : Int64) (w : Wd) (H : Heap) (locs : List Loc) (ls : Array Slot), pX11_isKept_72 post x0 w → St tabM A s.heap g w H locs → lv_has ls 3 [(0, .long x0)] → W p l e (rk 1) s m args below meth c H locs 0 0 Q (F0 m 72 ls []) := by
  have hx := hC.1
  have hb := hC.2.1
  intro x0 w H locs ls hp hS hl
  unfold pX11_isKept_72 at hp
  refine lv_iconst hx hb dX11_isKept_72 kI_1 ?_
  refine lv_goto (tgt := 77) hx hb dX11_isKept_73 (by decide) ?_
  exact bX11_isKept_77 hC hR x0 (1 : Int32) w _ _ _ hp hS (lv_sub hl [0] rfl)
set_option maxHeartbeats 4000000 in
set_option maxRecDepth 100000 in
theorem rX11_isKept {l : Launch} {g : Gw} {w : Wd} {post : Int32 → Wd → Prop}   {x0 : Int64} (hp : pX11_isKept post x0 w) : MtI tabM l yX11_isKept cX11_isKept 3 (some .boolean) 1 g w [.long x0] post := by
  refine q_entZ tabM_nd (by decide) rfl (Nat.le_of_ble_eq_true rfl) ?_
  intro p e s m args below meth c A Q ls hC hR hS hl
  have hx := hC.1
  have hb := hC.2.1
  have hl : lv_has ls 3 [(0, .long x0)] := hl
  unfold pX11_isKept at hp
  refine lv_lload_n hx hb dX11_isKept_0 rfl (lv_at hl 0 rfl) ?_
  refine lv_ldc2 hx hb hC.2.2.2.1 (hC.2.2.2.2.1 _ m491) dX11_isKept_1 ?_
  refine W.lcmp hx hb dX11_isKept_4 ?_
  refine lv_if_eq (tgt := 72) hx hb dX11_isKept_5 (by decide) (fun c_1 => ?_) (fun c_1 => ?_)
  · have hp := hp.1 c_1
    exact bX11_isKept_72 hC hR x0 w _ _ _ hp hS (lv_sub hl [0] rfl)
  · have hp := hp.2 c_1
    refine lv_lload_n hx hb dX11_isKept_8 rfl (lv_at hl 0 rfl) ?_
    refine lv_ldc2 hx hb hC.2.2.2.1 (hC.2.2.2.2.1 _ m492) dX11_isKept_9 ?_
    refine W.lcmp hx hb dX11_isKept_12 ?_
    refine lv_if_eq (tgt := 72) hx hb dX11_isKept_13 (by decide) (fun c_2 => ?_) (fun c_2 => ?_)
    · have hp := hp.1 c_2
      exact bX11_isKept_72 hC hR x0 w _ _ _ hp hS (lv_sub hl [0] rfl)
    · have hp := hp.2 c_2
      refine lv_lload_n hx hb dX11_isKept_16 rfl (lv_at hl 0 rfl) ?_
      refine lv_ldc2 hx hb hC.2.2.2.1 (hC.2.2.2.2.1 _ m493) dX11_isKept_17 ?_
      refine W.lcmp hx hb dX11_isKept_20 ?_
      refine lv_if_eq (tgt := 72) hx hb dX11_isKept_21 (by decide) (fun c_3 => ?_) (fun c_3 => ?_)
      · have hp := hp.1 c_3
        exact bX11_isKept_72 hC hR x0 w _ _ _ hp hS (lv_sub hl [0] rfl)
      · have hp := hp.2 c_3
        refine lv_lload_n hx hb dX11_isKept_24 rfl (lv_at hl 0 rfl) ?_
        refine lv_ldc2 hx hb hC.2.2.2.1 (hC.2.2.2.2.1 _ m494) dX11_isKept_25 ?_
        refine W.lcmp hx hb dX11_isKept_28 ?_
        refine lv_if_eq (tgt := 72) hx hb dX11_isKept_29 (by decide) (fun c_4 => ?_) (fun c_4 => ?_)
        · have hp := hp.1 c_4
          exact bX11_isKept_72 hC hR x0 w _ _ _ hp hS (lv_sub hl [0] rfl)
        · have hp := hp.2 c_4
          refine lv_lload_n hx hb dX11_isKept_32 rfl (lv_at hl 0 rfl) ?_
          refine lv_ldc2 hx hb hC.2.2.2.1 (hC.2.2.2.2.1 _ m495) dX11_isKept_33 ?_
          refine W.lcmp hx hb dX11_isKept_36 ?_
          refine lv_if_eq (tgt := 72) hx hb dX11_isKept_37 (by decide) (fun c_5 => ?_) (fun c_5 => ?_)
          · have hp := hp.1 c_5
            exact bX11_isKept_72 hC hR x0 w _ _ _ hp hS (lv_sub hl [0] rfl)
          · have hp := hp.2 c_5
            refine lv_lload_n hx hb dX11_isKept_40 rfl (lv_at hl 0 rfl) ?_
            refine lv_ldc2 hx hb hC.2.2.2.1 (hC.2.2.2.2.1 _ m496) dX11_isKept_41 ?_
            refine W.lcmp hx hb dX11_isKept_44 ?_
            refine lv_if_eq (tgt := 72) hx hb dX11_isKept_45 (by decide) (fun c_6 => ?_) (fun c_6 => ?_)
            · have hp := hp.1 c_6
              exact bX11_isKept_72 hC hR x0 w _ _ _ hp hS (lv_sub hl [0] rfl)
            · have hp := hp.2 c_6
              refine lv_lload_n hx hb dX11_isKept_48 rfl (lv_at hl 0 rfl) ?_
              refine lv_ldc2 hx hb hC.2.2.2.1 (hC.2.2.2.2.1 _ m497) dX11_isKept_49 ?_
              refine W.lcmp hx hb dX11_isKept_52 ?_
              refine lv_if_eq (tgt := 72) hx hb dX11_isKept_53 (by decide) (fun c_7 => ?_) (fun c_7 => ?_)
              · have hp := hp.1 c_7
                exact bX11_isKept_72 hC hR x0 w _ _ _ hp hS (lv_sub hl [0] rfl)
              · have hp := hp.2 c_7
                refine lv_lload_n hx hb dX11_isKept_56 rfl (lv_at hl 0 rfl) ?_
                refine lv_ldc2 hx hb hC.2.2.2.1 (hC.2.2.2.2.1 _ m498) dX11_isKept_57 ?_
                refine W.lcmp hx hb dX11_isKept_60 ?_
                refine lv_if_eq (tgt := 72) hx hb dX11_isKept_61 (by decide) (fun c_8 => ?_) (fun c_8 => ?_)
                · have hp := hp.1 c_8
                  exact bX11_isKept_72 hC hR x0 w _ _ _ hp hS (lv_sub hl [0] rfl)
                · have hp := hp.2 c_8
                  refine lv_lload_n hx hb dX11_isKept_64 rfl (lv_at hl 0 rfl) ?_
                  refine lv_ldc2 hx hb hC.2.2.2.1 (hC.2.2.2.2.1 _ m499) dX11_isKept_65 ?_
                  refine W.lcmp hx hb dX11_isKept_68 ?_
                  refine lv_if_ne (tgt := 76) hx hb dX11_isKept_69 (by decide) (fun c_9 => ?_) (fun c_9 => ?_)
                  · have hp := hp.1 c_9
                    refine lv_iconst hx hb dX11_isKept_76 kI_0 ?_
                    exact bX11_isKept_77 hC hR x0 (0 : Int32) w _ _ _ hp hS (lv_sub hl [0] rfl)
                  · have hp := hp.2 c_9
                    exact bX11_isKept_72 hC hR x0 w _ _ _ hp hS (lv_sub hl [0] rfl)
def pX11_isLetter (post : Int32 → Wd → Prop) (x0 : Int32) (w : Wd) : Prop := (x0 < (97 : Int32) → (post (0 : Int32) w)) ∧ (¬ x0 < (97 : Int32) → (((122 : Int32) < x0 → (post (0 : Int32) w)) ∧ (¬ (122 : Int32) < x0 → (post (1 : Int32) w))))
set_option maxHeartbeats 4000000 in
set_option maxRecDepth 100000 in
theorem rX11_isLetter {l : Launch} {g : Gw} {w : Wd} {post : Int32 → Wd → Prop}   {x0 : Int32} (hp : pX11_isLetter post x0 w) : MtI tabM l yX11_isLetter cX11_isLetter 1 (some .boolean) 1 g w [.int x0] post := by
  refine q_entZ tabM_nd (by decide) rfl (Nat.le_of_ble_eq_true rfl) ?_
  intro p e s m args below meth c A Q ls hC hR hS hl
  have hx := hC.1
  have hb := hC.2.1
  have hl : lv_has ls 1 [(0, .int x0)] := hl
  unfold pX11_isLetter at hp
  refine lv_iload_n hx hb dX11_isLetter_0 rfl (lv_at hl 0 rfl) ?_
  refine lv_bipush hx hb dX11_isLetter_1 kB_97 ?_
  refine lv_icmp_lt (tgt := 16) hx hb dX11_isLetter_3 (by decide) (fun c_1 => ?_) (fun c_1 => ?_)
  · have hp := hp.1 c_1
    refine lv_iconst hx hb dX11_isLetter_16 kI_0 ?_
    exact hR _ _ _ _ _ _ dX11_isLetter_17 (by decide) hp hS
  · have hp := hp.2 c_1
    refine lv_iload_n hx hb dX11_isLetter_6 rfl (lv_at hl 0 rfl) ?_
    refine lv_bipush hx hb dX11_isLetter_7 kB_122 ?_
    refine lv_icmp_gt (tgt := 16) hx hb dX11_isLetter_9 (by decide) (fun c_2 => ?_) (fun c_2 => ?_)
    · have hp := hp.1 c_2
      refine lv_iconst hx hb dX11_isLetter_16 kI_0 ?_
      exact hR _ _ _ _ _ _ dX11_isLetter_17 (by decide) hp hS
    · have hp := hp.2 c_2
      refine lv_iconst hx hb dX11_isLetter_12 kI_1 ?_
      refine lv_goto (tgt := 17) hx hb dX11_isLetter_13 (by decide) ?_
      exact hR _ _ _ _ _ _ dX11_isLetter_17 (by decide) hp hS
def pX11_isSign (post : Int32 → Wd → Prop) (x0 : Int32) (w : Wd) : Prop := (x0 = (59 : Int32) → (post (1 : Int32) w)) ∧ (¬ x0 = (59 : Int32) → ((x0 = (40 : Int32) → (post (1 : Int32) w)) ∧ (¬ x0 = (40 : Int32) → ((x0 = (41 : Int32) → (post (1 : Int32) w)) ∧ (¬ x0 = (41 : Int32) → ((x0 = (60 : Int32) → (post (1 : Int32) w)) ∧ (¬ x0 = (60 : Int32) → ((x0 = (62 : Int32) → (post (1 : Int32) w)) ∧ (¬ x0 = (62 : Int32) → ((x0 = (61 : Int32) → (post (1 : Int32) w)) ∧ (¬ x0 = (61 : Int32) → ((x0 = (43 : Int32) → (post (1 : Int32) w)) ∧ (¬ x0 = (43 : Int32) → ((x0 = (45 : Int32) → (post (1 : Int32) w)) ∧ (¬ x0 = (45 : Int32) → ((x0 = (42 : Int32) → (post (1 : Int32) w)) ∧ (¬ x0 = (42 : Int32) → ((x0 = (47 : Int32) → (post (1 : Int32) w)) ∧ (¬ x0 = (47 : Int32) → ((¬ x0 = (37 : Int32) → (post (0 : Int32) w)) ∧ (x0 = (37 : Int32) → (post (1 : Int32) w))))))))))))))))))))))
set_option maxHeartbeats 4000000 in
set_option maxRecDepth 100000 in
theorem rX11_isSign {l : Launch} {g : Gw} {w : Wd} {post : Int32 → Wd → Prop}   {x0 : Int32} (hp : pX11_isSign post x0 w) : MtI tabM l yX11_isSign cX11_isSign 1 (some .boolean) 1 g w [.int x0] post := by
  refine q_entZ tabM_nd (by decide) rfl (Nat.le_of_ble_eq_true rfl) ?_
  intro p e s m args below meth c A Q ls hC hR hS hl
  have hx := hC.1
  have hb := hC.2.1
  have hl : lv_has ls 1 [(0, .int x0)] := hl
  unfold pX11_isSign at hp
  refine lv_iload_n hx hb dX11_isSign_0 rfl (lv_at hl 0 rfl) ?_
  refine lv_bipush hx hb dX11_isSign_1 kB_59 ?_
  refine lv_icmp_eq (tgt := 66) hx hb dX11_isSign_3 (by decide) (fun c_1 => ?_) (fun c_1 => ?_)
  · have hp := hp.1 c_1
    refine lv_iconst hx hb dX11_isSign_66 kI_1 ?_
    refine lv_goto (tgt := 71) hx hb dX11_isSign_67 (by decide) ?_
    exact hR _ _ _ _ _ _ dX11_isSign_71 (by decide) hp hS
  · have hp := hp.2 c_1
    refine lv_iload_n hx hb dX11_isSign_6 rfl (lv_at hl 0 rfl) ?_
    refine lv_bipush hx hb dX11_isSign_7 kB_40 ?_
    refine lv_icmp_eq (tgt := 66) hx hb dX11_isSign_9 (by decide) (fun c_2 => ?_) (fun c_2 => ?_)
    · have hp := hp.1 c_2
      refine lv_iconst hx hb dX11_isSign_66 kI_1 ?_
      refine lv_goto (tgt := 71) hx hb dX11_isSign_67 (by decide) ?_
      exact hR _ _ _ _ _ _ dX11_isSign_71 (by decide) hp hS
    · have hp := hp.2 c_2
      refine lv_iload_n hx hb dX11_isSign_12 rfl (lv_at hl 0 rfl) ?_
      refine lv_bipush hx hb dX11_isSign_13 kB_41 ?_
      refine lv_icmp_eq (tgt := 66) hx hb dX11_isSign_15 (by decide) (fun c_3 => ?_) (fun c_3 => ?_)
      · have hp := hp.1 c_3
        refine lv_iconst hx hb dX11_isSign_66 kI_1 ?_
        refine lv_goto (tgt := 71) hx hb dX11_isSign_67 (by decide) ?_
        exact hR _ _ _ _ _ _ dX11_isSign_71 (by decide) hp hS
      · have hp := hp.2 c_3
        refine lv_iload_n hx hb dX11_isSign_18 rfl (lv_at hl 0 rfl) ?_
        refine lv_bipush hx hb dX11_isSign_19 kB_60 ?_
        refine lv_icmp_eq (tgt := 66) hx hb dX11_isSign_21 (by decide) (fun c_4 => ?_) (fun c_4 => ?_)
        · have hp := hp.1 c_4
          refine lv_iconst hx hb dX11_isSign_66 kI_1 ?_
          refine lv_goto (tgt := 71) hx hb dX11_isSign_67 (by decide) ?_
          exact hR _ _ _ _ _ _ dX11_isSign_71 (by decide) hp hS
        · have hp := hp.2 c_4
          refine lv_iload_n hx hb dX11_isSign_24 rfl (lv_at hl 0 rfl) ?_
          refine lv_bipush hx hb dX11_isSign_25 kB_62 ?_
          refine lv_icmp_eq (tgt := 66) hx hb dX11_isSign_27 (by decide) (fun c_5 => ?_) (fun c_5 => ?_)
          · have hp := hp.1 c_5
            refine lv_iconst hx hb dX11_isSign_66 kI_1 ?_
            refine lv_goto (tgt := 71) hx hb dX11_isSign_67 (by decide) ?_
            exact hR _ _ _ _ _ _ dX11_isSign_71 (by decide) hp hS
          · have hp := hp.2 c_5
            refine lv_iload_n hx hb dX11_isSign_30 rfl (lv_at hl 0 rfl) ?_
            refine lv_bipush hx hb dX11_isSign_31 kB_61 ?_
            refine lv_icmp_eq (tgt := 66) hx hb dX11_isSign_33 (by decide) (fun c_6 => ?_) (fun c_6 => ?_)
            · have hp := hp.1 c_6
              refine lv_iconst hx hb dX11_isSign_66 kI_1 ?_
              refine lv_goto (tgt := 71) hx hb dX11_isSign_67 (by decide) ?_
              exact hR _ _ _ _ _ _ dX11_isSign_71 (by decide) hp hS
            · have hp := hp.2 c_6
              refine lv_iload_n hx hb dX11_isSign_36 rfl (lv_at hl 0 rfl) ?_
              refine lv_bipush hx hb dX11_isSign_37 kB_43 ?_
              refine lv_icmp_eq (tgt := 66) hx hb dX11_isSign_39 (by decide) (fun c_7 => ?_) (fun c_7 => ?_)
              · have hp := hp.1 c_7
                refine lv_iconst hx hb dX11_isSign_66 kI_1 ?_
                refine lv_goto (tgt := 71) hx hb dX11_isSign_67 (by decide) ?_
                exact hR _ _ _ _ _ _ dX11_isSign_71 (by decide) hp hS
              · have hp := hp.2 c_7
                refine lv_iload_n hx hb dX11_isSign_42 rfl (lv_at hl 0 rfl) ?_
                refine lv_bipush hx hb dX11_isSign_43 kB_45 ?_
                refine lv_icmp_eq (tgt := 66) hx hb dX11_isSign_45 (by decide) (fun c_8 => ?_) (fun c_8 => ?_)
                · have hp := hp.1 c_8
                  refine lv_iconst hx hb dX11_isSign_66 kI_1 ?_
                  refine lv_goto (tgt := 71) hx hb dX11_isSign_67 (by decide) ?_
                  exact hR _ _ _ _ _ _ dX11_isSign_71 (by decide) hp hS
                · have hp := hp.2 c_8
                  refine lv_iload_n hx hb dX11_isSign_48 rfl (lv_at hl 0 rfl) ?_
                  refine lv_bipush hx hb dX11_isSign_49 kB_42 ?_
                  refine lv_icmp_eq (tgt := 66) hx hb dX11_isSign_51 (by decide) (fun c_9 => ?_) (fun c_9 => ?_)
                  · have hp := hp.1 c_9
                    refine lv_iconst hx hb dX11_isSign_66 kI_1 ?_
                    refine lv_goto (tgt := 71) hx hb dX11_isSign_67 (by decide) ?_
                    exact hR _ _ _ _ _ _ dX11_isSign_71 (by decide) hp hS
                  · have hp := hp.2 c_9
                    refine lv_iload_n hx hb dX11_isSign_54 rfl (lv_at hl 0 rfl) ?_
                    refine lv_bipush hx hb dX11_isSign_55 kB_47 ?_
                    refine lv_icmp_eq (tgt := 66) hx hb dX11_isSign_57 (by decide) (fun c_10 => ?_) (fun c_10 => ?_)
                    · have hp := hp.1 c_10
                      refine lv_iconst hx hb dX11_isSign_66 kI_1 ?_
                      refine lv_goto (tgt := 71) hx hb dX11_isSign_67 (by decide) ?_
                      exact hR _ _ _ _ _ _ dX11_isSign_71 (by decide) hp hS
                    · have hp := hp.2 c_10
                      refine lv_iload_n hx hb dX11_isSign_60 rfl (lv_at hl 0 rfl) ?_
                      refine lv_bipush hx hb dX11_isSign_61 kB_37 ?_
                      refine lv_icmp_ne (tgt := 70) hx hb dX11_isSign_63 (by decide) (fun c_11 => ?_) (fun c_11 => ?_)
                      · have hp := hp.1 c_11
                        refine lv_iconst hx hb dX11_isSign_70 kI_0 ?_
                        exact hR _ _ _ _ _ _ dX11_isSign_71 (by decide) hp hS
                      · have hp := hp.2 c_11
                        refine lv_iconst hx hb dX11_isSign_66 kI_1 ?_
                        refine lv_goto (tgt := 71) hx hb dX11_isSign_67 (by decide) ?_
                        exact hR _ _ _ _ _ _ dX11_isSign_71 (by decide) hp hS
def pX11_sign (post : Int32 → Wd → Prop) (x1 : Int32) (w : Wd) : Prop := ((w.1 300 3) ≤ x1 → (post (0 : Int32) w)) ∧ (¬ (w.1 300 3) ≤ x1 → (vp_in x1 1600 ∧ post ((w.2.1 302 x1.toNatClampNeg) &&& (255 : Int32)) w))
set_option maxHeartbeats 4000000 in
set_option maxRecDepth 100000 in
theorem rX11_sign {l : Launch} {g : Gw} {w : Wd} {post : Int32 → Wd → Prop}   {x1 : Int32} (hp : pX11_sign post x1 w) : MtI tabM l yX11_sign cX11_sign 2 (some .int) 1 g w [.ref (g.2.2 300), .int x1] post := by
  refine q_entI tabM_nd (by decide) rfl (Nat.le_of_ble_eq_true rfl) ?_
  intro p e s m args below meth c A Q ls hC hR hS hl
  have hx := hC.1
  have hb := hC.2.1
  have hl : lv_has ls 2 [(0, .ref (g.2.2 300)), (1, .int x1)] := hl
  unfold pX11_sign at hp
  refine lv_iload_n hx hb dX11_sign_0 rfl (lv_at hl 1 rfl) ?_
  refine lv_aload_n hx hb dX11_sign_1 rfl (lv_at hl 0 rfl) ?_
  refine G_300_3 hC hS m471 dX11_sign_2 ?_
  refine lv_icmp_ge (tgt := 21) hx hb dX11_sign_5 (by decide) (fun c_1 => ?_) (fun c_1 => ?_)
  · have hp := hp.1 c_1
    refine lv_iconst hx hb dX11_sign_21 kI_0 ?_
    exact hR _ _ _ _ _ _ dX11_sign_22 hp hS
  · have hp := hp.2 c_1
    refine lv_aload_n hx hb dX11_sign_8 rfl (lv_at hl 0 rfl) ?_
    refine G_300_1 hC hS m254 dX11_sign_9 ?_
    refine lv_iload_n hx hb dX11_sign_12 rfl (lv_at hl 1 rfl) ?_
    refine La_302 hC hS hp.1 dX11_sign_13 ?_
    have hp := hp.2
    refine lv_sipush hx hb dX11_sign_14 kS_255 ?_
    refine lv_iand hx hb dX11_sign_17 ?_
    refine lv_goto (tgt := 22) hx hb dX11_sign_18 (by decide) ?_
    exact hR _ _ _ _ _ _ dX11_sign_22 hp hS
def pX11_goOn_309 (k259 : Wd → Prop) (post : Wd → Prop)  (w : Wd) : Prop := ∀ w_1, w_1 = sI w 300 7 ((w.1 300 7) + (1 : Int32)) → k259  w_1
def pX11_goOn_259 (post : Wd → Prop) : Nat → Wd → Prop
  | 0, _ => False
  | n + 1, w => pX11_sign (fun r_1 w_2 => pX11_isDigit (fun r_3 w_4 => (r_3 = 0 → (((4 : Int32) < ((w_4.1 300 7) - (w_4.1 300 6)) → (∀ w_7, w_7 = sI w_4 300 8 (1 : Int32) → post w_7)) ∧ (¬ (4 : Int32) < ((w_4.1 300 7) - (w_4.1 300 6)) → (pX11_sign (fun r_8 w_9 => pX11_isLetter (fun r_10 w_11 => (r_10 = 0 → (∀ w_13, w_13 = sI w_11 300 8 (4 : Int32) → post w_13)) ∧ (¬ r_10 = 0 → (∀ w_14, w_14 = sI w_11 300 8 (1 : Int32) → post w_14))) r_8 w_9) (w_4.1 300 7) w_4)))) ∧ (¬ r_3 = 0 → (((4 : Int32) ≤ ((w_4.1 300 7) - (w_4.1 300 6)) → (pX11_goOn_309 (pX11_goOn_259 post n) post  w_4)) ∧ (¬ (4 : Int32) ≤ ((w_4.1 300 7) - (w_4.1 300 6)) → (pX11_sign (fun r_16 w_17 => ∀ w_18, w_18 = sI w_17 300 9 ((((10 : Int32) * (w_4.1 300 9)) + r_16) - (48 : Int32)) → pX11_goOn_309 (pX11_goOn_259 post n) post  w_18) (w_4.1 300 7) w_4))))) r_1 w_2) (w.1 300 7) w
def pX11_goOn_199 (post : Wd → Prop)  (w : Wd) : Prop := (((w.1 300 7) - (w.1 300 6)) ≤ (8 : Int32) → (pX11_isKept (fun r_2 w_3 => (r_2 = 0 → (∀ w_5, w_5 = sI w_3 300 8 (2 : Int32) → post w_5)) ∧ (¬ r_2 = 0 → (∀ w_6, w_6 = sI w_3 300 8 (3 : Int32) → post w_6))) (w.2.2.1 300 10) w)) ∧ (¬ ((w.1 300 7) - (w.1 300 6)) ≤ (8 : Int32) → (∀ w_7, w_7 = sI w 300 8 (1 : Int32) → post w_7))
def pX11_goOn_156 (post : Wd → Prop) : Nat → Int32 → Wd → Prop
  | 0, _, _ => False
  | n + 1, x2, w => ((w.1 300 7) ≤ x2 → (pX11_goOn_199 post  w)) ∧ (¬ (w.1 300 7) ≤ x2 → ((((w.1 300 6) + (8 : Int32)) ≤ x2 → (pX11_goOn_199 post  w)) ∧ (¬ ((w.1 300 6) + (8 : Int32)) ≤ x2 → (pX11_sign (fun r_3 w_4 => ∀ w_5, w_5 = sJ w_4 300 10 (((w.2.2.1 300 10) <<< ((8 : Int32).toInt64 &&& 63)) ||| (r_3).toInt64) → ∀ x2_6, x2_6 = x2 + (1 : Int32) → pX11_goOn_156 post n x2_6 w_5) x2 w))))
def pX11_goOn_119 (post : Wd → Prop) : Nat → Wd → Prop
  | 0, _ => False
  | n + 1, w => pX11_sign (fun r_1 w_2 => pX11_isLetter (fun r_3 w_4 => (r_3 = 0 → (∀ w_6, w_6 = sJ w_4 300 10 (0 : Int64) → ∀ x2_7, x2_7 = (w_6.1 300 6) → ∃ n9, pX11_goOn_156 post n9 x2_7 w_6)) ∧ (¬ r_3 = 0 → (∀ w_8, w_8 = sI w_4 300 7 ((w_4.1 300 7) + (1 : Int32)) → pX11_goOn_119 post n  w_8))) r_1 w_2) (w.1 300 7) w
def pX11_goOn_58 (post : Wd → Prop)  (w : Wd) : Prop := pX11_sign (fun r_1 w_2 => ∀ w_3, w_3 = sI w_2 300 7 ((w_2.1 300 6) + (1 : Int32)) → ((w_3.1 300 6) < (w_3.1 300 3) → (pX11_isLetter (fun r_5 w_6 => (r_5 = 0 → (pX11_isDigit (fun r_8 w_9 => (r_8 = 0 → (pX11_isSign (fun r_11 w_12 => (r_11 = 0 → (∀ w_14, w_14 = sI w_12 300 8 (1 : Int32) → post w_14)) ∧ (¬ r_11 = 0 → (∀ w_15, w_15 = sI w_12 300 8 (5 : Int32) → post w_15))) r_1 w_9)) ∧ (¬ r_8 = 0 → (∀ w_16, w_16 = sI w_9 300 9 (0 : Int32) → ∀ w_17, w_17 = sI w_16 300 7 (w_16.1 300 6) → ∃ n9, pX11_goOn_259 post n9  w_17))) r_1 w_6)) ∧ (¬ r_5 = 0 → (∃ n9, pX11_goOn_119 post n9  w_6))) r_1 w_3)) ∧ (¬ (w_3.1 300 6) < (w_3.1 300 3) → (∀ w_18, w_18 = sI w_3 300 8 (0 : Int32) → ∀ w_19, w_19 = sI w_18 300 6 (w_18.1 300 3) → ∀ w_20, w_20 = sI w_19 300 7 (w_19.1 300 3) → post w_20))) (w.1 300 6) w
def pX11_goOn_45 (k8 : Wd → Prop) (post : Wd → Prop)  (w : Wd) : Prop := ∀ w_1, w_1 = sI w 300 6 ((w.1 300 6) + (1 : Int32)) → k8  w_1
def pX11_goOn_8 (post : Wd → Prop) : Nat → Wd → Prop
  | 0, _ => False
  | n + 1, w => ((w.1 300 3) ≤ (w.1 300 6) → (pX11_goOn_58 post  w)) ∧ (¬ (w.1 300 3) ≤ (w.1 300 6) → (pX11_sign (fun r_2 w_3 => (r_2 = (32 : Int32) → (pX11_goOn_45 (pX11_goOn_8 post n) post  w_3)) ∧ (¬ r_2 = (32 : Int32) → (pX11_sign (fun r_5 w_6 => (¬ r_5 = (10 : Int32) → (pX11_goOn_58 post  w_6)) ∧ (r_5 = (10 : Int32) → (pX11_goOn_45 (pX11_goOn_8 post n) post  w_6))) (w_3.1 300 6) w_3))) (w.1 300 6) w))
def pX11_goOn (post : Wd → Prop)  (w : Wd) : Prop := ∀ w_1, w_1 = sI w 300 6 (w.1 300 7) → ∃ n9, pX11_goOn_8 post n9  w_1
set_option maxHeartbeats 4000000 in
set_option maxRecDepth 100000 in
theorem bX11_goOn_309 {p : Program} {l : Launch} {e : Env} {s : State} {m : MethodId} {args : Array Value} {below : List Frame} {meth : Method} {c : Code} {Q : State → Prop} {A : Nat → Prop} {g : Gw} {post : Wd → Prop}  (hC : Cx p s m args c cX11_goOn RX11 3 g) (hR : RtV tabM p l e (rk 2) s m args below meth c Q cX11_goOn A g post)  {k259 : Wd → Prop} (hk259 : ∀  (w : Wd) (H : Heap) (locs : List Loc) (ls : Array Slot), k259  w → St tabM A s.heap g w H locs → lv_has ls 3 [(0, .ref (g.2.2 300))] → W p l e (rk 2) s m args below meth c H locs 0 0 Q (F0 m 259 ls [])) : ∀  (w : Wd) (H : Heap) (locs : List Loc) (ls : Array Slot), pX11_goOn_309 k259 post  w → St tabM A s.heap g w H locs → lv_has ls 3 [(0, .ref (g.2.2 300))] → W p l e (rk 2) s m args below meth c H locs 0 0 Q (F0 m 309 ls []) := by
  have hx := hC.1
  have hb := hC.2.1
  intro  w H locs ls hp hS hl
  unfold pX11_goOn_309 at hp
  refine lv_aload_n hx hb dX11_goOn_309 rfl (lv_at hl 0 rfl) ?_
  refine lv_dup hx hb dX11_goOn_310 rfl ?_
  refine G_300_7 hC hS m472 dX11_goOn_311 ?_
  refine lv_iconst hx hb dX11_goOn_314 kI_1 ?_
  refine lv_iadd hx hb dX11_goOn_315 ?_
  refine P_300_7 hC hS m472 dX11_goOn_316 (fun w_1 H locs ew_1 hS => ?_)
  have hp := hp w_1 ew_1
  refine lv_goto (tgt := 259) hx hb dX11_goOn_319 (by decide) ?_
  exact hk259  w_1 _ _ _ hp hS (lv_sub hl [0] rfl)
set_option maxHeartbeats 4000000 in
set_option maxRecDepth 100000 in
theorem bX11_goOn_259 {p : Program} {l : Launch} {e : Env} {s : State} {m : MethodId} {args : Array Value} {below : List Frame} {meth : Method} {c : Code} {Q : State → Prop} {A : Nat → Prop} {g : Gw} {post : Wd → Prop}  (hC : Cx p s m args c cX11_goOn RX11 3 g) (hR : RtV tabM p l e (rk 2) s m args below meth c Q cX11_goOn A g post)  : ∀ (n : Nat)  (w : Wd) (H : Heap) (locs : List Loc) (ls : Array Slot), pX11_goOn_259 post n  w → St tabM A s.heap g w H locs → lv_has ls 3 [(0, .ref (g.2.2 300))] → W p l e (rk 2) s m args below meth c H locs 0 0 Q (F0 m 259 ls []) := by
  have hx := hC.1
  have hb := hC.2.1
  intro n
  induction n with
  | zero =>
    intro  w H locs ls hp hS hl
    exact False.elim hp
  | succ n ih =>
    intro  w H locs ls hp hS hl
    unfold pX11_goOn_259 at hp
    refine lv_aload_n hx hb dX11_goOn_259 rfl (lv_at hl 0 rfl) ?_
    refine lv_aload_n hx hb dX11_goOn_260 rfl (lv_at hl 0 rfl) ?_
    refine G_300_7 hC hS m472 dX11_goOn_261 ?_
    refine q_cvI (As := [.int (w.1 300 7)]) (rest := []) hC hS hl.1 (rX11_sign hp) cwX11_199 yvX11_sign (rcv_300 hC hS) rfl rfl (Nat.le_of_ble_eq_true rfl) (rmk (by decide) (by decide)) dX11_goOn_264 (fun r_1 w_2 H locs hp hS => ?_)
    refine q_csI (As := [.int r_1]) (rest := []) hC hS hl.1 (rX11_isDigit hp) cwX11_218 ysX11_isDigit rfl rfl (Nat.le_of_ble_eq_true rfl) (rmk (by decide) (by decide)) dX11_goOn_267 (fun r_3 w_4 H locs hp hS => ?_)
    refine lv_if_eq (tgt := 322) hx hb dX11_goOn_270 (by decide) (fun c_5 => ?_) (fun c_5 => ?_)
    · have hp := hp.1 c_5
      refine lv_aload_n hx hb dX11_goOn_322 rfl (lv_at hl 0 rfl) ?_
      refine lv_aload_n hx hb dX11_goOn_323 rfl (lv_at hl 0 rfl) ?_
      refine G_300_7 hC hS m472 dX11_goOn_324 ?_
      refine lv_aload_n hx hb dX11_goOn_327 rfl (lv_at hl 0 rfl) ?_
      refine G_300_6 hC hS m478 dX11_goOn_328 ?_
      refine lv_isub hx hb dX11_goOn_331 ?_
      refine lv_iconst hx hb dX11_goOn_332 kI_4 ?_
      refine lv_icmp_gt (tgt := 350) hx hb dX11_goOn_333 (by decide) (fun c_6 => ?_) (fun c_6 => ?_)
      · have hp := hp.1 c_6
        refine lv_iconst hx hb dX11_goOn_350 kI_1 ?_
        refine lv_goto (tgt := 355) hx hb dX11_goOn_351 (by decide) ?_
        refine P_300_8 hC hS m473 dX11_goOn_355 (fun w_7 H locs ew_7 hS => ?_)
        have hp := hp w_7 ew_7
        refine lv_goto (tgt := 377) hx hb dX11_goOn_358 (by decide) ?_
        exact hR _ _ _ _ _ dX11_goOn_377 hp hS
      · have hp := hp.2 c_6
        refine lv_aload_n hx hb dX11_goOn_336 rfl (lv_at hl 0 rfl) ?_
        refine lv_aload_n hx hb dX11_goOn_337 rfl (lv_at hl 0 rfl) ?_
        refine G_300_7 hC hS m472 dX11_goOn_338 ?_
        refine q_cvI (As := [.int (w_4.1 300 7)]) (rest := [.ref (g.2.2 300)]) hC hS hl.1 (rX11_sign hp) cwX11_199 yvX11_sign (rcv_300 hC hS) rfl rfl (Nat.le_of_ble_eq_true rfl) (rmk (by decide) (by decide)) dX11_goOn_341 (fun r_8 w_9 H locs hp hS => ?_)
        refine q_csI (As := [.int r_8]) (rest := [.ref (g.2.2 300)]) hC hS hl.1 (rX11_isLetter hp) cwX11_206 ysX11_isLetter rfl rfl (Nat.le_of_ble_eq_true rfl) (rmk (by decide) (by decide)) dX11_goOn_344 (fun r_10 w_11 H locs hp hS => ?_)
        refine lv_if_eq (tgt := 354) hx hb dX11_goOn_347 (by decide) (fun c_12 => ?_) (fun c_12 => ?_)
        · have hp := hp.1 c_12
          refine lv_iconst hx hb dX11_goOn_354 kI_4 ?_
          refine P_300_8 hC hS m473 dX11_goOn_355 (fun w_13 H locs ew_13 hS => ?_)
          have hp := hp w_13 ew_13
          refine lv_goto (tgt := 377) hx hb dX11_goOn_358 (by decide) ?_
          exact hR _ _ _ _ _ dX11_goOn_377 hp hS
        · have hp := hp.2 c_12
          refine lv_iconst hx hb dX11_goOn_350 kI_1 ?_
          refine lv_goto (tgt := 355) hx hb dX11_goOn_351 (by decide) ?_
          refine P_300_8 hC hS m473 dX11_goOn_355 (fun w_14 H locs ew_14 hS => ?_)
          have hp := hp w_14 ew_14
          refine lv_goto (tgt := 377) hx hb dX11_goOn_358 (by decide) ?_
          exact hR _ _ _ _ _ dX11_goOn_377 hp hS
    · have hp := hp.2 c_5
      refine lv_aload_n hx hb dX11_goOn_273 rfl (lv_at hl 0 rfl) ?_
      refine G_300_7 hC hS m472 dX11_goOn_274 ?_
      refine lv_aload_n hx hb dX11_goOn_277 rfl (lv_at hl 0 rfl) ?_
      refine G_300_6 hC hS m478 dX11_goOn_278 ?_
      refine lv_isub hx hb dX11_goOn_281 ?_
      refine lv_iconst hx hb dX11_goOn_282 kI_4 ?_
      refine lv_icmp_ge (tgt := 309) hx hb dX11_goOn_283 (by decide) (fun c_15 => ?_) (fun c_15 => ?_)
      · have hp := hp.1 c_15
        exact bX11_goOn_309 hC hR ih  w_4 _ _ _ hp hS (lv_sub hl [0] rfl)
      · have hp := hp.2 c_15
        refine lv_aload_n hx hb dX11_goOn_286 rfl (lv_at hl 0 rfl) ?_
        refine lv_bipush hx hb dX11_goOn_287 kB_10 ?_
        refine lv_aload_n hx hb dX11_goOn_289 rfl (lv_at hl 0 rfl) ?_
        refine G_300_9 hC hS m480 dX11_goOn_290 ?_
        refine lv_imul hx hb dX11_goOn_293 ?_
        refine lv_aload_n hx hb dX11_goOn_294 rfl (lv_at hl 0 rfl) ?_
        refine lv_aload_n hx hb dX11_goOn_295 rfl (lv_at hl 0 rfl) ?_
        refine G_300_7 hC hS m472 dX11_goOn_296 ?_
        refine q_cvI (As := [.int (w_4.1 300 7)]) (rest := [.int ((10 : Int32) * (w_4.1 300 9)), .ref (g.2.2 300)]) hC hS hl.1 (rX11_sign hp) cwX11_199 yvX11_sign (rcv_300 hC hS) rfl rfl (Nat.le_of_ble_eq_true rfl) (rmk (by decide) (by decide)) dX11_goOn_299 (fun r_16 w_17 H locs hp hS => ?_)
        refine lv_iadd hx hb dX11_goOn_302 ?_
        refine lv_bipush hx hb dX11_goOn_303 kB_48 ?_
        refine lv_isub hx hb dX11_goOn_305 ?_
        refine P_300_9 hC hS m480 dX11_goOn_306 (fun w_18 H locs ew_18 hS => ?_)
        have hp := hp w_18 ew_18
        exact bX11_goOn_309 hC hR ih  w_18 _ _ _ hp hS (lv_sub hl [0] rfl)
set_option maxHeartbeats 4000000 in
set_option maxRecDepth 100000 in
theorem bX11_goOn_199 {p : Program} {l : Launch} {e : Env} {s : State} {m : MethodId} {args : Array Value} {below : List Frame} {meth : Method} {c : Code} {Q : State → Prop} {A : Nat → Prop} {g : Gw} {post : Wd → Prop}  (hC : Cx p s m args c cX11_goOn RX11 3 g) (hR : RtV tabM p l e (rk 2) s m args below meth c Q cX11_goOn A g post)  : ∀  (w : Wd) (H : Heap) (locs : List Loc) (ls : Array Slot), pX11_goOn_199 post  w → St tabM A s.heap g w H locs → lv_has ls 3 [(0, .ref (g.2.2 300))] → W p l e (rk 2) s m args below meth c H locs 0 0 Q (F0 m 199 ls []) := by
  have hx := hC.1
  have hb := hC.2.1
  intro  w H locs ls hp hS hl
  unfold pX11_goOn_199 at hp
  refine lv_aload_n hx hb dX11_goOn_199 rfl (lv_at hl 0 rfl) ?_
  refine lv_aload_n hx hb dX11_goOn_200 rfl (lv_at hl 0 rfl) ?_
  refine G_300_7 hC hS m472 dX11_goOn_201 ?_
  refine lv_aload_n hx hb dX11_goOn_204 rfl (lv_at hl 0 rfl) ?_
  refine G_300_6 hC hS m478 dX11_goOn_205 ?_
  refine lv_isub hx hb dX11_goOn_208 ?_
  refine lv_bipush hx hb dX11_goOn_209 kB_8 ?_
  refine lv_icmp_le (tgt := 218) hx hb dX11_goOn_211 (by decide) (fun c_1 => ?_) (fun c_1 => ?_)
  · have hp := hp.1 c_1
    refine lv_aload_n hx hb dX11_goOn_218 rfl (lv_at hl 0 rfl) ?_
    refine G_300_10 hC hS m479 dX11_goOn_219 ?_
    refine q_csI (As := [.long (w.2.2.1 300 10)]) (rest := [.ref (g.2.2 300)]) hC hS hl.1 (rX11_isKept hp) cwX11_214 ysX11_isKept rfl rfl (Nat.le_of_ble_eq_true rfl) (rmk (by decide) (by decide)) dX11_goOn_222 (fun r_2 w_3 H locs hp hS => ?_)
    refine lv_if_eq (tgt := 232) hx hb dX11_goOn_225 (by decide) (fun c_4 => ?_) (fun c_4 => ?_)
    · have hp := hp.1 c_4
      refine lv_iconst hx hb dX11_goOn_232 kI_2 ?_
      refine P_300_8 hC hS m473 dX11_goOn_233 (fun w_5 H locs ew_5 hS => ?_)
      have hp := hp w_5 ew_5
      refine lv_goto (tgt := 377) hx hb dX11_goOn_236 (by decide) ?_
      exact hR _ _ _ _ _ dX11_goOn_377 hp hS
    · have hp := hp.2 c_4
      refine lv_iconst hx hb dX11_goOn_228 kI_3 ?_
      refine lv_goto (tgt := 233) hx hb dX11_goOn_229 (by decide) ?_
      refine P_300_8 hC hS m473 dX11_goOn_233 (fun w_6 H locs ew_6 hS => ?_)
      have hp := hp w_6 ew_6
      refine lv_goto (tgt := 377) hx hb dX11_goOn_236 (by decide) ?_
      exact hR _ _ _ _ _ dX11_goOn_377 hp hS
  · have hp := hp.2 c_1
    refine lv_iconst hx hb dX11_goOn_214 kI_1 ?_
    refine lv_goto (tgt := 233) hx hb dX11_goOn_215 (by decide) ?_
    refine P_300_8 hC hS m473 dX11_goOn_233 (fun w_7 H locs ew_7 hS => ?_)
    have hp := hp w_7 ew_7
    refine lv_goto (tgt := 377) hx hb dX11_goOn_236 (by decide) ?_
    exact hR _ _ _ _ _ dX11_goOn_377 hp hS
set_option maxHeartbeats 4000000 in
set_option maxRecDepth 100000 in
theorem bX11_goOn_156 {p : Program} {l : Launch} {e : Env} {s : State} {m : MethodId} {args : Array Value} {below : List Frame} {meth : Method} {c : Code} {Q : State → Prop} {A : Nat → Prop} {g : Gw} {post : Wd → Prop}  (hC : Cx p s m args c cX11_goOn RX11 3 g) (hR : RtV tabM p l e (rk 2) s m args below meth c Q cX11_goOn A g post)  : ∀ (n : Nat) (x2 : Int32) (w : Wd) (H : Heap) (locs : List Loc) (ls : Array Slot), pX11_goOn_156 post n x2 w → St tabM A s.heap g w H locs → lv_has ls 3 [(0, .ref (g.2.2 300)), (2, .int x2)] → W p l e (rk 2) s m args below meth c H locs 0 0 Q (F0 m 156 ls []) := by
  have hx := hC.1
  have hb := hC.2.1
  intro n
  induction n with
  | zero =>
    intro x2 w H locs ls hp hS hl
    exact False.elim hp
  | succ n ih =>
    intro x2 w H locs ls hp hS hl
    unfold pX11_goOn_156 at hp
    refine lv_iload_n hx hb dX11_goOn_156 rfl (lv_at hl 1 rfl) ?_
    refine lv_aload_n hx hb dX11_goOn_157 rfl (lv_at hl 0 rfl) ?_
    refine G_300_7 hC hS m472 dX11_goOn_158 ?_
    refine lv_icmp_ge (tgt := 199) hx hb dX11_goOn_161 (by decide) (fun c_1 => ?_) (fun c_1 => ?_)
    · have hp := hp.1 c_1
      exact bX11_goOn_199 hC hR  w _ _ _ hp hS (lv_sub hl [0] rfl)
    · have hp := hp.2 c_1
      refine lv_iload_n hx hb dX11_goOn_164 rfl (lv_at hl 1 rfl) ?_
      refine lv_aload_n hx hb dX11_goOn_165 rfl (lv_at hl 0 rfl) ?_
      refine G_300_6 hC hS m478 dX11_goOn_166 ?_
      refine lv_bipush hx hb dX11_goOn_169 kB_8 ?_
      refine lv_iadd hx hb dX11_goOn_171 ?_
      refine lv_icmp_ge (tgt := 199) hx hb dX11_goOn_172 (by decide) (fun c_2 => ?_) (fun c_2 => ?_)
      · have hp := hp.1 c_2
        exact bX11_goOn_199 hC hR  w _ _ _ hp hS (lv_sub hl [0] rfl)
      · have hp := hp.2 c_2
        refine lv_aload_n hx hb dX11_goOn_175 rfl (lv_at hl 0 rfl) ?_
        refine lv_aload_n hx hb dX11_goOn_176 rfl (lv_at hl 0 rfl) ?_
        refine G_300_10 hC hS m479 dX11_goOn_177 ?_
        refine lv_bipush hx hb dX11_goOn_180 kB_8 ?_
        refine lv_lshl hx hb dX11_goOn_182 rfl ?_
        refine lv_aload_n hx hb dX11_goOn_183 rfl (lv_at hl 0 rfl) ?_
        refine lv_iload_n hx hb dX11_goOn_184 rfl (lv_at hl 1 rfl) ?_
        refine q_cvI (As := [.int x2]) (rest := [.long ((w.2.2.1 300 10) <<< ((8 : Int32).toInt64 &&& 63)), .ref (g.2.2 300)]) hC hS hl.1 (rX11_sign hp) cwX11_199 yvX11_sign (rcv_300 hC hS) rfl rfl (Nat.le_of_ble_eq_true rfl) (rmk (by decide) (by decide)) dX11_goOn_185 (fun r_3 w_4 H locs hp hS => ?_)
        refine lv_i2l hx hb dX11_goOn_188 rfl ?_
        refine lv_lor hx hb dX11_goOn_189 ?_
        refine P_300_10 hC hS m479 dX11_goOn_190 (fun w_5 H locs ew_5 hS => ?_)
        have hp := hp w_5 ew_5
        obtain ⟨x2_6, ex2_6⟩ : ∃ y : Int32, y = x2 + (1 : Int32) := ⟨_, rfl⟩
        have hp := hp x2_6 ex2_6
        refine lv_iinc (v := x2_6) (lv' := [(2, .int x2_6), (0, .ref (g.2.2 300))]) hx hb dX11_goOn_193 hl (k := 1) rfl (by rw [ex2_6]; rfl) (by decide) rfl (fun ls hl => ?_)
        refine lv_goto (tgt := 156) hx hb dX11_goOn_196 (by decide) ?_
        exact ih x2_6 w_5 _ _ _ hp hS (lv_sub hl [1, 0] rfl)
set_option maxHeartbeats 4000000 in
set_option maxRecDepth 100000 in
theorem bX11_goOn_119 {p : Program} {l : Launch} {e : Env} {s : State} {m : MethodId} {args : Array Value} {below : List Frame} {meth : Method} {c : Code} {Q : State → Prop} {A : Nat → Prop} {g : Gw} {post : Wd → Prop}  (hC : Cx p s m args c cX11_goOn RX11 3 g) (hR : RtV tabM p l e (rk 2) s m args below meth c Q cX11_goOn A g post)  : ∀ (n : Nat)  (w : Wd) (H : Heap) (locs : List Loc) (ls : Array Slot), pX11_goOn_119 post n  w → St tabM A s.heap g w H locs → lv_has ls 3 [(0, .ref (g.2.2 300))] → W p l e (rk 2) s m args below meth c H locs 0 0 Q (F0 m 119 ls []) := by
  have hx := hC.1
  have hb := hC.2.1
  intro n
  induction n with
  | zero =>
    intro  w H locs ls hp hS hl
    exact False.elim hp
  | succ n ih =>
    intro  w H locs ls hp hS hl
    unfold pX11_goOn_119 at hp
    refine lv_aload_n hx hb dX11_goOn_119 rfl (lv_at hl 0 rfl) ?_
    refine lv_aload_n hx hb dX11_goOn_120 rfl (lv_at hl 0 rfl) ?_
    refine G_300_7 hC hS m472 dX11_goOn_121 ?_
    refine q_cvI (As := [.int (w.1 300 7)]) (rest := []) hC hS hl.1 (rX11_sign hp) cwX11_199 yvX11_sign (rcv_300 hC hS) rfl rfl (Nat.le_of_ble_eq_true rfl) (rmk (by decide) (by decide)) dX11_goOn_124 (fun r_1 w_2 H locs hp hS => ?_)
    refine q_csI (As := [.int r_1]) (rest := []) hC hS hl.1 (rX11_isLetter hp) cwX11_206 ysX11_isLetter rfl rfl (Nat.le_of_ble_eq_true rfl) (rmk (by decide) (by decide)) dX11_goOn_127 (fun r_3 w_4 H locs hp hS => ?_)
    refine lv_if_eq (tgt := 146) hx hb dX11_goOn_130 (by decide) (fun c_5 => ?_) (fun c_5 => ?_)
    · have hp := hp.1 c_5
      refine lv_aload_n hx hb dX11_goOn_146 rfl (lv_at hl 0 rfl) ?_
      refine lv_lconst hx hb dX11_goOn_147 kL_0 ?_
      refine P_300_10 hC hS m479 dX11_goOn_148 (fun w_6 H locs ew_6 hS => ?_)
      have hp := hp w_6 ew_6
      refine lv_aload_n hx hb dX11_goOn_151 rfl (lv_at hl 0 rfl) ?_
      refine G_300_6 hC hS m478 dX11_goOn_152 ?_
      refine lv_topi (fun x2_7 ex2_7 => ?_)
      have hp := hp x2_7 ex2_7
      refine lv_istore_n (lv' := [(2, .int x2_7), (0, .ref (g.2.2 300))]) hx hb dX11_goOn_155 rfl hl (by decide) rfl (fun ls hl => ?_)
      obtain ⟨n9, hp⟩ := hp
      exact bX11_goOn_156 hC hR n9 x2_7 w_6 _ _ _ hp hS (lv_sub hl [1, 0] rfl)
    · have hp := hp.2 c_5
      refine lv_aload_n hx hb dX11_goOn_133 rfl (lv_at hl 0 rfl) ?_
      refine lv_dup hx hb dX11_goOn_134 rfl ?_
      refine G_300_7 hC hS m472 dX11_goOn_135 ?_
      refine lv_iconst hx hb dX11_goOn_138 kI_1 ?_
      refine lv_iadd hx hb dX11_goOn_139 ?_
      refine P_300_7 hC hS m472 dX11_goOn_140 (fun w_8 H locs ew_8 hS => ?_)
      have hp := hp w_8 ew_8
      refine lv_goto (tgt := 119) hx hb dX11_goOn_143 (by decide) ?_
      exact ih  w_8 _ _ _ hp hS (lv_sub hl [0] rfl)
set_option maxHeartbeats 4000000 in
set_option maxRecDepth 100000 in
theorem bX11_goOn_58 {p : Program} {l : Launch} {e : Env} {s : State} {m : MethodId} {args : Array Value} {below : List Frame} {meth : Method} {c : Code} {Q : State → Prop} {A : Nat → Prop} {g : Gw} {post : Wd → Prop}  (hC : Cx p s m args c cX11_goOn RX11 3 g) (hR : RtV tabM p l e (rk 2) s m args below meth c Q cX11_goOn A g post)  : ∀  (w : Wd) (H : Heap) (locs : List Loc) (ls : Array Slot), pX11_goOn_58 post  w → St tabM A s.heap g w H locs → lv_has ls 3 [(0, .ref (g.2.2 300))] → W p l e (rk 2) s m args below meth c H locs 0 0 Q (F0 m 58 ls []) := by
  have hx := hC.1
  have hb := hC.2.1
  intro  w H locs ls hp hS hl
  unfold pX11_goOn_58 at hp
  refine lv_aload_n hx hb dX11_goOn_58 rfl (lv_at hl 0 rfl) ?_
  refine lv_aload_n hx hb dX11_goOn_59 rfl (lv_at hl 0 rfl) ?_
  refine G_300_6 hC hS m478 dX11_goOn_60 ?_
  refine q_cvI (As := [.int (w.1 300 6)]) (rest := []) hC hS hl.1 (rX11_sign hp) cwX11_199 yvX11_sign (rcv_300 hC hS) rfl rfl (Nat.le_of_ble_eq_true rfl) (rmk (by decide) (by decide)) dX11_goOn_63 (fun r_1 w_2 H locs hp hS => ?_)
  refine lv_istore_n (lv' := [(1, .int r_1), (0, .ref (g.2.2 300))]) hx hb dX11_goOn_66 rfl hl (by decide) rfl (fun ls hl => ?_)
  refine lv_aload_n hx hb dX11_goOn_67 rfl (lv_at hl 1 rfl) ?_
  refine lv_aload_n hx hb dX11_goOn_68 rfl (lv_at hl 1 rfl) ?_
  refine G_300_6 hC hS m478 dX11_goOn_69 ?_
  refine lv_iconst hx hb dX11_goOn_72 kI_1 ?_
  refine lv_iadd hx hb dX11_goOn_73 ?_
  refine P_300_7 hC hS m472 dX11_goOn_74 (fun w_3 H locs ew_3 hS => ?_)
  have hp := hp w_3 ew_3
  refine lv_aload_n hx hb dX11_goOn_77 rfl (lv_at hl 1 rfl) ?_
  refine G_300_6 hC hS m478 dX11_goOn_78 ?_
  refine lv_aload_n hx hb dX11_goOn_81 rfl (lv_at hl 1 rfl) ?_
  refine G_300_3 hC hS m471 dX11_goOn_82 ?_
  refine lv_icmp_lt (tgt := 112) hx hb dX11_goOn_85 (by decide) (fun c_4 => ?_) (fun c_4 => ?_)
  · have hp := hp.1 c_4
    refine lv_iload_n hx hb dX11_goOn_112 rfl (lv_at hl 0 rfl) ?_
    refine q_csI (As := [.int r_1]) (rest := []) hC hS hl.1 (rX11_isLetter hp) cwX11_206 ysX11_isLetter rfl rfl (Nat.le_of_ble_eq_true rfl) (rmk (by decide) (by decide)) dX11_goOn_113 (fun r_5 w_6 H locs hp hS => ?_)
    refine lv_if_eq (tgt := 239) hx hb dX11_goOn_116 (by decide) (fun c_7 => ?_) (fun c_7 => ?_)
    · have hp := hp.1 c_7
      refine lv_iload_n hx hb dX11_goOn_239 rfl (lv_at hl 0 rfl) ?_
      refine q_csI (As := [.int r_1]) (rest := []) hC hS hl.1 (rX11_isDigit hp) cwX11_218 ysX11_isDigit rfl rfl (Nat.le_of_ble_eq_true rfl) (rmk (by decide) (by decide)) dX11_goOn_240 (fun r_8 w_9 H locs hp hS => ?_)
      refine lv_if_eq (tgt := 361) hx hb dX11_goOn_243 (by decide) (fun c_10 => ?_) (fun c_10 => ?_)
      · have hp := hp.1 c_10
        refine lv_aload_n hx hb dX11_goOn_361 rfl (lv_at hl 1 rfl) ?_
        refine lv_iload_n hx hb dX11_goOn_362 rfl (lv_at hl 0 rfl) ?_
        refine q_csI (As := [.int r_1]) (rest := [.ref (g.2.2 300)]) hC hS hl.1 (rX11_isSign hp) cwX11_224 ysX11_isSign rfl rfl (Nat.le_of_ble_eq_true rfl) (rmk (by decide) (by decide)) dX11_goOn_363 (fun r_11 w_12 H locs hp hS => ?_)
        refine lv_if_eq (tgt := 373) hx hb dX11_goOn_366 (by decide) (fun c_13 => ?_) (fun c_13 => ?_)
        · have hp := hp.1 c_13
          refine lv_iconst hx hb dX11_goOn_373 kI_1 ?_
          refine P_300_8 hC hS m473 dX11_goOn_374 (fun w_14 H locs ew_14 hS => ?_)
          have hp := hp w_14 ew_14
          exact hR _ _ _ _ _ dX11_goOn_377 hp hS
        · have hp := hp.2 c_13
          refine lv_iconst hx hb dX11_goOn_369 kI_5 ?_
          refine lv_goto (tgt := 374) hx hb dX11_goOn_370 (by decide) ?_
          refine P_300_8 hC hS m473 dX11_goOn_374 (fun w_15 H locs ew_15 hS => ?_)
          have hp := hp w_15 ew_15
          exact hR _ _ _ _ _ dX11_goOn_377 hp hS
      · have hp := hp.2 c_10
        refine lv_aload_n hx hb dX11_goOn_246 rfl (lv_at hl 1 rfl) ?_
        refine lv_iconst hx hb dX11_goOn_247 kI_0 ?_
        refine P_300_9 hC hS m480 dX11_goOn_248 (fun w_16 H locs ew_16 hS => ?_)
        have hp := hp w_16 ew_16
        refine lv_aload_n hx hb dX11_goOn_251 rfl (lv_at hl 1 rfl) ?_
        refine lv_aload_n hx hb dX11_goOn_252 rfl (lv_at hl 1 rfl) ?_
        refine G_300_6 hC hS m478 dX11_goOn_253 ?_
        refine P_300_7 hC hS m472 dX11_goOn_256 (fun w_17 H locs ew_17 hS => ?_)
        have hp := hp w_17 ew_17
        obtain ⟨n9, hp⟩ := hp
        exact bX11_goOn_259 hC hR n9  w_17 _ _ _ hp hS (lv_sub hl [1] rfl)
    · have hp := hp.2 c_7
      obtain ⟨n9, hp⟩ := hp
      exact bX11_goOn_119 hC hR n9  w_6 _ _ _ hp hS (lv_sub hl [1] rfl)
  · have hp := hp.2 c_4
    refine lv_aload_n hx hb dX11_goOn_88 rfl (lv_at hl 1 rfl) ?_
    refine lv_iconst hx hb dX11_goOn_89 kI_0 ?_
    refine P_300_8 hC hS m473 dX11_goOn_90 (fun w_18 H locs ew_18 hS => ?_)
    have hp := hp w_18 ew_18
    refine lv_aload_n hx hb dX11_goOn_93 rfl (lv_at hl 1 rfl) ?_
    refine lv_aload_n hx hb dX11_goOn_94 rfl (lv_at hl 1 rfl) ?_
    refine G_300_3 hC hS m471 dX11_goOn_95 ?_
    refine P_300_6 hC hS m478 dX11_goOn_98 (fun w_19 H locs ew_19 hS => ?_)
    have hp := hp w_19 ew_19
    refine lv_aload_n hx hb dX11_goOn_101 rfl (lv_at hl 1 rfl) ?_
    refine lv_aload_n hx hb dX11_goOn_102 rfl (lv_at hl 1 rfl) ?_
    refine G_300_3 hC hS m471 dX11_goOn_103 ?_
    refine P_300_7 hC hS m472 dX11_goOn_106 (fun w_20 H locs ew_20 hS => ?_)
    have hp := hp w_20 ew_20
    refine lv_goto (tgt := 377) hx hb dX11_goOn_109 (by decide) ?_
    exact hR _ _ _ _ _ dX11_goOn_377 hp hS
set_option maxHeartbeats 4000000 in
set_option maxRecDepth 100000 in
theorem bX11_goOn_45 {p : Program} {l : Launch} {e : Env} {s : State} {m : MethodId} {args : Array Value} {below : List Frame} {meth : Method} {c : Code} {Q : State → Prop} {A : Nat → Prop} {g : Gw} {post : Wd → Prop}  (hC : Cx p s m args c cX11_goOn RX11 3 g) (hR : RtV tabM p l e (rk 2) s m args below meth c Q cX11_goOn A g post)  {k8 : Wd → Prop} (hk8 : ∀  (w : Wd) (H : Heap) (locs : List Loc) (ls : Array Slot), k8  w → St tabM A s.heap g w H locs → lv_has ls 3 [(0, .ref (g.2.2 300))] → W p l e (rk 2) s m args below meth c H locs 0 0 Q (F0 m 8 ls [])) : ∀  (w : Wd) (H : Heap) (locs : List Loc) (ls : Array Slot), pX11_goOn_45 k8 post  w → St tabM A s.heap g w H locs → lv_has ls 3 [(0, .ref (g.2.2 300))] → W p l e (rk 2) s m args below meth c H locs 0 0 Q (F0 m 45 ls []) := by
  have hx := hC.1
  have hb := hC.2.1
  intro  w H locs ls hp hS hl
  unfold pX11_goOn_45 at hp
  refine lv_aload_n hx hb dX11_goOn_45 rfl (lv_at hl 0 rfl) ?_
  refine lv_dup hx hb dX11_goOn_46 rfl ?_
  refine G_300_6 hC hS m478 dX11_goOn_47 ?_
  refine lv_iconst hx hb dX11_goOn_50 kI_1 ?_
  refine lv_iadd hx hb dX11_goOn_51 ?_
  refine P_300_6 hC hS m478 dX11_goOn_52 (fun w_1 H locs ew_1 hS => ?_)
  have hp := hp w_1 ew_1
  refine lv_goto (tgt := 8) hx hb dX11_goOn_55 (by decide) ?_
  exact hk8  w_1 _ _ _ hp hS (lv_sub hl [0] rfl)
set_option maxHeartbeats 4000000 in
set_option maxRecDepth 100000 in
theorem bX11_goOn_8 {p : Program} {l : Launch} {e : Env} {s : State} {m : MethodId} {args : Array Value} {below : List Frame} {meth : Method} {c : Code} {Q : State → Prop} {A : Nat → Prop} {g : Gw} {post : Wd → Prop}  (hC : Cx p s m args c cX11_goOn RX11 3 g) (hR : RtV tabM p l e (rk 2) s m args below meth c Q cX11_goOn A g post)  : ∀ (n : Nat)  (w : Wd) (H : Heap) (locs : List Loc) (ls : Array Slot), pX11_goOn_8 post n  w → St tabM A s.heap g w H locs → lv_has ls 3 [(0, .ref (g.2.2 300))] → W p l e (rk 2) s m args below meth c H locs 0 0 Q (F0 m 8 ls []) := by
  have hx := hC.1
  have hb := hC.2.1
  intro n
  induction n with
  | zero =>
    intro  w H locs ls hp hS hl
    exact False.elim hp
  | succ n ih =>
    intro  w H locs ls hp hS hl
    unfold pX11_goOn_8 at hp
    refine lv_aload_n hx hb dX11_goOn_8 rfl (lv_at hl 0 rfl) ?_
    refine G_300_6 hC hS m478 dX11_goOn_9 ?_
    refine lv_aload_n hx hb dX11_goOn_12 rfl (lv_at hl 0 rfl) ?_
    refine G_300_3 hC hS m471 dX11_goOn_13 ?_
    refine lv_icmp_ge (tgt := 58) hx hb dX11_goOn_16 (by decide) (fun c_1 => ?_) (fun c_1 => ?_)
    · have hp := hp.1 c_1
      exact bX11_goOn_58 hC hR  w _ _ _ hp hS (lv_sub hl [0] rfl)
    · have hp := hp.2 c_1
      refine lv_aload_n hx hb dX11_goOn_19 rfl (lv_at hl 0 rfl) ?_
      refine lv_aload_n hx hb dX11_goOn_20 rfl (lv_at hl 0 rfl) ?_
      refine G_300_6 hC hS m478 dX11_goOn_21 ?_
      refine q_cvI (As := [.int (w.1 300 6)]) (rest := []) hC hS hl.1 (rX11_sign hp) cwX11_199 yvX11_sign (rcv_300 hC hS) rfl rfl (Nat.le_of_ble_eq_true rfl) (rmk (by decide) (by decide)) dX11_goOn_24 (fun r_2 w_3 H locs hp hS => ?_)
      refine lv_bipush hx hb dX11_goOn_27 kB_32 ?_
      refine lv_icmp_eq (tgt := 45) hx hb dX11_goOn_29 (by decide) (fun c_4 => ?_) (fun c_4 => ?_)
      · have hp := hp.1 c_4
        exact bX11_goOn_45 hC hR ih  w_3 _ _ _ hp hS (lv_sub hl [0] rfl)
      · have hp := hp.2 c_4
        refine lv_aload_n hx hb dX11_goOn_32 rfl (lv_at hl 0 rfl) ?_
        refine lv_aload_n hx hb dX11_goOn_33 rfl (lv_at hl 0 rfl) ?_
        refine G_300_6 hC hS m478 dX11_goOn_34 ?_
        refine q_cvI (As := [.int (w_3.1 300 6)]) (rest := []) hC hS hl.1 (rX11_sign hp) cwX11_199 yvX11_sign (rcv_300 hC hS) rfl rfl (Nat.le_of_ble_eq_true rfl) (rmk (by decide) (by decide)) dX11_goOn_37 (fun r_5 w_6 H locs hp hS => ?_)
        refine lv_bipush hx hb dX11_goOn_40 kB_10 ?_
        refine lv_icmp_ne (tgt := 58) hx hb dX11_goOn_42 (by decide) (fun c_7 => ?_) (fun c_7 => ?_)
        · have hp := hp.1 c_7
          exact bX11_goOn_58 hC hR  w_6 _ _ _ hp hS (lv_sub hl [0] rfl)
        · have hp := hp.2 c_7
          exact bX11_goOn_45 hC hR ih  w_6 _ _ _ hp hS (lv_sub hl [0] rfl)
set_option maxHeartbeats 4000000 in
set_option maxRecDepth 100000 in
theorem rX11_goOn {l : Launch} {g : Gw} {w : Wd} {post : Wd → Prop}    (hp : pX11_goOn post  w) : MtV tabM l yX11_goOn cX11_goOn 3 none 2 g w [.ref (g.2.2 300)] post := by
  refine q_entV tabM_nd (by decide) rfl (Nat.le_of_ble_eq_true rfl) ?_
  intro p e s m args below meth c A Q ls hC hR hS hl
  have hx := hC.1
  have hb := hC.2.1
  have hl : lv_has ls 3 [(0, .ref (g.2.2 300))] := hl
  unfold pX11_goOn at hp
  refine lv_aload_n hx hb dX11_goOn_0 rfl (lv_at hl 0 rfl) ?_
  refine lv_aload_n hx hb dX11_goOn_1 rfl (lv_at hl 0 rfl) ?_
  refine G_300_7 hC hS m472 dX11_goOn_2 ?_
  refine P_300_6 hC hS m478 dX11_goOn_5 (fun w_1 H locs ew_1 hS => ?_)
  have hp := hp w_1 ew_1
  obtain ⟨n9, hp⟩ := hp
  exact bX11_goOn_8 hC hR n9  w_1 _ _ _ hp hS (lv_sub hl [0] rfl)
def pX11_isGood (post : Int32 → Wd → Prop)  (w : Wd) : Prop := (¬ (w.1 300 4) = 0 → (post (0 : Int32) w)) ∧ ((w.1 300 4) = 0 → (post (1 : Int32) w))
set_option maxHeartbeats 4000000 in
set_option maxRecDepth 100000 in
theorem rX11_isGood {l : Launch} {g : Gw} {w : Wd} {post : Int32 → Wd → Prop}    (hp : pX11_isGood post  w) : MtI tabM l yX11_isGood cX11_isGood 1 (some .boolean) 1 g w [.ref (g.2.2 300)] post := by
  refine q_entZ tabM_nd (by decide) rfl (Nat.le_of_ble_eq_true rfl) ?_
  intro p e s m args below meth c A Q ls hC hR hS hl
  have hx := hC.1
  have hb := hC.2.1
  have hl : lv_has ls 1 [(0, .ref (g.2.2 300))] := hl
  unfold pX11_isGood at hp
  refine lv_aload_n hx hb dX11_isGood_0 rfl (lv_at hl 0 rfl) ?_
  refine G_300_4 hC hS m470 dX11_isGood_1 ?_
  refine lv_if_ne (tgt := 11) hx hb dX11_isGood_4 (by decide) (fun c_1 => ?_) (fun c_1 => ?_)
  · have hp := hp.1 c_1
    refine lv_iconst hx hb dX11_isGood_11 kI_0 ?_
    exact hR _ _ _ _ _ _ dX11_isGood_12 (by decide) hp hS
  · have hp := hp.2 c_1
    refine lv_iconst hx hb dX11_isGood_7 kI_1 ?_
    refine lv_goto (tgt := 12) hx hb dX11_isGood_8 (by decide) ?_
    exact hR _ _ _ _ _ _ dX11_isGood_12 (by decide) hp hS
def pX11_isWord (post : Int32 → Wd → Prop) (x1 : Int64) (w : Wd) : Prop := (¬ (w.1 300 8) = (3 : Int32) → (post (0 : Int32) w)) ∧ ((w.1 300 8) = (3 : Int32) → ((¬ (lg_cmp (w.2.2.1 300 10) x1) = 0 → (post (0 : Int32) w)) ∧ ((lg_cmp (w.2.2.1 300 10) x1) = 0 → (post (1 : Int32) w))))
set_option maxHeartbeats 4000000 in
set_option maxRecDepth 100000 in
theorem rX11_isWord {l : Launch} {g : Gw} {w : Wd} {post : Int32 → Wd → Prop}   {x1 : Int64} (hp : pX11_isWord post x1 w) : MtI tabM l yX11_isWord cX11_isWord 3 (some .boolean) 1 g w [.ref (g.2.2 300), .long x1] post := by
  refine q_entZ tabM_nd (by decide) rfl (Nat.le_of_ble_eq_true rfl) ?_
  intro p e s m args below meth c A Q ls hC hR hS hl
  have hx := hC.1
  have hb := hC.2.1
  have hl : lv_has ls 3 [(0, .ref (g.2.2 300)), (1, .long x1)] := hl
  unfold pX11_isWord at hp
  refine lv_aload_n hx hb dX11_isWord_0 rfl (lv_at hl 0 rfl) ?_
  refine G_300_8 hC hS m473 dX11_isWord_1 ?_
  refine lv_iconst hx hb dX11_isWord_4 kI_3 ?_
  refine lv_icmp_ne (tgt := 21) hx hb dX11_isWord_5 (by decide) (fun c_1 => ?_) (fun c_1 => ?_)
  · have hp := hp.1 c_1
    refine lv_iconst hx hb dX11_isWord_21 kI_0 ?_
    exact hR _ _ _ _ _ _ dX11_isWord_22 (by decide) hp hS
  · have hp := hp.2 c_1
    refine lv_aload_n hx hb dX11_isWord_8 rfl (lv_at hl 0 rfl) ?_
    refine G_300_10 hC hS m479 dX11_isWord_9 ?_
    refine lv_lload_n hx hb dX11_isWord_12 rfl (lv_at hl 1 rfl) ?_
    refine W.lcmp hx hb dX11_isWord_13 ?_
    refine lv_if_ne (tgt := 21) hx hb dX11_isWord_14 (by decide) (fun c_2 => ?_) (fun c_2 => ?_)
    · have hp := hp.1 c_2
      refine lv_iconst hx hb dX11_isWord_21 kI_0 ?_
      exact hR _ _ _ _ _ _ dX11_isWord_22 (by decide) hp hS
    · have hp := hp.2 c_2
      refine lv_iconst hx hb dX11_isWord_17 kI_1 ?_
      refine lv_goto (tgt := 22) hx hb dX11_isWord_18 (by decide) ?_
      exact hR _ _ _ _ _ _ dX11_isWord_22 (by decide) hp hS
def pX11_isFull (post : Int32 → Wd → Prop)  (w : Wd) : Prop := pX11_isWord (fun r_1 w_2 => (r_1 = 0 → (pX11_isWord (fun r_4 w_5 => (r_4 = 0 → (pX11_isWord (fun r_7 w_8 => (r_7 = 0 → (pX11_isWord (fun r_10 w_11 => (r_10 = 0 → (pX11_isWord (fun r_13 w_14 => (r_13 = 0 → (post (1 : Int32) w_14)) ∧ (¬ r_13 = 0 → (vp_in (w_14.1 300 30) 2 ∧ ((w_14.2.1 323 (w_14.1 300 30).toNatClampNeg) = 0 → (post (0 : Int32) w_14)) ∧ (¬ (w_14.2.1 323 (w_14.1 300 30).toNatClampNeg) = 0 → (post (1 : Int32) w_14))))) (1685217655 : Int64) w_11)) ∧ (¬ r_10 = 0 → (vp_in (w_11.1 300 30) 2 ∧ (w_11.2.1 322 (w_11.1 300 30).toNatClampNeg) = vp_nar .boolean (w_11.2.1 322 (w_11.1 300 30).toNatClampNeg) ∧ post (w_11.2.1 322 (w_11.1 300 30).toNatClampNeg) w_11))) (7823736 : Int64) w_8)) ∧ (¬ r_7 = 0 → (vp_in (w_8.1 300 30) 2 ∧ (¬ (w_8.2.1 314 (w_8.1 300 30).toNatClampNeg) = (4 : Int32) → (post (0 : Int32) w_8)) ∧ ((w_8.2.1 314 (w_8.1 300 30).toNatClampNeg) = (4 : Int32) → (post (1 : Int32) w_8))))) (1751215716 : Int64) w_5)) ∧ (¬ r_4 = 0 → (vp_in (w_5.1 300 30) 2 ∧ (w_5.2.1 321 (w_5.1 300 30).toNatClampNeg) = vp_nar .boolean (w_5.2.1 321 (w_5.1 300 30).toNatClampNeg) ∧ post (w_5.2.1 321 (w_5.1 300 30).toNatClampNeg) w_5))) (439855772532 : Int64) w_2)) ∧ (¬ r_1 = 0 → (vp_in (w_2.1 300 30) 2 ∧ ((w_2.2.1 318 (w_2.1 300 30).toNatClampNeg) ≤ 0 → (post (0 : Int32) w_2)) ∧ (¬ (w_2.2.1 318 (w_2.1 300 30).toNatClampNeg) ≤ 0 → (post (1 : Int32) w_2))))) (469786323827 : Int64) w
set_option maxHeartbeats 4000000 in
set_option maxRecDepth 100000 in
theorem rX11_isFull {l : Launch} {g : Gw} {w : Wd} {post : Int32 → Wd → Prop}    (hp : pX11_isFull post  w) : MtI tabM l yX11_isFull cX11_isFull 1 (some .boolean) 2 g w [.ref (g.2.2 300)] post := by
  refine q_entZ tabM_nd (by decide) rfl (Nat.le_of_ble_eq_true rfl) ?_
  intro p e s m args below meth c A Q ls hC hR hS hl
  have hx := hC.1
  have hb := hC.2.1
  have hl : lv_has ls 1 [(0, .ref (g.2.2 300))] := hl
  unfold pX11_isFull at hp
  refine lv_aload_n hx hb dX11_isFull_0 rfl (lv_at hl 0 rfl) ?_
  refine lv_ldc2 hx hb hC.2.2.2.1 (hC.2.2.2.2.1 _ m491) dX11_isFull_1 ?_
  refine q_cvI (As := [.long (469786323827 : Int64)]) (rest := []) hC hS hl.1 (rX11_isWord hp) cwX11_256 yvX11_isWord (rcv_300 hC hS) rfl rfl (Nat.le_of_ble_eq_true rfl) (rmk (by decide) (by decide)) dX11_isFull_4 (fun r_1 w_2 H locs hp hS => ?_)
  refine lv_if_eq (tgt := 28) hx hb dX11_isFull_7 (by decide) (fun c_3 => ?_) (fun c_3 => ?_)
  · have hp := hp.1 c_3
    refine lv_aload_n hx hb dX11_isFull_28 rfl (lv_at hl 0 rfl) ?_
    refine lv_ldc2 hx hb hC.2.2.2.1 (hC.2.2.2.2.1 _ m492) dX11_isFull_29 ?_
    refine q_cvI (As := [.long (439855772532 : Int64)]) (rest := []) hC hS hl.1 (rX11_isWord hp) cwX11_256 yvX11_isWord (rcv_300 hC hS) rfl rfl (Nat.le_of_ble_eq_true rfl) (rmk (by decide) (by decide)) dX11_isFull_32 (fun r_4 w_5 H locs hp hS => ?_)
    refine lv_if_eq (tgt := 48) hx hb dX11_isFull_35 (by decide) (fun c_6 => ?_) (fun c_6 => ?_)
    · have hp := hp.1 c_6
      refine lv_aload_n hx hb dX11_isFull_48 rfl (lv_at hl 0 rfl) ?_
      refine lv_ldc2 hx hb hC.2.2.2.1 (hC.2.2.2.2.1 _ m493) dX11_isFull_49 ?_
      refine q_cvI (As := [.long (1751215716 : Int64)]) (rest := []) hC hS hl.1 (rX11_isWord hp) cwX11_256 yvX11_isWord (rcv_300 hC hS) rfl rfl (Nat.le_of_ble_eq_true rfl) (rmk (by decide) (by decide)) dX11_isFull_52 (fun r_7 w_8 H locs hp hS => ?_)
      refine lv_if_eq (tgt := 77) hx hb dX11_isFull_55 (by decide) (fun c_9 => ?_) (fun c_9 => ?_)
      · have hp := hp.1 c_9
        refine lv_aload_n hx hb dX11_isFull_77 rfl (lv_at hl 0 rfl) ?_
        refine lv_ldc2 hx hb hC.2.2.2.1 (hC.2.2.2.2.1 _ m496) dX11_isFull_78 ?_
        refine q_cvI (As := [.long (7823736 : Int64)]) (rest := []) hC hS hl.1 (rX11_isWord hp) cwX11_256 yvX11_isWord (rcv_300 hC hS) rfl rfl (Nat.le_of_ble_eq_true rfl) (rmk (by decide) (by decide)) dX11_isFull_81 (fun r_10 w_11 H locs hp hS => ?_)
        refine lv_if_eq (tgt := 97) hx hb dX11_isFull_84 (by decide) (fun c_12 => ?_) (fun c_12 => ?_)
        · have hp := hp.1 c_12
          refine lv_aload_n hx hb dX11_isFull_97 rfl (lv_at hl 0 rfl) ?_
          refine lv_ldc2 hx hb hC.2.2.2.1 (hC.2.2.2.2.1 _ m497) dX11_isFull_98 ?_
          refine q_cvI (As := [.long (1685217655 : Int64)]) (rest := []) hC hS hl.1 (rX11_isWord hp) cwX11_256 yvX11_isWord (rcv_300 hC hS) rfl rfl (Nat.le_of_ble_eq_true rfl) (rmk (by decide) (by decide)) dX11_isFull_101 (fun r_13 w_14 H locs hp hS => ?_)
          refine lv_if_eq (tgt := 119) hx hb dX11_isFull_104 (by decide) (fun c_15 => ?_) (fun c_15 => ?_)
          · have hp := hp.1 c_15
            refine lv_iconst hx hb dX11_isFull_119 kI_1 ?_
            refine lv_goto (tgt := 124) hx hb dX11_isFull_120 (by decide) ?_
            exact hR _ _ _ _ _ _ dX11_isFull_124 (by decide) hp hS
          · have hp := hp.2 c_15
            refine lv_aload_n hx hb dX11_isFull_107 rfl (lv_at hl 0 rfl) ?_
            refine G_300_22 hC hS m267 dX11_isFull_108 ?_
            refine lv_aload_n hx hb dX11_isFull_111 rfl (lv_at hl 0 rfl) ?_
            refine G_300_30 hC hS m302 dX11_isFull_112 ?_
            refine La_323 hC hS hp.1 dX11_isFull_115 ?_
            have hp := hp.2
            refine lv_if_eq (tgt := 123) hx hb dX11_isFull_116 (by decide) (fun c_16 => ?_) (fun c_16 => ?_)
            · have hp := hp.1 c_16
              refine lv_iconst hx hb dX11_isFull_123 kI_0 ?_
              exact hR _ _ _ _ _ _ dX11_isFull_124 (by decide) hp hS
            · have hp := hp.2 c_16
              refine lv_iconst hx hb dX11_isFull_119 kI_1 ?_
              refine lv_goto (tgt := 124) hx hb dX11_isFull_120 (by decide) ?_
              exact hR _ _ _ _ _ _ dX11_isFull_124 (by decide) hp hS
        · have hp := hp.2 c_12
          refine lv_aload_n hx hb dX11_isFull_87 rfl (lv_at hl 0 rfl) ?_
          refine G_300_21 hC hS m266 dX11_isFull_88 ?_
          refine lv_aload_n hx hb dX11_isFull_91 rfl (lv_at hl 0 rfl) ?_
          refine G_300_30 hC hS m302 dX11_isFull_92 ?_
          refine La_322 hC hS hp.1 dX11_isFull_95 ?_
          have hp := hp.2
          exact hR _ _ _ _ _ _ dX11_isFull_96 hp.1 hp.2 hS
      · have hp := hp.2 c_9
        refine lv_aload_n hx hb dX11_isFull_58 rfl (lv_at hl 0 rfl) ?_
        refine G_300_13 hC hS m258 dX11_isFull_59 ?_
        refine lv_aload_n hx hb dX11_isFull_62 rfl (lv_at hl 0 rfl) ?_
        refine G_300_30 hC hS m302 dX11_isFull_63 ?_
        refine La_314 hC hS hp.1 dX11_isFull_66 ?_
        have hp := hp.2
        refine lv_iconst hx hb dX11_isFull_67 kI_4 ?_
        refine lv_icmp_ne (tgt := 75) hx hb dX11_isFull_68 (by decide) (fun c_17 => ?_) (fun c_17 => ?_)
        · have hp := hp.1 c_17
          refine lv_iconst hx hb dX11_isFull_75 kI_0 ?_
          exact hR _ _ _ _ _ _ dX11_isFull_76 (by decide) hp hS
        · have hp := hp.2 c_17
          refine lv_iconst hx hb dX11_isFull_71 kI_1 ?_
          refine lv_goto (tgt := 76) hx hb dX11_isFull_72 (by decide) ?_
          exact hR _ _ _ _ _ _ dX11_isFull_76 (by decide) hp hS
    · have hp := hp.2 c_6
      refine lv_aload_n hx hb dX11_isFull_38 rfl (lv_at hl 0 rfl) ?_
      refine G_300_20 hC hS m265 dX11_isFull_39 ?_
      refine lv_aload_n hx hb dX11_isFull_42 rfl (lv_at hl 0 rfl) ?_
      refine G_300_30 hC hS m302 dX11_isFull_43 ?_
      refine La_321 hC hS hp.1 dX11_isFull_46 ?_
      have hp := hp.2
      exact hR _ _ _ _ _ _ dX11_isFull_47 hp.1 hp.2 hS
  · have hp := hp.2 c_3
    refine lv_aload_n hx hb dX11_isFull_10 rfl (lv_at hl 0 rfl) ?_
    refine G_300_17 hC hS m262 dX11_isFull_11 ?_
    refine lv_aload_n hx hb dX11_isFull_14 rfl (lv_at hl 0 rfl) ?_
    refine G_300_30 hC hS m302 dX11_isFull_15 ?_
    refine La_318 hC hS hp.1 dX11_isFull_18 ?_
    have hp := hp.2
    refine lv_if_le (tgt := 26) hx hb dX11_isFull_19 (by decide) (fun c_18 => ?_) (fun c_18 => ?_)
    · have hp := hp.1 c_18
      refine lv_iconst hx hb dX11_isFull_26 kI_0 ?_
      exact hR _ _ _ _ _ _ dX11_isFull_27 (by decide) hp hS
    · have hp := hp.2 c_18
      refine lv_iconst hx hb dX11_isFull_22 kI_1 ?_
      refine lv_goto (tgt := 27) hx hb dX11_isFull_23 (by decide) ?_
      exact hR _ _ _ _ _ _ dX11_isFull_27 (by decide) hp hS
def pX11_isSignHere (post : Int32 → Wd → Prop) (x1 : Int32) (w : Wd) : Prop := (¬ (w.1 300 8) = (5 : Int32) → (post (0 : Int32) w)) ∧ ((w.1 300 8) = (5 : Int32) → (pX11_sign (fun r_2 w_3 => (¬ r_2 = x1 → (post (0 : Int32) w_3)) ∧ (r_2 = x1 → (post (1 : Int32) w_3))) (w.1 300 6) w))
set_option maxHeartbeats 4000000 in
set_option maxRecDepth 100000 in
theorem rX11_isSignHere {l : Launch} {g : Gw} {w : Wd} {post : Int32 → Wd → Prop}   {x1 : Int32} (hp : pX11_isSignHere post x1 w) : MtI tabM l yX11_isSignHere cX11_isSignHere 2 (some .boolean) 2 g w [.ref (g.2.2 300), .int x1] post := by
  refine q_entZ tabM_nd (by decide) rfl (Nat.le_of_ble_eq_true rfl) ?_
  intro p e s m args below meth c A Q ls hC hR hS hl
  have hx := hC.1
  have hb := hC.2.1
  have hl : lv_has ls 2 [(0, .ref (g.2.2 300)), (1, .int x1)] := hl
  unfold pX11_isSignHere at hp
  refine lv_aload_n hx hb dX11_isSignHere_0 rfl (lv_at hl 0 rfl) ?_
  refine G_300_8 hC hS m473 dX11_isSignHere_1 ?_
  refine lv_iconst hx hb dX11_isSignHere_4 kI_5 ?_
  refine lv_icmp_ne (tgt := 24) hx hb dX11_isSignHere_5 (by decide) (fun c_1 => ?_) (fun c_1 => ?_)
  · have hp := hp.1 c_1
    refine lv_iconst hx hb dX11_isSignHere_24 kI_0 ?_
    exact hR _ _ _ _ _ _ dX11_isSignHere_25 (by decide) hp hS
  · have hp := hp.2 c_1
    refine lv_aload_n hx hb dX11_isSignHere_8 rfl (lv_at hl 0 rfl) ?_
    refine lv_aload_n hx hb dX11_isSignHere_9 rfl (lv_at hl 0 rfl) ?_
    refine G_300_6 hC hS m478 dX11_isSignHere_10 ?_
    refine q_cvI (As := [.int (w.1 300 6)]) (rest := []) hC hS hl.1 (rX11_sign hp) cwX11_199 yvX11_sign (rcv_300 hC hS) rfl rfl (Nat.le_of_ble_eq_true rfl) (rmk (by decide) (by decide)) dX11_isSignHere_13 (fun r_2 w_3 H locs hp hS => ?_)
    refine lv_iload_n hx hb dX11_isSignHere_16 rfl (lv_at hl 1 rfl) ?_
    refine lv_icmp_ne (tgt := 24) hx hb dX11_isSignHere_17 (by decide) (fun c_4 => ?_) (fun c_4 => ?_)
    · have hp := hp.1 c_4
      refine lv_iconst hx hb dX11_isSignHere_24 kI_0 ?_
      exact hR _ _ _ _ _ _ dX11_isSignHere_25 (by decide) hp hS
    · have hp := hp.2 c_4
      refine lv_iconst hx hb dX11_isSignHere_20 kI_1 ?_
      refine lv_goto (tgt := 25) hx hb dX11_isSignHere_21 (by decide) ?_
      exact hR _ _ _ _ _ _ dX11_isSignHere_25 (by decide) hp hS
def pX11_fails (post : Wd → Prop) (x1 : Int32) (x2 : Int32) (w : Wd) : Prop := ((w.1 300 4) ≤ 0 → (∀ w_2, w_2 = sI w 300 4 x1 → ∀ w_3, w_3 = sI w_2 300 5 x2 → post w_3)) ∧ (¬ (w.1 300 4) ≤ 0 → (post w))
set_option maxHeartbeats 4000000 in
set_option maxRecDepth 100000 in
theorem rX11_fails {l : Launch} {g : Gw} {w : Wd} {post : Wd → Prop}   {x1 : Int32} {x2 : Int32} (hp : pX11_fails post x1 x2 w) : MtV tabM l yX11_fails cX11_fails 3 none 1 g w [.ref (g.2.2 300), .int x1, .int x2] post := by
  refine q_entV tabM_nd (by decide) rfl (Nat.le_of_ble_eq_true rfl) ?_
  intro p e s m args below meth c A Q ls hC hR hS hl
  have hx := hC.1
  have hb := hC.2.1
  have hl : lv_has ls 3 [(0, .ref (g.2.2 300)), (1, .int x1), (2, .int x2)] := hl
  unfold pX11_fails at hp
  refine lv_aload_n hx hb dX11_fails_0 rfl (lv_at hl 0 rfl) ?_
  refine G_300_4 hC hS m470 dX11_fails_1 ?_
  refine lv_if_le (tgt := 8) hx hb dX11_fails_4 (by decide) (fun c_1 => ?_) (fun c_1 => ?_)
  · have hp := hp.1 c_1
    refine lv_aload_n hx hb dX11_fails_8 rfl (lv_at hl 0 rfl) ?_
    refine lv_iload_n hx hb dX11_fails_9 rfl (lv_at hl 1 rfl) ?_
    refine P_300_4 hC hS m470 dX11_fails_10 (fun w_2 H locs ew_2 hS => ?_)
    have hp := hp w_2 ew_2
    refine lv_aload_n hx hb dX11_fails_13 rfl (lv_at hl 0 rfl) ?_
    refine lv_iload_n hx hb dX11_fails_14 rfl (lv_at hl 2 rfl) ?_
    refine P_300_5 hC hS m255 dX11_fails_15 (fun w_3 H locs ew_3 hS => ?_)
    have hp := hp w_3 ew_3
    exact hR _ _ _ _ _ dX11_fails_18 hp hS
  · have hp := hp.2 c_1
    exact hR _ _ _ _ _ dX11_fails_7 hp hS
def pX11_misplaced (post : Wd → Prop)  (w : Wd) : Prop := (¬ (w.1 300 8) = (1 : Int32) → (pX11_fails (fun w_2 => post w_2) (2 : Int32) (w.1 300 6) w)) ∧ ((w.1 300 8) = (1 : Int32) → (pX11_fails (fun w_3 => post w_3) (1 : Int32) (w.1 300 6) w))
set_option maxHeartbeats 4000000 in
set_option maxRecDepth 100000 in
theorem rX11_misplaced {l : Launch} {g : Gw} {w : Wd} {post : Wd → Prop}    (hp : pX11_misplaced post  w) : MtV tabM l yX11_misplaced cX11_misplaced 1 none 2 g w [.ref (g.2.2 300)] post := by
  refine q_entV tabM_nd (by decide) rfl (Nat.le_of_ble_eq_true rfl) ?_
  intro p e s m args below meth c A Q ls hC hR hS hl
  have hx := hC.1
  have hb := hC.2.1
  have hl : lv_has ls 1 [(0, .ref (g.2.2 300))] := hl
  unfold pX11_misplaced at hp
  refine lv_aload_n hx hb dX11_misplaced_0 rfl (lv_at hl 0 rfl) ?_
  refine lv_aload_n hx hb dX11_misplaced_1 rfl (lv_at hl 0 rfl) ?_
  refine G_300_8 hC hS m473 dX11_misplaced_2 ?_
  refine lv_iconst hx hb dX11_misplaced_5 kI_1 ?_
  refine lv_icmp_ne (tgt := 13) hx hb dX11_misplaced_6 (by decide) (fun c_1 => ?_) (fun c_1 => ?_)
  · have hp := hp.1 c_1
    refine lv_iconst hx hb dX11_misplaced_13 kI_2 ?_
    refine lv_aload_n hx hb dX11_misplaced_14 rfl (lv_at hl 0 rfl) ?_
    refine G_300_6 hC hS m478 dX11_misplaced_15 ?_
    refine q_cvV (As := [.int (2 : Int32), .int (w.1 300 6)]) (rest := []) hC hS hl.1 (rX11_fails hp) cwX11_227 yvX11_fails (rcv_300 hC hS) rfl rfl (Nat.le_of_ble_eq_true rfl) (rmk (by decide) (by decide)) dX11_misplaced_18 (fun w_2 H locs hp hS => ?_)
    exact hR _ _ _ _ _ dX11_misplaced_21 hp hS
  · have hp := hp.2 c_1
    refine lv_iconst hx hb dX11_misplaced_9 kI_1 ?_
    refine lv_goto (tgt := 14) hx hb dX11_misplaced_10 (by decide) ?_
    refine lv_aload_n hx hb dX11_misplaced_14 rfl (lv_at hl 0 rfl) ?_
    refine G_300_6 hC hS m478 dX11_misplaced_15 ?_
    refine q_cvV (As := [.int (1 : Int32), .int (w.1 300 6)]) (rest := []) hC hS hl.1 (rX11_fails hp) cwX11_227 yvX11_fails (rcv_300 hC hS) rfl rfl (Nat.le_of_ble_eq_true rfl) (rmk (by decide) (by decide)) dX11_misplaced_18 (fun w_3 H locs hp hS => ?_)
    exact hR _ _ _ _ _ dX11_misplaced_21 hp hS
def pX11_must (post : Wd → Prop) (x1 : Int32) (w : Wd) : Prop := pX11_isGood (fun r_1 w_2 => (¬ r_1 = 0 → ((x1 = 0 → (pX11_misplaced (fun w_5 => post w_5) w_2)) ∧ (¬ x1 = 0 → (pX11_goOn (fun w_6 => post w_6) w_2)))) ∧ (r_1 = 0 → (post w_2))) w
set_option maxHeartbeats 4000000 in
set_option maxRecDepth 100000 in
theorem rX11_must {l : Launch} {g : Gw} {w : Wd} {post : Wd → Prop}   {x1 : Int32} (hp : pX11_must post x1 w) : MtV tabM l yX11_must cX11_must 2 none 3 g w [.ref (g.2.2 300), .int x1] post := by
  refine q_entV tabM_nd (by decide) rfl (Nat.le_of_ble_eq_true rfl) ?_
  intro p e s m args below meth c A Q ls hC hR hS hl
  have hx := hC.1
  have hb := hC.2.1
  have hl : lv_has ls 2 [(0, .ref (g.2.2 300)), (1, .int x1)] := hl
  unfold pX11_must at hp
  refine lv_aload_n hx hb dX11_must_0 rfl (lv_at hl 0 rfl) ?_
  refine q_cvI (As := []) (rest := []) hC hS hl.1 (rX11_isGood hp) cwX11_231 yvX11_isGood (rcv_300 hC hS) rfl rfl (Nat.le_of_ble_eq_true rfl) (rmk (by decide) (by decide)) dX11_must_1 (fun r_1 w_2 H locs hp hS => ?_)
  refine lv_if_ne (tgt := 8) hx hb dX11_must_4 (by decide) (fun c_3 => ?_) (fun c_3 => ?_)
  · have hp := hp.1 c_3
    refine lv_iload_n hx hb dX11_must_8 rfl (lv_at hl 1 rfl) ?_
    refine lv_if_eq (tgt := 19) hx hb dX11_must_9 (by decide) (fun c_4 => ?_) (fun c_4 => ?_)
    · have hp := hp.1 c_4
      refine lv_aload_n hx hb dX11_must_19 rfl (lv_at hl 0 rfl) ?_
      refine q_cvV (As := []) (rest := []) hC hS hl.1 (rX11_misplaced hp) cwX11_238 yvX11_misplaced (rcv_300 hC hS) rfl rfl (Nat.le_of_ble_eq_true rfl) (rmk (by decide) (by decide)) dX11_must_20 (fun w_5 H locs hp hS => ?_)
      exact hR _ _ _ _ _ dX11_must_23 hp hS
    · have hp := hp.2 c_4
      refine lv_aload_n hx hb dX11_must_12 rfl (lv_at hl 0 rfl) ?_
      refine q_cvV (As := []) (rest := []) hC hS hl.1 (rX11_goOn hp) cwX11_235 yvX11_goOn (rcv_300 hC hS) rfl rfl (Nat.le_of_ble_eq_true rfl) (rmk (by decide) (by decide)) dX11_must_13 (fun w_6 H locs hp hS => ?_)
      refine lv_goto (tgt := 23) hx hb dX11_must_16 (by decide) ?_
      exact hR _ _ _ _ _ dX11_must_23 hp hS
  · have hp := hp.2 c_3
    exact hR _ _ _ _ _ dX11_must_7 hp hS
def pX11_numeral_53 (post : Int32 → Wd → Prop) (x1 : Int32) (w : Wd) : Prop := ∀ x3_1, x3_1 = (w.1 300 9) → pX11_isGood (fun r_2 w_3 => (r_2 = 0 → (pX11_isGood (fun r_5 w_6 => (r_5 = 0 → (post x1 w_6)) ∧ (¬ r_5 = 0 → (post x3_1 w_6))) w_3)) ∧ (¬ r_2 = 0 → (pX11_goOn (fun w_8 => pX11_isGood (fun r_9 w_10 => (r_9 = 0 → (post x1 w_10)) ∧ (¬ r_9 = 0 → (post x3_1 w_10))) w_8) w_3))) w
def pX11_numeral_44 (post : Int32 → Wd → Prop) (x1 : Int32) (w : Wd) : Prop := pX11_fails (fun w_1 => pX11_numeral_53 post x1 w_1) (4 : Int32) (w.1 300 6) w
def pX11_numeral_21 (post : Int32 → Wd → Prop) (x1 : Int32) (x2 : Int32) (w : Wd) : Prop := pX11_isGood (fun r_1 w_2 => (r_1 = 0 → (pX11_numeral_53 post x1 w_2)) ∧ (¬ r_1 = 0 → (((w_2.1 300 9) < x1 → (pX11_numeral_44 post x1 w_2)) ∧ (¬ (w_2.1 300 9) < x1 → (((w_2.1 300 9) ≤ x2 → (pX11_numeral_53 post x1 w_2)) ∧ (¬ (w_2.1 300 9) ≤ x2 → (pX11_numeral_44 post x1 w_2))))))) w
def pX11_numeral (post : Int32 → Wd → Prop) (x1 : Int32) (x2 : Int32) (w : Wd) : Prop := pX11_isGood (fun r_1 w_2 => (¬ r_1 = 0 → (((w_2.1 300 8) = (4 : Int32) → (pX11_numeral_21 post x1 x2 w_2)) ∧ (¬ (w_2.1 300 8) = (4 : Int32) → (pX11_misplaced (fun w_5 => pX11_numeral_21 post x1 x2 w_5) w_2)))) ∧ (r_1 = 0 → (post x1 w_2))) w
set_option maxHeartbeats 4000000 in
set_option maxRecDepth 100000 in
theorem bX11_numeral_53 {p : Program} {l : Launch} {e : Env} {s : State} {m : MethodId} {args : Array Value} {below : List Frame} {meth : Method} {c : Code} {Q : State → Prop} {A : Nat → Prop} {g : Gw} {post : Int32 → Wd → Prop}  (hC : Cx p s m args c cX11_numeral RX11 4 g) (hR : RtI tabM p l e (rk 3) s m args below meth c Q cX11_numeral A g post)  : ∀ (x1 : Int32) (w : Wd) (H : Heap) (locs : List Loc) (ls : Array Slot), pX11_numeral_53 post x1 w → St tabM A s.heap g w H locs → lv_has ls 4 [(0, .ref (g.2.2 300)), (1, .int x1)] → W p l e (rk 3) s m args below meth c H locs 0 0 Q (F0 m 53 ls []) := by
  have hx := hC.1
  have hb := hC.2.1
  intro x1 w H locs ls hp hS hl
  unfold pX11_numeral_53 at hp
  refine lv_aload_n hx hb dX11_numeral_53 rfl (lv_at hl 0 rfl) ?_
  refine G_300_9 hC hS m480 dX11_numeral_54 ?_
  refine lv_topi (fun x3_1 ex3_1 => ?_)
  have hp := hp x3_1 ex3_1
  refine lv_istore_n (lv' := [(3, .int x3_1), (0, .ref (g.2.2 300)), (1, .int x1)]) hx hb dX11_numeral_57 rfl hl (by decide) rfl (fun ls hl => ?_)
  refine lv_aload_n hx hb dX11_numeral_58 rfl (lv_at hl 1 rfl) ?_
  refine q_cvI (As := []) (rest := []) hC hS hl.1 (rX11_isGood hp) cwX11_231 yvX11_isGood (rcv_300 hC hS) rfl rfl (Nat.le_of_ble_eq_true rfl) (rmk (by decide) (by decide)) dX11_numeral_59 (fun r_2 w_3 H locs hp hS => ?_)
  refine lv_if_eq (tgt := 69) hx hb dX11_numeral_62 (by decide) (fun c_4 => ?_) (fun c_4 => ?_)
  · have hp := hp.1 c_4
    refine lv_aload_n hx hb dX11_numeral_69 rfl (lv_at hl 1 rfl) ?_
    refine q_cvI (As := []) (rest := []) hC hS hl.1 (rX11_isGood hp) cwX11_231 yvX11_isGood (rcv_300 hC hS) rfl rfl (Nat.le_of_ble_eq_true rfl) (rmk (by decide) (by decide)) dX11_numeral_70 (fun r_5 w_6 H locs hp hS => ?_)
    refine lv_if_eq (tgt := 80) hx hb dX11_numeral_73 (by decide) (fun c_7 => ?_) (fun c_7 => ?_)
    · have hp := hp.1 c_7
      refine lv_iload_n hx hb dX11_numeral_80 rfl (lv_at hl 2 rfl) ?_
      exact hR _ _ _ _ _ _ dX11_numeral_81 hp hS
    · have hp := hp.2 c_7
      refine lv_iload_n hx hb dX11_numeral_76 rfl (lv_at hl 0 rfl) ?_
      refine lv_goto (tgt := 81) hx hb dX11_numeral_77 (by decide) ?_
      exact hR _ _ _ _ _ _ dX11_numeral_81 hp hS
  · have hp := hp.2 c_4
    refine lv_aload_n hx hb dX11_numeral_65 rfl (lv_at hl 1 rfl) ?_
    refine q_cvV (As := []) (rest := []) hC hS hl.1 (rX11_goOn hp) cwX11_235 yvX11_goOn (rcv_300 hC hS) rfl rfl (Nat.le_of_ble_eq_true rfl) (rmk (by decide) (by decide)) dX11_numeral_66 (fun w_8 H locs hp hS => ?_)
    refine lv_aload_n hx hb dX11_numeral_69 rfl (lv_at hl 1 rfl) ?_
    refine q_cvI (As := []) (rest := []) hC hS hl.1 (rX11_isGood hp) cwX11_231 yvX11_isGood (rcv_300 hC hS) rfl rfl (Nat.le_of_ble_eq_true rfl) (rmk (by decide) (by decide)) dX11_numeral_70 (fun r_9 w_10 H locs hp hS => ?_)
    refine lv_if_eq (tgt := 80) hx hb dX11_numeral_73 (by decide) (fun c_11 => ?_) (fun c_11 => ?_)
    · have hp := hp.1 c_11
      refine lv_iload_n hx hb dX11_numeral_80 rfl (lv_at hl 2 rfl) ?_
      exact hR _ _ _ _ _ _ dX11_numeral_81 hp hS
    · have hp := hp.2 c_11
      refine lv_iload_n hx hb dX11_numeral_76 rfl (lv_at hl 0 rfl) ?_
      refine lv_goto (tgt := 81) hx hb dX11_numeral_77 (by decide) ?_
      exact hR _ _ _ _ _ _ dX11_numeral_81 hp hS
set_option maxHeartbeats 4000000 in
set_option maxRecDepth 100000 in
theorem bX11_numeral_44 {p : Program} {l : Launch} {e : Env} {s : State} {m : MethodId} {args : Array Value} {below : List Frame} {meth : Method} {c : Code} {Q : State → Prop} {A : Nat → Prop} {g : Gw} {post : Int32 → Wd → Prop}  (hC : Cx p s m args c cX11_numeral RX11 4 g) (hR : RtI tabM p l e (rk 3) s m args below meth c Q cX11_numeral A g post)  : ∀ (x1 : Int32) (w : Wd) (H : Heap) (locs : List Loc) (ls : Array Slot), pX11_numeral_44 post x1 w → St tabM A s.heap g w H locs → lv_has ls 4 [(0, .ref (g.2.2 300)), (1, .int x1)] → W p l e (rk 3) s m args below meth c H locs 0 0 Q (F0 m 44 ls []) := by
  have hx := hC.1
  have hb := hC.2.1
  intro x1 w H locs ls hp hS hl
  unfold pX11_numeral_44 at hp
  refine lv_aload_n hx hb dX11_numeral_44 rfl (lv_at hl 0 rfl) ?_
  refine lv_iconst hx hb dX11_numeral_45 kI_4 ?_
  refine lv_aload_n hx hb dX11_numeral_46 rfl (lv_at hl 0 rfl) ?_
  refine G_300_6 hC hS m478 dX11_numeral_47 ?_
  refine q_cvV (As := [.int (4 : Int32), .int (w.1 300 6)]) (rest := []) hC hS hl.1 (rX11_fails hp) cwX11_227 yvX11_fails (rcv_300 hC hS) rfl rfl (Nat.le_of_ble_eq_true rfl) (rmk (by decide) (by decide)) dX11_numeral_50 (fun w_1 H locs hp hS => ?_)
  exact bX11_numeral_53 hC hR x1 w_1 _ _ _ hp hS (lv_sub hl [0, 1] rfl)
set_option maxHeartbeats 4000000 in
set_option maxRecDepth 100000 in
theorem bX11_numeral_21 {p : Program} {l : Launch} {e : Env} {s : State} {m : MethodId} {args : Array Value} {below : List Frame} {meth : Method} {c : Code} {Q : State → Prop} {A : Nat → Prop} {g : Gw} {post : Int32 → Wd → Prop}  (hC : Cx p s m args c cX11_numeral RX11 4 g) (hR : RtI tabM p l e (rk 3) s m args below meth c Q cX11_numeral A g post)  : ∀ (x1 : Int32) (x2 : Int32) (w : Wd) (H : Heap) (locs : List Loc) (ls : Array Slot), pX11_numeral_21 post x1 x2 w → St tabM A s.heap g w H locs → lv_has ls 4 [(0, .ref (g.2.2 300)), (1, .int x1), (2, .int x2)] → W p l e (rk 3) s m args below meth c H locs 0 0 Q (F0 m 21 ls []) := by
  have hx := hC.1
  have hb := hC.2.1
  intro x1 x2 w H locs ls hp hS hl
  unfold pX11_numeral_21 at hp
  refine lv_aload_n hx hb dX11_numeral_21 rfl (lv_at hl 0 rfl) ?_
  refine q_cvI (As := []) (rest := []) hC hS hl.1 (rX11_isGood hp) cwX11_231 yvX11_isGood (rcv_300 hC hS) rfl rfl (Nat.le_of_ble_eq_true rfl) (rmk (by decide) (by decide)) dX11_numeral_22 (fun r_1 w_2 H locs hp hS => ?_)
  refine lv_if_eq (tgt := 53) hx hb dX11_numeral_25 (by decide) (fun c_3 => ?_) (fun c_3 => ?_)
  · have hp := hp.1 c_3
    exact bX11_numeral_53 hC hR x1 w_2 _ _ _ hp hS (lv_sub hl [0, 1] rfl)
  · have hp := hp.2 c_3
    refine lv_aload_n hx hb dX11_numeral_28 rfl (lv_at hl 0 rfl) ?_
    refine G_300_9 hC hS m480 dX11_numeral_29 ?_
    refine lv_iload_n hx hb dX11_numeral_32 rfl (lv_at hl 1 rfl) ?_
    refine lv_icmp_lt (tgt := 44) hx hb dX11_numeral_33 (by decide) (fun c_4 => ?_) (fun c_4 => ?_)
    · have hp := hp.1 c_4
      exact bX11_numeral_44 hC hR x1 w_2 _ _ _ hp hS (lv_sub hl [0, 1] rfl)
    · have hp := hp.2 c_4
      refine lv_aload_n hx hb dX11_numeral_36 rfl (lv_at hl 0 rfl) ?_
      refine G_300_9 hC hS m480 dX11_numeral_37 ?_
      refine lv_iload_n hx hb dX11_numeral_40 rfl (lv_at hl 2 rfl) ?_
      refine lv_icmp_le (tgt := 53) hx hb dX11_numeral_41 (by decide) (fun c_5 => ?_) (fun c_5 => ?_)
      · have hp := hp.1 c_5
        exact bX11_numeral_53 hC hR x1 w_2 _ _ _ hp hS (lv_sub hl [0, 1] rfl)
      · have hp := hp.2 c_5
        exact bX11_numeral_44 hC hR x1 w_2 _ _ _ hp hS (lv_sub hl [0, 1] rfl)
set_option maxHeartbeats 4000000 in
set_option maxRecDepth 100000 in
theorem rX11_numeral {l : Launch} {g : Gw} {w : Wd} {post : Int32 → Wd → Prop}   {x1 : Int32} {x2 : Int32} (hp : pX11_numeral post x1 x2 w) : MtI tabM l yX11_numeral cX11_numeral 4 (some .int) 3 g w [.ref (g.2.2 300), .int x1, .int x2] post := by
  refine q_entI tabM_nd (by decide) rfl (Nat.le_of_ble_eq_true rfl) ?_
  intro p e s m args below meth c A Q ls hC hR hS hl
  have hx := hC.1
  have hb := hC.2.1
  have hl : lv_has ls 4 [(0, .ref (g.2.2 300)), (1, .int x1), (2, .int x2)] := hl
  unfold pX11_numeral at hp
  refine lv_aload_n hx hb dX11_numeral_0 rfl (lv_at hl 0 rfl) ?_
  refine q_cvI (As := []) (rest := []) hC hS hl.1 (rX11_isGood hp) cwX11_231 yvX11_isGood (rcv_300 hC hS) rfl rfl (Nat.le_of_ble_eq_true rfl) (rmk (by decide) (by decide)) dX11_numeral_1 (fun r_1 w_2 H locs hp hS => ?_)
  refine lv_if_ne (tgt := 9) hx hb dX11_numeral_4 (by decide) (fun c_3 => ?_) (fun c_3 => ?_)
  · have hp := hp.1 c_3
    refine lv_aload_n hx hb dX11_numeral_9 rfl (lv_at hl 0 rfl) ?_
    refine G_300_8 hC hS m473 dX11_numeral_10 ?_
    refine lv_iconst hx hb dX11_numeral_13 kI_4 ?_
    refine lv_icmp_eq (tgt := 21) hx hb dX11_numeral_14 (by decide) (fun c_4 => ?_) (fun c_4 => ?_)
    · have hp := hp.1 c_4
      exact bX11_numeral_21 hC hR x1 x2 w_2 _ _ _ hp hS (lv_sub hl [0, 1, 2] rfl)
    · have hp := hp.2 c_4
      refine lv_aload_n hx hb dX11_numeral_17 rfl (lv_at hl 0 rfl) ?_
      refine q_cvV (As := []) (rest := []) hC hS hl.1 (rX11_misplaced hp) cwX11_238 yvX11_misplaced (rcv_300 hC hS) rfl rfl (Nat.le_of_ble_eq_true rfl) (rmk (by decide) (by decide)) dX11_numeral_18 (fun w_5 H locs hp hS => ?_)
      exact bX11_numeral_21 hC hR x1 x2 w_5 _ _ _ hp hS (lv_sub hl [0, 1, 2] rfl)
  · have hp := hp.2 c_3
    refine lv_iload_n hx hb dX11_numeral_7 rfl (lv_at hl 1 rfl) ?_
    exact hR _ _ _ _ _ _ dX11_numeral_8 hp hS
def pX11_readFirst_104 (k12 : Int32 → Wd → Prop) (post : Wd → Prop) (t0 : Int32) (w : Wd) : Prop := k12 t0 w
def pX11_readFirst_76 (k12 : Int32 → Wd → Prop) (post : Wd → Prop) (x3 : Int32) (w : Wd) : Prop := vp_in (w.1 300 30) 2 ∧ vp_in (w.1 300 30) 2 ∧ ∀ w_1, w_1 = sA w 313 (w.1 300 30).toNatClampNeg ((w.2.1 313 (w.1 300 30).toNatClampNeg) ||| ((1 : Int32) <<< (x3 &&& 31))) → (¬ (w_1.1 300 8) = (4 : Int32) → (pX11_readFirst_104 k12 post (0 : Int32) w_1)) ∧ ((w_1.1 300 8) = (4 : Int32) → (pX11_readFirst_104 k12 post (1 : Int32) w_1))
def pX11_readFirst_12 (post : Wd → Prop) : Nat → Int32 → Wd → Prop
  | 0, _, _ => False
  | n + 1, x1, w => pX11_isGood (fun r_1 w_2 => (r_1 = 0 → (post w_2)) ∧ (¬ r_1 = 0 → ((x1 = 0 → (post w_2)) ∧ (¬ x1 = 0 → (∀ x2_5, x2_5 = (w_2.1 300 6) → vp_in (w_2.1 300 30) 2 ∧ pX11_numeral (fun r_6 w_7 => pX11_isGood (fun r_8 w_9 => (¬ r_8 = 0 → (vp_in (w_9.1 300 30) 2 ∧ (¬ (((w_9.2.1 313 (w_9.1 300 30).toNatClampNeg) >>> (r_6 &&& 31)) &&& (1 : Int32)) = (1 : Int32) → (pX11_readFirst_76 (pX11_readFirst_12 post n) post r_6 w_9)) ∧ ((((w_9.2.1 313 (w_9.1 300 30).toNatClampNeg) >>> (r_6 &&& 31)) &&& (1 : Int32)) = (1 : Int32) → (pX11_fails (fun w_12 => pX11_readFirst_76 (pX11_readFirst_12 post n) post r_6 w_12) (3 : Int32) x2_5 w_9)))) ∧ (r_8 = 0 → (post w_9))) w_7) (0 : Int32) ((w_2.2.1 312 (w_2.1 300 30).toNatClampNeg) - (1 : Int32)) w_2))))) w
def pX11_readFirst (post : Wd → Prop)  (w : Wd) : Prop := vp_in (w.1 300 30) 2 ∧ ∀ w_1, w_1 = sA w 321 (w.1 300 30).toNatClampNeg (vp_nar .boolean (1 : Int32)) → ∃ n9, pX11_readFirst_12 post n9 (1 : Int32) w_1
set_option maxHeartbeats 4000000 in
set_option maxRecDepth 100000 in
theorem bX11_readFirst_104 {p : Program} {l : Launch} {e : Env} {s : State} {m : MethodId} {args : Array Value} {below : List Frame} {meth : Method} {c : Code} {Q : State → Prop} {A : Nat → Prop} {g : Gw} {post : Wd → Prop}  (hC : Cx p s m args c cX11_readFirst RX11 4 g) (hR : RtV tabM p l e (rk 4) s m args below meth c Q cX11_readFirst A g post)  {k12 : Int32 → Wd → Prop} (hk12 : ∀ (x1 : Int32) (w : Wd) (H : Heap) (locs : List Loc) (ls : Array Slot), k12 x1 w → St tabM A s.heap g w H locs → lv_has ls 4 [(0, .ref (g.2.2 300)), (1, .int x1)] → W p l e (rk 4) s m args below meth c H locs 0 0 Q (F0 m 12 ls [])) : ∀ (t0 : Int32) (w : Wd) (H : Heap) (locs : List Loc) (ls : Array Slot), pX11_readFirst_104 k12 post t0 w → St tabM A s.heap g w H locs → lv_has ls 4 [(0, .ref (g.2.2 300))] → W p l e (rk 4) s m args below meth c H locs 0 0 Q (F0 m 104 ls [.int t0]) := by
  have hx := hC.1
  have hb := hC.2.1
  intro t0 w H locs ls hp hS hl
  unfold pX11_readFirst_104 at hp
  refine lv_istore_n (lv' := [(1, .int t0), (0, .ref (g.2.2 300))]) hx hb dX11_readFirst_104 rfl hl (by decide) rfl (fun ls hl => ?_)
  refine lv_goto (tgt := 12) hx hb dX11_readFirst_105 (by decide) ?_
  exact hk12 t0 w _ _ _ hp hS (lv_sub hl [1, 0] rfl)
set_option maxHeartbeats 4000000 in
set_option maxRecDepth 100000 in
theorem bX11_readFirst_76 {p : Program} {l : Launch} {e : Env} {s : State} {m : MethodId} {args : Array Value} {below : List Frame} {meth : Method} {c : Code} {Q : State → Prop} {A : Nat → Prop} {g : Gw} {post : Wd → Prop}  (hC : Cx p s m args c cX11_readFirst RX11 4 g) (hR : RtV tabM p l e (rk 4) s m args below meth c Q cX11_readFirst A g post)  {k12 : Int32 → Wd → Prop} (hk12 : ∀ (x1 : Int32) (w : Wd) (H : Heap) (locs : List Loc) (ls : Array Slot), k12 x1 w → St tabM A s.heap g w H locs → lv_has ls 4 [(0, .ref (g.2.2 300)), (1, .int x1)] → W p l e (rk 4) s m args below meth c H locs 0 0 Q (F0 m 12 ls [])) : ∀ (x3 : Int32) (w : Wd) (H : Heap) (locs : List Loc) (ls : Array Slot), pX11_readFirst_76 k12 post x3 w → St tabM A s.heap g w H locs → lv_has ls 4 [(0, .ref (g.2.2 300)), (3, .int x3)] → W p l e (rk 4) s m args below meth c H locs 0 0 Q (F0 m 76 ls []) := by
  have hx := hC.1
  have hb := hC.2.1
  intro x3 w H locs ls hp hS hl
  unfold pX11_readFirst_76 at hp
  refine lv_aload_n hx hb dX11_readFirst_76 rfl (lv_at hl 0 rfl) ?_
  refine G_300_12 hC hS m257 dX11_readFirst_77 ?_
  refine lv_aload_n hx hb dX11_readFirst_80 rfl (lv_at hl 0 rfl) ?_
  refine G_300_30 hC hS m302 dX11_readFirst_81 ?_
  refine lv_dup2_11 hx hb dX11_readFirst_84 rfl rfl ?_
  refine La_313 hC hS hp.1 dX11_readFirst_85 ?_
  have hp := hp.2
  refine lv_iconst hx hb dX11_readFirst_86 kI_1 ?_
  refine lv_iload_n hx hb dX11_readFirst_87 rfl (lv_at hl 1 rfl) ?_
  refine lv_ishl hx hb dX11_readFirst_88 ?_
  refine lv_ior hx hb dX11_readFirst_89 ?_
  refine Sa_313 hC hS hp.1 dX11_readFirst_90 (fun w_1 H locs ew_1 hS => ?_)
  have hp := hp.2
  have hp := hp w_1 ew_1
  refine lv_aload_n hx hb dX11_readFirst_91 rfl (lv_at hl 0 rfl) ?_
  refine G_300_8 hC hS m473 dX11_readFirst_92 ?_
  refine lv_iconst hx hb dX11_readFirst_95 kI_4 ?_
  refine lv_icmp_ne (tgt := 103) hx hb dX11_readFirst_96 (by decide) (fun c_2 => ?_) (fun c_2 => ?_)
  · have hp := hp.1 c_2
    refine lv_iconst hx hb dX11_readFirst_103 kI_0 ?_
    exact bX11_readFirst_104 hC hR hk12 (0 : Int32) w_1 _ _ _ hp hS (lv_sub hl [0] rfl)
  · have hp := hp.2 c_2
    refine lv_iconst hx hb dX11_readFirst_99 kI_1 ?_
    refine lv_goto (tgt := 104) hx hb dX11_readFirst_100 (by decide) ?_
    exact bX11_readFirst_104 hC hR hk12 (1 : Int32) w_1 _ _ _ hp hS (lv_sub hl [0] rfl)
set_option maxHeartbeats 4000000 in
set_option maxRecDepth 100000 in
theorem bX11_readFirst_12 {p : Program} {l : Launch} {e : Env} {s : State} {m : MethodId} {args : Array Value} {below : List Frame} {meth : Method} {c : Code} {Q : State → Prop} {A : Nat → Prop} {g : Gw} {post : Wd → Prop}  (hC : Cx p s m args c cX11_readFirst RX11 4 g) (hR : RtV tabM p l e (rk 4) s m args below meth c Q cX11_readFirst A g post)  : ∀ (n : Nat) (x1 : Int32) (w : Wd) (H : Heap) (locs : List Loc) (ls : Array Slot), pX11_readFirst_12 post n x1 w → St tabM A s.heap g w H locs → lv_has ls 4 [(0, .ref (g.2.2 300)), (1, .int x1)] → W p l e (rk 4) s m args below meth c H locs 0 0 Q (F0 m 12 ls []) := by
  have hx := hC.1
  have hb := hC.2.1
  intro n
  induction n with
  | zero =>
    intro x1 w H locs ls hp hS hl
    exact False.elim hp
  | succ n ih =>
    intro x1 w H locs ls hp hS hl
    unfold pX11_readFirst_12 at hp
    refine lv_aload_n hx hb dX11_readFirst_12 rfl (lv_at hl 0 rfl) ?_
    refine q_cvI (As := []) (rest := []) hC hS hl.1 (rX11_isGood hp) cwX11_231 yvX11_isGood (rcv_300 hC hS) rfl rfl (Nat.le_of_ble_eq_true rfl) (rmk (by decide) (by decide)) dX11_readFirst_13 (fun r_1 w_2 H locs hp hS => ?_)
    refine lv_if_eq (tgt := 108) hx hb dX11_readFirst_16 (by decide) (fun c_3 => ?_) (fun c_3 => ?_)
    · have hp := hp.1 c_3
      exact hR _ _ _ _ _ dX11_readFirst_108 hp hS
    · have hp := hp.2 c_3
      refine lv_iload_n hx hb dX11_readFirst_19 rfl (lv_at hl 1 rfl) ?_
      refine lv_if_eq (tgt := 108) hx hb dX11_readFirst_20 (by decide) (fun c_4 => ?_) (fun c_4 => ?_)
      · have hp := hp.1 c_4
        exact hR _ _ _ _ _ dX11_readFirst_108 hp hS
      · have hp := hp.2 c_4
        refine lv_aload_n hx hb dX11_readFirst_23 rfl (lv_at hl 0 rfl) ?_
        refine G_300_6 hC hS m478 dX11_readFirst_24 ?_
        refine lv_topi (fun x2_5 ex2_5 => ?_)
        have hp := hp x2_5 ex2_5
        refine lv_istore_n (lv' := [(2, .int x2_5), (0, .ref (g.2.2 300)), (1, .int x1)]) hx hb dX11_readFirst_27 rfl hl (by decide) rfl (fun ls hl => ?_)
        refine lv_aload_n hx hb dX11_readFirst_28 rfl (lv_at hl 1 rfl) ?_
        refine lv_iconst hx hb dX11_readFirst_29 kI_0 ?_
        refine lv_aload_n hx hb dX11_readFirst_30 rfl (lv_at hl 1 rfl) ?_
        refine G_300_11 hC hS m256 dX11_readFirst_31 ?_
        refine lv_aload_n hx hb dX11_readFirst_34 rfl (lv_at hl 1 rfl) ?_
        refine G_300_30 hC hS m302 dX11_readFirst_35 ?_
        refine La_312 hC hS hp.1 dX11_readFirst_38 ?_
        have hp := hp.2
        refine lv_iconst hx hb dX11_readFirst_39 kI_1 ?_
        refine lv_isub hx hb dX11_readFirst_40 ?_
        refine q_cvI (As := [.int (0 : Int32), .int ((w_2.2.1 312 (w_2.1 300 30).toNatClampNeg) - (1 : Int32))]) (rest := []) hC hS hl.1 (rX11_numeral hp) cwX11_262 yvX11_numeral (rcv_300 hC hS) rfl rfl (Nat.le_of_ble_eq_true rfl) (rmk (by decide) (by decide)) dX11_readFirst_41 (fun r_6 w_7 H locs hp hS => ?_)
        refine lv_istore_n (lv' := [(3, .int r_6), (2, .int x2_5), (0, .ref (g.2.2 300)), (1, .int x1)]) hx hb dX11_readFirst_44 rfl hl (by decide) rfl (fun ls hl => ?_)
        refine lv_aload_n hx hb dX11_readFirst_45 rfl (lv_at hl 2 rfl) ?_
        refine q_cvI (As := []) (rest := []) hC hS hl.1 (rX11_isGood hp) cwX11_231 yvX11_isGood (rcv_300 hC hS) rfl rfl (Nat.le_of_ble_eq_true rfl) (rmk (by decide) (by decide)) dX11_readFirst_46 (fun r_8 w_9 H locs hp hS => ?_)
        refine lv_if_ne (tgt := 53) hx hb dX11_readFirst_49 (by decide) (fun c_10 => ?_) (fun c_10 => ?_)
        · have hp := hp.1 c_10
          refine lv_aload_n hx hb dX11_readFirst_53 rfl (lv_at hl 2 rfl) ?_
          refine G_300_12 hC hS m257 dX11_readFirst_54 ?_
          refine lv_aload_n hx hb dX11_readFirst_57 rfl (lv_at hl 2 rfl) ?_
          refine G_300_30 hC hS m302 dX11_readFirst_58 ?_
          refine La_313 hC hS hp.1 dX11_readFirst_61 ?_
          have hp := hp.2
          refine lv_iload_n hx hb dX11_readFirst_62 rfl (lv_at hl 0 rfl) ?_
          refine lv_ishr hx hb dX11_readFirst_63 ?_
          refine lv_iconst hx hb dX11_readFirst_64 kI_1 ?_
          refine lv_iand hx hb dX11_readFirst_65 ?_
          refine lv_iconst hx hb dX11_readFirst_66 kI_1 ?_
          refine lv_icmp_ne (tgt := 76) hx hb dX11_readFirst_67 (by decide) (fun c_11 => ?_) (fun c_11 => ?_)
          · have hp := hp.1 c_11
            exact bX11_readFirst_76 hC hR ih r_6 w_9 _ _ _ hp hS (lv_sub hl [2, 0] rfl)
          · have hp := hp.2 c_11
            refine lv_aload_n hx hb dX11_readFirst_70 rfl (lv_at hl 2 rfl) ?_
            refine lv_iconst hx hb dX11_readFirst_71 kI_3 ?_
            refine lv_iload_n hx hb dX11_readFirst_72 rfl (lv_at hl 1 rfl) ?_
            refine q_cvV (As := [.int (3 : Int32), .int x2_5]) (rest := []) hC hS hl.1 (rX11_fails hp) cwX11_227 yvX11_fails (rcv_300 hC hS) rfl rfl (Nat.le_of_ble_eq_true rfl) (rmk (by decide) (by decide)) dX11_readFirst_73 (fun w_12 H locs hp hS => ?_)
            exact bX11_readFirst_76 hC hR ih r_6 w_12 _ _ _ hp hS (lv_sub hl [2, 0] rfl)
        · have hp := hp.2 c_10
          exact hR _ _ _ _ _ dX11_readFirst_52 hp hS
set_option maxHeartbeats 4000000 in
set_option maxRecDepth 100000 in
theorem rX11_readFirst {l : Launch} {g : Gw} {w : Wd} {post : Wd → Prop}    (hp : pX11_readFirst post  w) : MtV tabM l yX11_readFirst cX11_readFirst 4 none 4 g w [.ref (g.2.2 300)] post := by
  refine q_entV tabM_nd (by decide) rfl (Nat.le_of_ble_eq_true rfl) ?_
  intro p e s m args below meth c A Q ls hC hR hS hl
  have hx := hC.1
  have hb := hC.2.1
  have hl : lv_has ls 4 [(0, .ref (g.2.2 300))] := hl
  unfold pX11_readFirst at hp
  refine lv_aload_n hx hb dX11_readFirst_0 rfl (lv_at hl 0 rfl) ?_
  refine G_300_20 hC hS m265 dX11_readFirst_1 ?_
  refine lv_aload_n hx hb dX11_readFirst_4 rfl (lv_at hl 0 rfl) ?_
  refine G_300_30 hC hS m302 dX11_readFirst_5 ?_
  refine lv_iconst hx hb dX11_readFirst_8 kI_1 ?_
  refine Sa_321 hC hS hp.1 dX11_readFirst_9 (fun w_1 H locs ew_1 hS => ?_)
  have hp := hp.2
  have hp := hp w_1 ew_1
  refine lv_iconst hx hb dX11_readFirst_10 kI_1 ?_
  refine lv_istore_n (lv' := [(1, .int (1 : Int32)), (0, .ref (g.2.2 300))]) hx hb dX11_readFirst_11 rfl hl (by decide) rfl (fun ls hl => ?_)
  obtain ⟨n9, hp⟩ := hp
  exact bX11_readFirst_12 hC hR n9 (1 : Int32) w_1 _ _ _ hp hS (lv_sub hl [1, 0] rfl)
def pX11_handHere_46 (k2 : Int32 → Wd → Prop) (post : Int32 → Wd → Prop) (x1 : Int32) (w : Wd) : Prop := ∀ x1_1, x1_1 = x1 + (1 : Int32) → k2 x1_1 w
def pX11_handHere_2 (post : Int32 → Wd → Prop) : Nat → Int32 → Wd → Prop
  | 0, _, _ => False
  | n + 1, x1, w => vp_in (w.1 300 30) 2 ∧ ((w.2.1 314 (w.1 300 30).toNatClampNeg) ≤ x1 → (post (-1 : Int32) w)) ∧ (¬ (w.2.1 314 (w.1 300 30).toNatClampNeg) ≤ x1 → ((¬ (w.1 300 8) = (2 : Int32) → (pX11_handHere_46 (pX11_handHere_2 post n) post x1 w)) ∧ ((w.1 300 8) = (2 : Int32) → (vp_in (((4 : Int32) * (w.1 300 30)) + x1) 8 ∧ (¬ (lg_cmp (w.2.2.2.1 324 (((4 : Int32) * (w.1 300 30)) + x1).toNatClampNeg) (w.2.2.1 300 10)) = 0 → (pX11_handHere_46 (pX11_handHere_2 post n) post x1 w)) ∧ ((lg_cmp (w.2.2.2.1 324 (((4 : Int32) * (w.1 300 30)) + x1).toNatClampNeg) (w.2.2.1 300 10)) = 0 → (post x1 w))))))
def pX11_handHere (post : Int32 → Wd → Prop)  (w : Wd) : Prop := ∃ n9, pX11_handHere_2 post n9 (0 : Int32) w
set_option maxHeartbeats 4000000 in
set_option maxRecDepth 100000 in
theorem bX11_handHere_46 {p : Program} {l : Launch} {e : Env} {s : State} {m : MethodId} {args : Array Value} {below : List Frame} {meth : Method} {c : Code} {Q : State → Prop} {A : Nat → Prop} {g : Gw} {post : Int32 → Wd → Prop}  (hC : Cx p s m args c cX11_handHere RX11 2 g) (hR : RtI tabM p l e (rk 1) s m args below meth c Q cX11_handHere A g post)  {k2 : Int32 → Wd → Prop} (hk2 : ∀ (x1 : Int32) (w : Wd) (H : Heap) (locs : List Loc) (ls : Array Slot), k2 x1 w → St tabM A s.heap g w H locs → lv_has ls 2 [(0, .ref (g.2.2 300)), (1, .int x1)] → W p l e (rk 1) s m args below meth c H locs 0 0 Q (F0 m 2 ls [])) : ∀ (x1 : Int32) (w : Wd) (H : Heap) (locs : List Loc) (ls : Array Slot), pX11_handHere_46 k2 post x1 w → St tabM A s.heap g w H locs → lv_has ls 2 [(0, .ref (g.2.2 300)), (1, .int x1)] → W p l e (rk 1) s m args below meth c H locs 0 0 Q (F0 m 46 ls []) := by
  have hx := hC.1
  have hb := hC.2.1
  intro x1 w H locs ls hp hS hl
  unfold pX11_handHere_46 at hp
  obtain ⟨x1_1, ex1_1⟩ : ∃ y : Int32, y = x1 + (1 : Int32) := ⟨_, rfl⟩
  have hp := hp x1_1 ex1_1
  refine lv_iinc (v := x1_1) (lv' := [(1, .int x1_1), (0, .ref (g.2.2 300))]) hx hb dX11_handHere_46 hl (k := 1) rfl (by rw [ex1_1]; rfl) (by decide) rfl (fun ls hl => ?_)
  refine lv_goto (tgt := 2) hx hb dX11_handHere_49 (by decide) ?_
  exact hk2 x1_1 w _ _ _ hp hS (lv_sub hl [1, 0] rfl)
set_option maxHeartbeats 4000000 in
set_option maxRecDepth 100000 in
theorem bX11_handHere_2 {p : Program} {l : Launch} {e : Env} {s : State} {m : MethodId} {args : Array Value} {below : List Frame} {meth : Method} {c : Code} {Q : State → Prop} {A : Nat → Prop} {g : Gw} {post : Int32 → Wd → Prop}  (hC : Cx p s m args c cX11_handHere RX11 2 g) (hR : RtI tabM p l e (rk 1) s m args below meth c Q cX11_handHere A g post)  : ∀ (n : Nat) (x1 : Int32) (w : Wd) (H : Heap) (locs : List Loc) (ls : Array Slot), pX11_handHere_2 post n x1 w → St tabM A s.heap g w H locs → lv_has ls 2 [(0, .ref (g.2.2 300)), (1, .int x1)] → W p l e (rk 1) s m args below meth c H locs 0 0 Q (F0 m 2 ls []) := by
  have hx := hC.1
  have hb := hC.2.1
  intro n
  induction n with
  | zero =>
    intro x1 w H locs ls hp hS hl
    exact False.elim hp
  | succ n ih =>
    intro x1 w H locs ls hp hS hl
    unfold pX11_handHere_2 at hp
    refine lv_iload_n hx hb dX11_handHere_2 rfl (lv_at hl 1 rfl) ?_
    refine lv_aload_n hx hb dX11_handHere_3 rfl (lv_at hl 0 rfl) ?_
    refine G_300_13 hC hS m258 dX11_handHere_4 ?_
    refine lv_aload_n hx hb dX11_handHere_7 rfl (lv_at hl 0 rfl) ?_
    refine G_300_30 hC hS m302 dX11_handHere_8 ?_
    refine La_314 hC hS hp.1 dX11_handHere_11 ?_
    have hp := hp.2
    refine lv_icmp_ge (tgt := 52) hx hb dX11_handHere_12 (by decide) (fun c_1 => ?_) (fun c_1 => ?_)
    · have hp := hp.1 c_1
      refine lv_iconst hx hb dX11_handHere_52 kI_m1 ?_
      exact hR _ _ _ _ _ _ dX11_handHere_53 hp hS
    · have hp := hp.2 c_1
      refine lv_aload_n hx hb dX11_handHere_15 rfl (lv_at hl 0 rfl) ?_
      refine G_300_8 hC hS m473 dX11_handHere_16 ?_
      refine lv_iconst hx hb dX11_handHere_19 kI_2 ?_
      refine lv_icmp_ne (tgt := 46) hx hb dX11_handHere_20 (by decide) (fun c_2 => ?_) (fun c_2 => ?_)
      · have hp := hp.1 c_2
        exact bX11_handHere_46 hC hR ih x1 w _ _ _ hp hS (lv_sub hl [0, 1] rfl)
      · have hp := hp.2 c_2
        refine lv_aload_n hx hb dX11_handHere_23 rfl (lv_at hl 0 rfl) ?_
        refine G_300_23 hC hS m268 dX11_handHere_24 ?_
        refine lv_iconst hx hb dX11_handHere_27 kI_4 ?_
        refine lv_aload_n hx hb dX11_handHere_28 rfl (lv_at hl 0 rfl) ?_
        refine G_300_30 hC hS m302 dX11_handHere_29 ?_
        refine lv_imul hx hb dX11_handHere_32 ?_
        refine lv_iload_n hx hb dX11_handHere_33 rfl (lv_at hl 1 rfl) ?_
        refine lv_iadd hx hb dX11_handHere_34 ?_
        refine La_324 hC hS hp.1 dX11_handHere_35 ?_
        have hp := hp.2
        refine lv_aload_n hx hb dX11_handHere_36 rfl (lv_at hl 0 rfl) ?_
        refine G_300_10 hC hS m479 dX11_handHere_37 ?_
        refine W.lcmp hx hb dX11_handHere_40 ?_
        refine lv_if_ne (tgt := 46) hx hb dX11_handHere_41 (by decide) (fun c_3 => ?_) (fun c_3 => ?_)
        · have hp := hp.1 c_3
          exact bX11_handHere_46 hC hR ih x1 w _ _ _ hp hS (lv_sub hl [0, 1] rfl)
        · have hp := hp.2 c_3
          refine lv_iload_n hx hb dX11_handHere_44 rfl (lv_at hl 1 rfl) ?_
          exact hR _ _ _ _ _ _ dX11_handHere_45 hp hS
set_option maxHeartbeats 4000000 in
set_option maxRecDepth 100000 in
theorem rX11_handHere {l : Launch} {g : Gw} {w : Wd} {post : Int32 → Wd → Prop}    (hp : pX11_handHere post  w) : MtI tabM l yX11_handHere cX11_handHere 2 (some .int) 1 g w [.ref (g.2.2 300)] post := by
  refine q_entI tabM_nd (by decide) rfl (Nat.le_of_ble_eq_true rfl) ?_
  intro p e s m args below meth c A Q ls hC hR hS hl
  have hx := hC.1
  have hb := hC.2.1
  have hl : lv_has ls 2 [(0, .ref (g.2.2 300))] := hl
  unfold pX11_handHere at hp
  refine lv_iconst hx hb dX11_handHere_0 kI_0 ?_
  refine lv_istore_n (lv' := [(1, .int (0 : Int32)), (0, .ref (g.2.2 300))]) hx hb dX11_handHere_1 rfl hl (by decide) rfl (fun ls hl => ?_)
  obtain ⟨n9, hp⟩ := hp
  exact bX11_handHere_2 hC hR n9 (0 : Int32) w _ _ _ hp hS (lv_sub hl [1, 0] rfl)
def pX11_emit (post : Wd → Prop) (x1 : Int32) (x2 : Int32) (w : Wd) : Prop := vp_in (w.1 300 31) 1120 ∧ ∀ w_1, w_1 = sA w 325 (w.1 300 31).toNatClampNeg x1 → vp_in (w_1.1 300 31) 1120 ∧ ∀ w_2, w_2 = sA w_1 326 (w_1.1 300 31).toNatClampNeg x2 → ∀ w_3, w_3 = sI w_2 300 31 ((w_2.1 300 31) + (1 : Int32)) → post w_3
set_option maxHeartbeats 4000000 in
set_option maxRecDepth 100000 in
theorem rX11_emit {l : Launch} {g : Gw} {w : Wd} {post : Wd → Prop}   {x1 : Int32} {x2 : Int32} (hp : pX11_emit post x1 x2 w) : MtV tabM l yX11_emit cX11_emit 3 none 1 g w [.ref (g.2.2 300), .int x1, .int x2] post := by
  refine q_entV tabM_nd (by decide) rfl (Nat.le_of_ble_eq_true rfl) ?_
  intro p e s m args below meth c A Q ls hC hR hS hl
  have hx := hC.1
  have hb := hC.2.1
  have hl : lv_has ls 3 [(0, .ref (g.2.2 300)), (1, .int x1), (2, .int x2)] := hl
  unfold pX11_emit at hp
  refine lv_aload_n hx hb dX11_emit_0 rfl (lv_at hl 0 rfl) ?_
  refine G_300_24 hC hS m269 dX11_emit_1 ?_
  refine lv_aload_n hx hb dX11_emit_4 rfl (lv_at hl 0 rfl) ?_
  refine G_300_31 hC hS m303 dX11_emit_5 ?_
  refine lv_iload_n hx hb dX11_emit_8 rfl (lv_at hl 1 rfl) ?_
  refine Sa_325 hC hS hp.1 dX11_emit_9 (fun w_1 H locs ew_1 hS => ?_)
  have hp := hp.2
  have hp := hp w_1 ew_1
  refine lv_aload_n hx hb dX11_emit_10 rfl (lv_at hl 0 rfl) ?_
  refine G_300_25 hC hS m270 dX11_emit_11 ?_
  refine lv_aload_n hx hb dX11_emit_14 rfl (lv_at hl 0 rfl) ?_
  refine G_300_31 hC hS m303 dX11_emit_15 ?_
  refine lv_iload_n hx hb dX11_emit_18 rfl (lv_at hl 2 rfl) ?_
  refine Sa_326 hC hS hp.1 dX11_emit_19 (fun w_2 H locs ew_2 hS => ?_)
  have hp := hp.2
  have hp := hp w_2 ew_2
  refine lv_aload_n hx hb dX11_emit_20 rfl (lv_at hl 0 rfl) ?_
  refine lv_dup hx hb dX11_emit_21 rfl ?_
  refine G_300_31 hC hS m303 dX11_emit_22 ?_
  refine lv_iconst hx hb dX11_emit_25 kI_1 ?_
  refine lv_iadd hx hb dX11_emit_26 ?_
  refine P_300_31 hC hS m303 dX11_emit_27 (fun w_3 H locs ew_3 hS => ?_)
  have hp := hp w_3 ew_3
  exact hR _ _ _ _ _ dX11_emit_30 hp hS
