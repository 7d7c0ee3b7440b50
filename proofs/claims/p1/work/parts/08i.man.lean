/-! ===== chancery of an empty TAPE ===== -/
def JX (b : Bool) (v : Int32) (w : Wd) : Prop := w.2.2.2.2 0 = b ∧ w.1 (rl b) 2 = v
theorem rl_ne {b : Bool} {o : Nat} (h1 : o ≠ 120) (h2 : o ≠ 140) : rl b ≠ o := by
  cases b
  · exact fun z => h1 z.symm
  · exact fun z => h2 z.symm
theorem JX_sI {b : Bool} {v x : Int32} {w : Wd} {o f : Nat} (h1 : o ≠ 120) (h2 : o ≠ 140) (h : JX b v w) : JX b v (sI w o f x) := ⟨h.1, by rw [rI1, if_neg (fun z => rl_ne h1 h2 z.1)]; exact h.2⟩
theorem JX_sA {b : Bool} {v x : Int32} {w : Wd} {o i : Nat} (h : JX b v w) : JX b v (sA w o i x) := ⟨h.1, h.2⟩
theorem JX_sR {b : Bool} {v : Int32} {w : Wd} {t : Bool} {k : Nat} (hk : k ≠ 0) (h : JX b v w) : JX b v (sR w k t) := ⟨by rw [rR5, if_neg (fun z => hk z.symm)]; exact h.1, h.2⟩
theorem beginAnew_G {post : Wd → Prop} {w : Wd} {b : Bool} {v : Int32} (hJ : JX b v w) (h : ∀ w', JX b v w' → post w') : pX10_beginAnew post w := by
  intro w1 e1
  have J1 : JX b v w1 := by rw [e1]; exact JX_sI (by decide) (by decide) hJ
  intro w2 e2
  have J2 : JX b v w2 := by rw [e2]; exact JX_sR (by decide) J1
  refine ⟨41, ?_⟩
  refine loop_up (fun n x w => pX1_takeRules_7 _ _ n x w) (fun _ w => JX b v w) 40 ?_ ?_ 40 0 w2 rfl J2
  · intro n i w hi hI k
    refine ⟨fun c => absurd c (nI_ge (b := 40) hi (by decide)), fun _ => ⟨vp_lt hi (by decide), fun w2 e2 x e3 => ?_⟩⟩
    rw [e3, nI_1]
    exact k w2 (by rw [e2]; exact JX_sA hI)
  · intro n w hI
    refine ⟨fun _ => ?_, fun c => absurd (by decide) c⟩
    intro a1 e1 a2 e2 a3 e3 a4 e4 a5 e5 a6 e6 a7 e7 a8 e8 a9 e9 a10 e10 a11 e11
    have K5 : JX b v a5 := by rw [e5, e4, e3, e2, e1]; exact JX_sA (JX_sA (JX_sA (JX_sA (JX_sA hI))))
    have K8 : JX b v a8 := by rw [e8, e7, e6]; exact JX_sI (by decide) (by decide) (JX_sI (by decide) (by decide) (JX_sI (by decide) (by decide) K5))
    have K11 : JX b v a11 := by rw [e11, e10, e9]; exact JX_sI (by decide) (by decide) (JX_sI (by decide) (by decide) (JX_sI (by decide) (by decide) K8))
    intro b1 f1 b2 f2 b3 f3 b4 f4
    have L4 : JX b v b4 := by rw [f4, f3, f2, f1]; exact JX_sI (by decide) (by decide) (JX_sI (by decide) (by decide) (JX_sI (by decide) (by decide) (JX_sI (by decide) (by decide) K11)))
    refine ⟨4, ?_⟩
    refine loop_up (fun n x w => pX10_beginAnew_52 post n x w) (fun _ w => JX b v w) 3 ?_ ?_ 3 0 b4 rfl L4
    · intro n i w hi hI k
      refine ⟨fun c => absurd c (nI_ge (b := 3) hi (by decide)), fun _ => ⟨vp_lt hi (by decide), fun w2 e2 x e3 => ?_⟩⟩
      rw [e3, nI_1]
      exact k w2 (by rw [e2]; exact JX_sA hI)
    · intro n w hI
      exact ⟨fun _ => h w hI, fun c => absurd (by decide) c⟩
def JM (v : Int32) (a : Nat → Int32) (w : Wd) : Prop := w.1 300 29 = v ∧ w.2.1 314 = a
theorem JM_sI {v x : Int32} {a : Nat → Int32} {w : Wd} {f : Nat} (hf : f ≠ 29) (h : JM v a w) : JM v a (sI w 300 f x) := ⟨by rw [rI1, if_neg (fun z => hf z.2.symm)]; exact h.1, h.2⟩
theorem JM_sA {v x : Int32} {a : Nat → Int32} {w : Wd} {o i : Nat} (ho : o ≠ 314) (h : JM v a w) : JM v a (sA w o i x) := ⟨h.1, by rw [sA_ne (fun z => ho z.symm)]; exact h.2⟩
theorem startAnew_G {post : Wd → Prop} {w : Wd} {v : Int32} {a : Nat → Int32} (hb : vp_in v 2) (hJ : JM v a w) (h : ∀ w', JM v a w' → post w') : pX11_startAnew post w := by
  refine ⟨222, ?_⟩
  refine loop_up (fun n x w => pX11_startAnew_2 post n x w) (fun _ w => JM v a w) 221 ?_ ?_ 221 0 w rfl hJ
  · intro n i w hi hI k
    refine ⟨fun c => absurd c (nI_ge (b := 221) hi (by decide)), fun _ => ⟨vp_lt hi (by decide), fun w2 e2 x e3 => ?_⟩⟩
    rw [e3, nI_1]
    exact k w2 (by rw [e2]; exact JM_sA (by decide) hI)
  · intro n w hI
    refine ⟨fun _ => ⟨by rw [hI.1]; exact hb, ?_⟩, fun c => absurd (by decide) c⟩
    intro w2 e2 w3 e3 w4 e4 w5 e5
    have J5 : JM v a w5 := by rw [e5, e4, e3, e2]; exact JM_sA (by decide) (JM_sA (by decide) (JM_sA (by decide) (JM_sA (by decide) hI)))
    refine ⟨by rw [J5.1]; exact hb, ?_⟩
    intro w6 e6
    have J6 : JM v a w6 := by rw [e6]; exact JM_sA (by decide) J5
    refine ⟨by rw [J6.1]; exact hb, ?_⟩
    intro w7 e7 w8 e8 w9 e9 w10 e10 w11 e11
    have J11 : JM v a w11 := by rw [e11, e10, e9, e8, e7]; exact JM_sI (by decide) (JM_sI (by decide) (JM_sI (by decide) (JM_sI (by decide) (JM_sA (by decide) J6))))
    refine ⟨4, ?_⟩
    refine loop_up (fun n x w => pX11_startAnew_116 post n x w) (fun _ w => JM v a w) 3 ?_ ?_ 3 0 w11 rfl J11
    · intro n i w hi hI k
      refine ⟨fun c => absurd c (nI_ge (b := 3) hi (by decide)), fun _ => ⟨vp_lt hi (by decide), fun w2 e2 x e3 => ?_⟩⟩
      rw [e3, nI_1]
      exact k w2 (by rw [e2]; exact JM_sA (by decide) hI)
    · intro n w hI
      exact ⟨fun _ => h w hI, fun c => absurd (by decide) c⟩
theorem xX11_chancery_20 {post : Int32 → Wd → Prop} {x1 : Int32} {w : Wd} : (∃ n, pX11_chancery_20 post n x1 w) ↔ (∃ n, pX11_chancery_20 post (n + 1) x1 w) := ⟨fun ⟨n, h⟩ => match n, h with | 0, h => False.elim h | n + 1, h => ⟨n, h⟩, fun ⟨n, h⟩ => ⟨n + 1, h⟩⟩
theorem sX11_chancery_20 {post : Int32 → Wd → Prop} {x1 : Int32} {w : Wd} {n : Nat} : pX11_chancery_20 post (n + 1) x1 w ↔ (((w.1 300 3) ≤ x1 → (∀ w_2, w_2 = sI w 300 2 (0 : Int32) → ∀ w_3, w_3 = sI w_2 300 7 (0 : Int32) → ∀ w_4, w_4 = sI w_3 300 30 ((1 : Int32) - (w_3.1 300 29)) → pX11_clearBank (fun w_5 => pX11_goOn (fun w_6 => ∃ n9, pX11_chancery_74 post n9  w_6) w_5) w_4)) ∧ (¬ (w.1 300 3) ≤ x1 → (vp_in x1 1620 ∧ vp_in x1 1600 ∧ ∀ w_7, w_7 = sA w 302 x1.toNatClampNeg (vp_nar .byte (w.2.1 301 x1.toNatClampNeg)) → ∀ x1_8, x1_8 = x1 + (1 : Int32) → pX11_chancery_20 post n x1_8 w_7))) := Iff.rfl
theorem xX11_chancery_74 {post : Int32 → Wd → Prop} {w : Wd} : (∃ n, pX11_chancery_74 post n w) ↔ (∃ n, pX11_chancery_74 post (n + 1) w) := ⟨fun ⟨n, h⟩ => match n, h with | 0, h => False.elim h | n + 1, h => ⟨n, h⟩, fun ⟨n, h⟩ => ⟨n + 1, h⟩⟩
theorem sX11_chancery_74 {post : Int32 → Wd → Prop} {w : Wd} {n : Nat} : pX11_chancery_74 post (n + 1) w ↔ (pX11_isGood (fun r_1 w_2 => (r_1 = 0 → (pX11_chancery_95 post  w_2)) ∧ (¬ r_1 = 0 → (((w_2.1 300 8) = 0 → (pX11_chancery_95 post  w_2)) ∧ (¬ (w_2.1 300 8) = 0 → (False))))) w) := Iff.rfl
theorem xX11_goOn_8 {post : Wd → Prop} {w : Wd} : (∃ n, pX11_goOn_8 post n w) ↔ (∃ n, pX11_goOn_8 post (n + 1) w) := ⟨fun ⟨n, h⟩ => match n, h with | 0, h => False.elim h | n + 1, h => ⟨n, h⟩, fun ⟨n, h⟩ => ⟨n + 1, h⟩⟩
theorem sX11_goOn_8 {post : Wd → Prop} {w : Wd} {n : Nat} : pX11_goOn_8 post (n + 1) w ↔ (((w.1 300 3) ≤ (w.1 300 6) → (pX11_goOn_58 post  w)) ∧ (¬ (w.1 300 3) ≤ (w.1 300 6) → (pX11_sign (fun r_2 w_3 => (r_2 = (32 : Int32) → (pX11_goOn_45 (pX11_goOn_8 post n) post  w_3)) ∧ (¬ r_2 = (32 : Int32) → (pX11_sign (fun r_5 w_6 => (¬ r_5 = (10 : Int32) → (pX11_goOn_58 post  w_6)) ∧ (r_5 = (10 : Int32) → (pX11_goOn_45 (pX11_goOn_8 post n) post  w_6))) (w_3.1 300 6) w_3))) (w.1 300 6) w))) := Iff.rfl
set_option maxHeartbeats 2000000 in
set_option maxRecDepth 100000 in
theorem chancery_M : pX11_chancery (fun r2 _ => r2 = 0) wFM := by
  simp [pX11_chancery, pX11_chancery_95, pX11_isGood, pX11_clearBank, pX11_goOn, pX11_goOn_45, pX11_goOn_58, pX11_sign, sX11_chancery_20, sX11_chancery_74, sX11_goOn_8, xX11_chancery_20, xX11_chancery_74, xX11_goOn_8, rJ1, rJ2, rJ5, rlF, rlT, i256, vn0, vn1, tn_0, tn_1, tn_2, tn_3, tn_4, tn_5, tn_6, tn_7, tn_8, tn_9, tn_10, tn_11, tn_12, tn_216, tn_217, tn_218, tn_219, tn_220, fx_0_13, fx_0_14, fx_0_15, fx_160_0, fx_160_6, fx_160_10, fx_160_11, fx_160_12, fx_160_13, fx_50_7, fx_50_8, fx_70_0, fx_70_1, fx_110_1, fx_90_0, fx_20_3, fx_30_2, fx_30_3, fx_30_4, fx_30_5, fx_30_7, fx_60_3, fx_60_4, fx_60_5, fx_120_0, fx_120_1, fx_120_2, fx_120_3, fx_120_4, fx_120_5, fx_120_9, fx_120_11, fx_140_0, fx_140_1, fx_140_2, fx_140_3, fx_140_4, fx_140_5, fx_140_9, fx_140_11, fxa_162_0, fxa_163_0, fxa_164_0, fxa_165_0, fxa_166_0, fxa_12_0, fxa_12_1, fxa_12_2, fxr_0, fxr_1, fxr_2, fxr_3, fm_2, fm_3, fm_4, fm_6, fm_7, fm_8, fm_9, fm_29, fm_30, fm_31, fm_32, fm_33, fm_34, fm_42, fm_43, fm_48, fm_58, fm_59, fm_63, fm_5, fma_312_0, fma_313_0, fma_314_0, fma_315_0, fma_316_0, fma_317_0, fma_318_0, fma_341_0, fma_341_1, fma_341_2, fma_341_3, fma_341_216, fma_341_217, fma_341_218, fma_341_219, fma_341_220, fma_369_0, fma_369_1, fma_369_2, rI1, rI2, rI5, rA1, rA2, rA5, rR1, rR2, rR5, rC1, rC2, rC5, vi_0_40, vi_0_24, vi_0_3, vi_1_3, vi_2_3, vi_0_2, vi_1_2, vi_0_16, vi_0_1602, vi_0_12288, vi_0_1600, vi_0_1620]
  refine startAnew_G (v := 1) (a := fun i => if i = 1 then 0 else wFM.2.1 314 i) (by unfold vp_in; decide) ⟨?_, ?_⟩ (fun w' hw => ?_)
  · simp [rlF, rlT, i256, vn0, vn1, tn_0, tn_1, tn_2, tn_3, tn_4, tn_5, tn_6, tn_7, tn_8, tn_9, tn_10, tn_11, tn_12, tn_216, tn_217, tn_218, tn_219, tn_220, fx_0_13, fx_0_14, fx_0_15, fx_160_0, fx_160_6, fx_160_10, fx_160_11, fx_160_12, fx_160_13, fx_50_7, fx_50_8, fx_70_0, fx_70_1, fx_110_1, fx_90_0, fx_20_3, fx_30_2, fx_30_3, fx_30_4, fx_30_5, fx_30_7, fx_60_3, fx_60_4, fx_60_5, fx_120_0, fx_120_1, fx_120_2, fx_120_3, fx_120_4, fx_120_5, fx_120_9, fx_120_11, fx_140_0, fx_140_1, fx_140_2, fx_140_3, fx_140_4, fx_140_5, fx_140_9, fx_140_11, fxa_162_0, fxa_163_0, fxa_164_0, fxa_165_0, fxa_166_0, fxa_12_0, fxa_12_1, fxa_12_2, fxr_0, fxr_1, fxr_2, fxr_3, fm_2, fm_3, fm_4, fm_6, fm_7, fm_8, fm_9, fm_29, fm_30, fm_31, fm_32, fm_33, fm_34, fm_42, fm_43, fm_48, fm_58, fm_59, fm_63, fm_5, fma_312_0, fma_313_0, fma_314_0, fma_315_0, fma_316_0, fma_317_0, fma_318_0, fma_341_0, fma_341_1, fma_341_2, fma_341_3, fma_341_216, fma_341_217, fma_341_218, fma_341_219, fma_341_220, fma_369_0, fma_369_1, fma_369_2, rI1, rI2, rI5, rA1, rA2, rA5, rR1, rR2, rR5, rC1, rC2, rC5, vi_0_40, vi_0_24, vi_0_3, vi_1_3, vi_2_3, vi_0_2, vi_1_2, vi_0_16, vi_0_1602, vi_0_12288, vi_0_1600, vi_0_1620]
  · funext i
    simp [rlF, rlT, i256, vn0, vn1, tn_0, tn_1, tn_2, tn_3, tn_4, tn_5, tn_6, tn_7, tn_8, tn_9, tn_10, tn_11, tn_12, tn_216, tn_217, tn_218, tn_219, tn_220, fx_0_13, fx_0_14, fx_0_15, fx_160_0, fx_160_6, fx_160_10, fx_160_11, fx_160_12, fx_160_13, fx_50_7, fx_50_8, fx_70_0, fx_70_1, fx_110_1, fx_90_0, fx_20_3, fx_30_2, fx_30_3, fx_30_4, fx_30_5, fx_30_7, fx_60_3, fx_60_4, fx_60_5, fx_120_0, fx_120_1, fx_120_2, fx_120_3, fx_120_4, fx_120_5, fx_120_9, fx_120_11, fx_140_0, fx_140_1, fx_140_2, fx_140_3, fx_140_4, fx_140_5, fx_140_9, fx_140_11, fxa_162_0, fxa_163_0, fxa_164_0, fxa_165_0, fxa_166_0, fxa_12_0, fxa_12_1, fxa_12_2, fxr_0, fxr_1, fxr_2, fxr_3, fm_2, fm_3, fm_4, fm_6, fm_7, fm_8, fm_9, fm_29, fm_30, fm_31, fm_32, fm_33, fm_34, fm_42, fm_43, fm_48, fm_58, fm_59, fm_63, fm_5, fma_312_0, fma_313_0, fma_314_0, fma_315_0, fma_316_0, fma_317_0, fma_318_0, fma_341_0, fma_341_1, fma_341_2, fma_341_3, fma_341_216, fma_341_217, fma_341_218, fma_341_219, fma_341_220, fma_369_0, fma_369_1, fma_369_2, rI1, rI2, rI5, rA1, rA2, rA5, rR1, rR2, rR5, rC1, rC2, rC5, vi_0_40, vi_0_24, vi_0_3, vi_1_3, vi_2_3, vi_0_2, vi_1_2, vi_0_16, vi_0_1602, vi_0_12288, vi_0_1600, vi_0_1620]
  · rw [hw.1, hw.2]
    exact ⟨by unfold vp_in; decide, rfl⟩
theorem xX6_read_38 {post : Int32 → Wd → Prop} {b1 : Bool} {x2 : Int32} {w : Wd} : (∃ n, pX6_read_38 post b1 n x2 w) ↔ (∃ n, pX6_read_38 post b1 (n + 1) x2 w) := ⟨fun ⟨n, h⟩ => match n, h with | 0, h => False.elim h | n + 1, h => ⟨n, h⟩, fun ⟨n, h⟩ => ⟨n + 1, h⟩⟩
theorem sX6_read_38 {post : Int32 → Wd → Prop} {b1 : Bool} {x2 : Int32} {w : Wd} {n : Nat} : pX6_read_38 post b1 (n + 1) x2 w ↔ (((1600 : Int32) ≤ x2 → (post (w.1 30 2) w)) ∧ (¬ (1600 : Int32) ≤ x2 → ((¬ (w.1 30 2) = 0 → (post (w.1 30 2) w)) ∧ ((w.1 30 2) = 0 → (((w.1 30 5) = (22 : Int32) → (post (w.1 30 2) w)) ∧ (¬ (w.1 30 5) = (22 : Int32) → (False))))))) := Iff.rfl
theorem xX8_split_18 {post : Wd → Prop} {x2 : Int32} {x3 : Int32} {x4 : Int32} {x5 : Int32} {w : Wd} : (∃ n, pX8_split_18 post n x2 x3 x4 x5 w) ↔ (∃ n, pX8_split_18 post (n + 1) x2 x3 x4 x5 w) := ⟨fun ⟨n, h⟩ => match n, h with | 0, h => False.elim h | n + 1, h => ⟨n, h⟩, fun ⟨n, h⟩ => ⟨n + 1, h⟩⟩
theorem sX8_split_18 {post : Wd → Prop} {x2 : Int32} {x3 : Int32} {x4 : Int32} {x5 : Int32} {w : Wd} {n : Nat} : pX8_split_18 post (n + 1) x2 x3 x4 x5 w ↔ (((1600 : Int32) ≤ x5 → (pX8_add (fun w_2 => post w_2) (22 : Int32) x2 (0 : Int64) w)) ∧ (¬ (1600 : Int32) ≤ x5 → ((x4 < 0 → (pX8_add (fun w_4 => post w_4) (22 : Int32) x2 (0 : Int64) w)) ∧ (¬ x4 < 0 → ((x3 ≤ x4 → (pX8_add (fun w_6 => post w_6) (22 : Int32) x2 (0 : Int64) w)) ∧ (¬ x3 ≤ x4 → (vp_in x4 1600 ∧ ∀ x6_7, x6_7 = (w.2.1 1 x4.toNatClampNeg) → (x6_7 = (32 : Int32) → (pX8_split_57 (pX8_split_18 post n) post x2 x3 x4 x5 w)) ∧ (¬ x6_7 = (32 : Int32) → ((¬ x6_7 = (10 : Int32) → (False)) ∧ (x6_7 = (10 : Int32) → (pX8_split_57 (pX8_split_18 post n) post x2 x3 x4 x5 w))))))))))) := Iff.rfl
set_option maxHeartbeats 2000000 in
set_option maxRecDepth 100000 in
theorem ev_chancery {f : Nat → Int64} : pX10_chancery (fun r _ => pX11_chancery (fun r2 _ => r2 = r) wFM) (wFX f) := by
  simp [pX10_chancery, pX6_read, pX6_take, pX6_take_35, pX6_take_36, pX6_take_59, pX7_clear, pX8_split, pX8_add, pX8_split_57, pX8_split_116, sX6_read_38, sX8_split_18, xX6_read_38, xX8_split_18, rJ1, rJ2, rJ3, rJ5, rB1, rB2, rB4, rB5, rlF, rlT, i256, vn0, vn1, tn_0, tn_1, tn_2, tn_3, tn_4, tn_5, tn_6, tn_7, tn_8, tn_9, tn_10, tn_11, tn_12, tn_216, tn_217, tn_218, tn_219, tn_220, fx_0_13, fx_0_14, fx_0_15, fx_160_0, fx_160_6, fx_160_10, fx_160_11, fx_160_12, fx_160_13, fx_50_7, fx_50_8, fx_70_0, fx_70_1, fx_110_1, fx_90_0, fx_20_3, fx_30_2, fx_30_3, fx_30_4, fx_30_5, fx_30_7, fx_60_3, fx_60_4, fx_60_5, fx_120_0, fx_120_1, fx_120_2, fx_120_3, fx_120_4, fx_120_5, fx_120_9, fx_120_11, fx_140_0, fx_140_1, fx_140_2, fx_140_3, fx_140_4, fx_140_5, fx_140_9, fx_140_11, fxa_162_0, fxa_163_0, fxa_164_0, fxa_165_0, fxa_166_0, fxa_12_0, fxa_12_1, fxa_12_2, fxr_0, fxr_1, fxr_2, fxr_3, fm_2, fm_3, fm_4, fm_6, fm_7, fm_8, fm_9, fm_29, fm_30, fm_31, fm_32, fm_33, fm_34, fm_42, fm_43, fm_48, fm_58, fm_59, fm_63, fm_5, fma_312_0, fma_313_0, fma_314_0, fma_315_0, fma_316_0, fma_317_0, fma_318_0, fma_341_0, fma_341_1, fma_341_2, fma_341_3, fma_341_216, fma_341_217, fma_341_218, fma_341_219, fma_341_220, fma_369_0, fma_369_1, fma_369_2, rI1, rI2, rI5, rA1, rA2, rA5, rR1, rR2, rR5, rC1, rC2, rC5, vi_0_40, vi_0_24, vi_0_3, vi_1_3, vi_2_3, vi_0_2, vi_1_2, vi_0_16, vi_0_1602, vi_0_12288, vi_0_1600, vi_0_1620]
  refine beginAnew_G (b := true) (v := 0) ⟨?_, ?_⟩ (fun w' hw => ?_)
  · simp [rJ5, rB5, rlF, rlT, i256, vn0, vn1, tn_0, tn_1, tn_2, tn_3, tn_4, tn_5, tn_6, tn_7, tn_8, tn_9, tn_10, tn_11, tn_12, tn_216, tn_217, tn_218, tn_219, tn_220, fx_0_13, fx_0_14, fx_0_15, fx_160_0, fx_160_6, fx_160_10, fx_160_11, fx_160_12, fx_160_13, fx_50_7, fx_50_8, fx_70_0, fx_70_1, fx_110_1, fx_90_0, fx_20_3, fx_30_2, fx_30_3, fx_30_4, fx_30_5, fx_30_7, fx_60_3, fx_60_4, fx_60_5, fx_120_0, fx_120_1, fx_120_2, fx_120_3, fx_120_4, fx_120_5, fx_120_9, fx_120_11, fx_140_0, fx_140_1, fx_140_2, fx_140_3, fx_140_4, fx_140_5, fx_140_9, fx_140_11, fxa_162_0, fxa_163_0, fxa_164_0, fxa_165_0, fxa_166_0, fxa_12_0, fxa_12_1, fxa_12_2, fxr_0, fxr_1, fxr_2, fxr_3, fm_2, fm_3, fm_4, fm_6, fm_7, fm_8, fm_9, fm_29, fm_30, fm_31, fm_32, fm_33, fm_34, fm_42, fm_43, fm_48, fm_58, fm_59, fm_63, fm_5, fma_312_0, fma_313_0, fma_314_0, fma_315_0, fma_316_0, fma_317_0, fma_318_0, fma_341_0, fma_341_1, fma_341_2, fma_341_3, fma_341_216, fma_341_217, fma_341_218, fma_341_219, fma_341_220, fma_369_0, fma_369_1, fma_369_2, rI1, rI2, rI5, rA1, rA2, rA5, rR1, rR2, rR5, rC1, rC2, rC5, vi_0_40, vi_0_24, vi_0_3, vi_1_3, vi_2_3, vi_0_2, vi_1_2, vi_0_16, vi_0_1602, vi_0_12288, vi_0_1600, vi_0_1620]
  · simp [rJ1, rB1, rlF, rlT, i256, vn0, vn1, tn_0, tn_1, tn_2, tn_3, tn_4, tn_5, tn_6, tn_7, tn_8, tn_9, tn_10, tn_11, tn_12, tn_216, tn_217, tn_218, tn_219, tn_220, fx_0_13, fx_0_14, fx_0_15, fx_160_0, fx_160_6, fx_160_10, fx_160_11, fx_160_12, fx_160_13, fx_50_7, fx_50_8, fx_70_0, fx_70_1, fx_110_1, fx_90_0, fx_20_3, fx_30_2, fx_30_3, fx_30_4, fx_30_5, fx_30_7, fx_60_3, fx_60_4, fx_60_5, fx_120_0, fx_120_1, fx_120_2, fx_120_3, fx_120_4, fx_120_5, fx_120_9, fx_120_11, fx_140_0, fx_140_1, fx_140_2, fx_140_3, fx_140_4, fx_140_5, fx_140_9, fx_140_11, fxa_162_0, fxa_163_0, fxa_164_0, fxa_165_0, fxa_166_0, fxa_12_0, fxa_12_1, fxa_12_2, fxr_0, fxr_1, fxr_2, fxr_3, fm_2, fm_3, fm_4, fm_6, fm_7, fm_8, fm_9, fm_29, fm_30, fm_31, fm_32, fm_33, fm_34, fm_42, fm_43, fm_48, fm_58, fm_59, fm_63, fm_5, fma_312_0, fma_313_0, fma_314_0, fma_315_0, fma_316_0, fma_317_0, fma_318_0, fma_341_0, fma_341_1, fma_341_2, fma_341_3, fma_341_216, fma_341_217, fma_341_218, fma_341_219, fma_341_220, fma_369_0, fma_369_1, fma_369_2, rI1, rI2, rI5, rA1, rA2, rA5, rR1, rR2, rR5, rC1, rC2, rC5, vi_0_40, vi_0_24, vi_0_3, vi_1_3, vi_2_3, vi_0_2, vi_1_2, vi_0_16, vi_0_1602, vi_0_12288, vi_0_1600, vi_0_1620]
  · rw [hw.1, hw.2]
    exact chancery_M
theorem feed_B {post : Wd → Prop} {n k : Nat} {x1 x2 : Int32} {w : Wd} (hx : ¬ x2 < 0) (hk : k < 1600) (hw : w.1 0 13 = nI k) (h : ∀ w' : Wd, w'.1 0 13 = nI (k + 1) → pX10_putBytes_3 post n x1 (x2 + (-8)) w') : pX10_putBytes_3 post (n + 1) x1 x2 w := by
  refine ⟨fun c => absurd c hx, fun _ => ⟨fun c => absurd (by rw [← hw]; exact c) (nI_pos (n := k) (by omega)), fun _ => ⟨fun c => absurd (by rw [← hw]; exact c) (nI_ge (a := k) (b := 1600) hk (by decide)), fun _ => ⟨by rw [hw]; exact vp_in_nI hk (by decide), fun w4 e4 w5 e5 x e => ?_⟩⟩⟩⟩
  rw [e]
  refine h w5 ?_
  rw [e5, rI1, if_pos ⟨rfl, rfl⟩, e4]
  show w.1 0 13 + 1 = _
  rw [hw, nI_1]
theorem feed_P {post : Wd → Prop} {k : Nat} {x1 : Int32} {w : Wd} (hk : k + 4 ≤ 1600) (hw : w.1 0 13 = nI k) (h : ∀ w' : Wd, w'.1 0 13 = nI (k + 4) → post w') : pX10_putBytes post x1 w := by
  refine ⟨5, ?_⟩
  refine feed_B (by decide) (by omega) hw (fun w1 h1 => ?_)
  refine feed_B (by decide) (by omega) h1 (fun w2 h2 => ?_)
  refine feed_B (by decide) (by omega) h2 (fun w3 h3 => ?_)
  refine feed_B (by decide) (by omega) h3 (fun w4 h4 => ?_)
  exact ⟨fun _ => h w4 h4, fun c => absurd (by decide) c⟩
theorem feed_M {x1 x2 x3 x4 x5 : Int32} : pX11_feed (fun r2 _ => r2 = nI 20) x1 x2 x3 x4 x5 wFM := by
  refine ⟨fun _ => ⟨21, ?_⟩, fun c => absurd (by decide) c⟩
  refine loop_up (fun n x w => pX11_feed_18 (fun r2 _ => r2 = nI 20) n x1 x2 x3 x4 x5 x w) (fun _ w => w.1 300 2 = 0) 20 ?_ ?_ 20 0 wFM rfl rfl
  · intro n i w hi hI k
    have L : ∀ t0 : Int32, pX11_feed_71 (pX11_feed_18 (fun r2 _ => r2 = nI 20) n) (fun r2 _ => r2 = nI 20) x1 x2 x3 x4 x5 (nI i) t0 w := by
      intro t0
      refine ⟨?_, fun w1 e1 x e2 => ?_⟩
      · rw [hI, show (0 : Int32) + nI i = nI i by rw [show (0 : Int32) = nI 0 by decide, nI_add, Nat.zero_add]]
        exact vp_in_nI (by omega) (by decide)
      · rw [e2, nI_1]
        exact k w1 (by rw [e1]; exact hI)
    exact ⟨fun c => absurd c (nI_ge (b := 20) hi (by decide)), fun _ => ⟨fun _ => ⟨fun _ => ⟨fun _ => ⟨fun _ => L _, fun _ => L _⟩, fun _ => L _⟩, fun _ => L _⟩, fun _ => L _⟩⟩
  · intro n w hI
    refine ⟨fun _ w2 e2 => ?_, fun c => absurd (by decide) c⟩
    rw [e2, rI1, if_pos ⟨rfl, rfl⟩, hI]
    show (0 : Int32) + 20 = nI 20
    decide
theorem ev_feed {f : Nat → Int64} {x1 x2 x3 x4 x5 : Int32} : pX10_feed (fun r _ => pX11_feed (fun r2 _ => r2 = r) x1 x2 x3 x4 x5 wFM) x1 x2 x3 x4 x5 (wFX f) := by
  refine ⟨fun _ => ?_, fun c => absurd (show (0 : Int32) ≤ 1580 by decide) c⟩
  refine feed_P (k := 0) (by decide) rfl (fun w1 h1 => ?_)
  refine feed_P (k := 4) (by decide) h1 (fun w2 h2 => ?_)
  refine feed_P (k := 8) (by decide) h2 (fun w3 h3 => ?_)
  refine feed_P (k := 12) (by decide) h3 (fun w4 h4 => ?_)
  refine feed_P (k := 16) (by decide) h4 (fun w5 h5 => ?_)
  rw [h5]
  exact feed_M
