theorem vi_0_40 : vp_in (0 : Int32) 40 := by unfold vp_in; decide
theorem vi_0_24 : vp_in (0 : Int32) 24 := by unfold vp_in; decide
theorem vi_0_3 : vp_in (0 : Int32) 3 := by unfold vp_in; decide
theorem vi_1_3 : vp_in (1 : Int32) 3 := by unfold vp_in; decide
theorem vi_2_3 : vp_in (2 : Int32) 3 := by unfold vp_in; decide
theorem vi_0_2 : vp_in (0 : Int32) 2 := by unfold vp_in; decide
theorem vi_1_2 : vp_in (1 : Int32) 2 := by unfold vp_in; decide
theorem vi_0_16 : vp_in (0 : Int32) 16 := by unfold vp_in; decide
theorem vi_0_1602 : vp_in (0 : Int32) 1602 := by unfold vp_in; decide
theorem vi_0_12288 : vp_in (0 : Int32) 12288 := by unfold vp_in; decide
theorem vi_0_1600 : vp_in (0 : Int32) 1600 := by unfold vp_in; decide
theorem vi_0_1620 : vp_in (0 : Int32) 1620 := by unfold vp_in; decide
set_option maxHeartbeats 1000000 in
set_option maxRecDepth 100000 in
theorem ev_year {f : Nat → Int64} : pX10_year (fun r _ => pX11_year (fun r2 _ => r2 = r) wFM) (wFX f) := by
  have hM : pX11_year (fun r2 _ => r2 = 1) wFM := by
    refine ⟨fun _ => keepAct_M (fun w h1 _ _ _ => ?_), fun c => absurd c (by decide)⟩
    intro w3 e3
    subst e3
    show (sA w 341 219 (w.2.1 341 219 + 1)).2.1 341 219 = 1
    rw [rA2, if_pos ⟨rfl, rfl⟩, h1]
    decide
  simp [pX10_year, pX0_add, pX0_add_13, pX0_perform, hM, rlF, rlT, i256, vn0, vn1, tn_0, tn_1, tn_2, tn_3, tn_4, tn_5, tn_6, tn_7, tn_8, tn_9, tn_10, tn_11, tn_12, tn_216, tn_217, tn_218, tn_219, tn_220, fx_0_13, fx_0_14, fx_0_15, fx_160_0, fx_160_6, fx_160_10, fx_160_11, fx_160_12, fx_160_13, fx_50_7, fx_50_8, fx_70_0, fx_70_1, fx_110_1, fx_90_0, fx_20_3, fx_30_2, fx_30_3, fx_30_4, fx_30_5, fx_30_7, fx_60_3, fx_60_4, fx_60_5, fx_120_0, fx_120_1, fx_120_2, fx_120_3, fx_120_4, fx_120_5, fx_120_9, fx_120_11, fx_140_0, fx_140_1, fx_140_2, fx_140_3, fx_140_4, fx_140_5, fx_140_9, fx_140_11, fxa_162_0, fxa_163_0, fxa_164_0, fxa_165_0, fxa_166_0, fxa_12_0, fxa_12_1, fxa_12_2, fxr_0, fxr_1, fxr_2, fxr_3, fm_2, fm_3, fm_4, fm_6, fm_7, fm_8, fm_9, fm_29, fm_30, fm_31, fm_32, fm_33, fm_34, fm_42, fm_43, fm_48, fm_58, fm_59, fm_63, fm_5, fma_312_0, fma_313_0, fma_314_0, fma_315_0, fma_316_0, fma_317_0, fma_318_0, fma_341_0, fma_341_1, fma_341_2, fma_341_3, fma_341_216, fma_341_217, fma_341_218, fma_341_219, fma_341_220, fma_369_0, fma_369_1, fma_369_2, rI1, rI2, rI5, rA1, rA2, rA5, rR1, rR2, rR5, rC1, rC2, rC5, vi_0_40, vi_0_24, vi_0_3, vi_1_3, vi_2_3, vi_0_2, vi_1_2, vi_0_16, vi_0_1602, vi_0_12288, vi_0_1600, vi_0_1620]
theorem turnedRow_0 {post : Int32 → Wd → Prop} {w : Wd} (hb : w.1 300 29 = 0) (h8 : w.2.1 312 0 = 8) (h : post 0 w) : pX11_turnedRow post 0 w := by
  refine ⟨9, ?_⟩
  have hwid : ∀ {P : Int32 → Wd → Prop}, P 8 w → pX11_width P w := by
    intro P hP
    refine ⟨by rw [hb]; unfold vp_in; decide, ?_⟩
    rw [hb]
    show P (w.2.1 312 0) w
    rw [h8]
    exact hP
  refine loop_up (fun n x w' => pX11_turnedRow_4 post n 0 0 x w') (fun _ w' => w' = w) 8 ?_ ?_ 8 0 w rfl rfl
  · intro n i w' hi hI k
    subst hI
    refine hwid ⟨fun c => absurd c (nI_ge (b := 8) hi (by decide)), fun _ => ⟨fun _ => ?_, fun c => absurd c (by simp)⟩⟩
    intro x e
    rw [e, nI_1]
    exact k w' rfl
  · intro n w' hI
    subst hI
    exact hwid ⟨fun _ => h, fun c => absurd (by decide) c⟩
set_option maxHeartbeats 1000000 in
set_option maxRecDepth 100000 in
theorem ev_print {f : Nat → Int64} {x1 : Int32} : pX10_print (fun r _ => pX11_print (fun r2 _ => r2 = r) x1 wFM) x1 (wFX f) := by
  by_cases h0 : x1 = 0
  · subst h0
    have hM : pX11_print (fun r2 _ => r2 = 0) 0 wFM := by
      refine ⟨fun c => absurd c (by decide), fun _ => ⟨fun c => absurd c (by decide), fun _ => ⟨by decide, ?_⟩⟩⟩
      refine ⟨fun c => absurd c (by decide), fun _ => ⟨fun c => absurd c (by decide), fun _ => ⟨fun _ => ?_, fun c => absurd c (by decide)⟩⟩⟩
      refine keepAct_M (fun w h1 h2 _ h4 => ?_)
      intro x e
      have e : x = 0 := by rw [e]; show w.2.1 341 217 = 0; rw [h1]; rfl
      subst e
      refine ⟨by unfold vp_in; decide, ?_⟩
      have e0 : w.2.1 341 ((4 : Int32) * 0).toNatClampNeg = 0 := by show w.2.1 341 0 = 0; rw [h1]; rfl
      rw [e0]
      refine turnedRow_0 (by rw [h4 29 (by decide) (by decide)]; rfl) (by rw [h2]; rfl) ?_
      refine ⟨by unfold vp_in; decide, fun w12 e12 => ⟨by unfold vp_in; decide, fun w13 e13 => ⟨by unfold vp_in; decide, fun w14 e14 w15 e15 w16 e16 => rfl⟩⟩⟩
    simp [pX10_print, pX10_isSeal, pX0_add, pX0_add_13, pX0_perform, pX2_addPrint, pX10_turn, hM, rlF, rlT, i256, vn0, vn1, tn_0, tn_1, tn_2, tn_3, tn_4, tn_5, tn_6, tn_7, tn_8, tn_9, tn_10, tn_11, tn_12, tn_216, tn_217, tn_218, tn_219, tn_220, fx_0_13, fx_0_14, fx_0_15, fx_160_0, fx_160_6, fx_160_10, fx_160_11, fx_160_12, fx_160_13, fx_50_7, fx_50_8, fx_70_0, fx_70_1, fx_110_1, fx_90_0, fx_20_3, fx_30_2, fx_30_3, fx_30_4, fx_30_5, fx_30_7, fx_60_3, fx_60_4, fx_60_5, fx_120_0, fx_120_1, fx_120_2, fx_120_3, fx_120_4, fx_120_5, fx_120_9, fx_120_11, fx_140_0, fx_140_1, fx_140_2, fx_140_3, fx_140_4, fx_140_5, fx_140_9, fx_140_11, fxa_162_0, fxa_163_0, fxa_164_0, fxa_165_0, fxa_166_0, fxa_12_0, fxa_12_1, fxa_12_2, fxr_0, fxr_1, fxr_2, fxr_3, fm_2, fm_3, fm_4, fm_6, fm_7, fm_8, fm_9, fm_29, fm_30, fm_31, fm_32, fm_33, fm_34, fm_42, fm_43, fm_48, fm_58, fm_59, fm_63, fm_5, fma_312_0, fma_313_0, fma_314_0, fma_315_0, fma_316_0, fma_317_0, fma_318_0, fma_341_0, fma_341_1, fma_341_2, fma_341_3, fma_341_216, fma_341_217, fma_341_218, fma_341_219, fma_341_220, fma_369_0, fma_369_1, fma_369_2, rI1, rI2, rI5, rA1, rA2, rA5, rR1, rR2, rR5, rC1, rC2, rC5, vi_0_40, vi_0_24, vi_0_3, vi_1_3, vi_2_3, vi_0_2, vi_1_2, vi_0_16, vi_0_1602, vi_0_12288, vi_0_1600, vi_0_1620]
  · simp [pX10_print, pX11_print, pX10_isSeal, pX11_isSeal, pX11_isIn, rlF, rlT, i256, vn0, vn1, tn_0, tn_1, tn_2, tn_3, tn_4, tn_5, tn_6, tn_7, tn_8, tn_9, tn_10, tn_11, tn_12, tn_216, tn_217, tn_218, tn_219, tn_220, fx_0_13, fx_0_14, fx_0_15, fx_160_0, fx_160_6, fx_160_10, fx_160_11, fx_160_12, fx_160_13, fx_50_7, fx_50_8, fx_70_0, fx_70_1, fx_110_1, fx_90_0, fx_20_3, fx_30_2, fx_30_3, fx_30_4, fx_30_5, fx_30_7, fx_60_3, fx_60_4, fx_60_5, fx_120_0, fx_120_1, fx_120_2, fx_120_3, fx_120_4, fx_120_5, fx_120_9, fx_120_11, fx_140_0, fx_140_1, fx_140_2, fx_140_3, fx_140_4, fx_140_5, fx_140_9, fx_140_11, fxa_162_0, fxa_163_0, fxa_164_0, fxa_165_0, fxa_166_0, fxa_12_0, fxa_12_1, fxa_12_2, fxr_0, fxr_1, fxr_2, fxr_3, fm_2, fm_3, fm_4, fm_6, fm_7, fm_8, fm_9, fm_29, fm_30, fm_31, fm_32, fm_33, fm_34, fm_42, fm_43, fm_48, fm_58, fm_59, fm_63, fm_5, fma_312_0, fma_313_0, fma_314_0, fma_315_0, fma_316_0, fma_317_0, fma_318_0, fma_341_0, fma_341_1, fma_341_2, fma_341_3, fma_341_216, fma_341_217, fma_341_218, fma_341_219, fma_341_220, fma_369_0, fma_369_1, fma_369_2, rI1, rI2, rI5, rA1, rA2, rA5, rR1, rR2, rR5, rC1, rC2, rC5, vi_0_40, vi_0_24, vi_0_3, vi_1_3, vi_2_3, vi_0_2, vi_1_2, vi_0_16, vi_0_1602, vi_0_12288, vi_0_1600, vi_0_1620]
    repeat' (first | (apply And.intro) | intro)
    all_goals (try first | rfl | ((try simp only [← Int32.toInt_inj, Int32.lt_iff_toInt_lt, Int32.le_iff_toInt_le, ti_m2, ti_m1, ti_0, ti_1, ti_2, ti_3, ti_4, ti_5, ti_6, ti_7, ti_8, ti_9, ti_10, ti_11, ti_12, ti_16, ti_22, ti_23, ti_24, ti_31, ti_32, ti_39, ti_40, ti_99, ti_100, ti_255, ti_256, ti_999, ti_1000, ti_100000, ti_1580, ti_1600, tn_0, tn_1, tn_2, tn_3, tn_4, tn_5, tn_6, tn_7, tn_8, tn_9, tn_10, tn_11, tn_12, tn_216, tn_217, tn_218, tn_219, tn_220] at *); omega))
set_option maxHeartbeats 1000000 in
set_option maxRecDepth 100000 in
theorem image_M (a : Nat) (ha : a < 3) : pX11_image (fun r2 _ => r2 = 1) (nI a) wFM := by
  have hin : ∀ {P : Int32 → Wd → Prop}, P 1 wFM → pX11_isIn P (nI a) 0 2 wFM := by
    intro P hP
    refine ⟨fun c => absurd c (nI_pos (by omega)), fun _ => ⟨fun c => absurd c (nI_nlt (a := 2) (b := a) (by omega) (by decide)), fun _ => hP⟩⟩
  refine hin ⟨fun _ => ?_, fun c => absurd c (by decide)⟩
  refine ⟨222, ?_⟩
  refine loop_up (fun n x w => pX11_image_13 (fun r2 _ => r2 = 1) n (nI a) x w) (fun _ w => w.2.1 341 = wFM.2.1 341) 221 ?_ ?_ 221 0 wFM rfl rfl
  · intro n i w hi hI k
    refine ⟨fun c => absurd c (nI_ge (b := 221) hi (by decide)), fun _ => ⟨vp_lt hi (by decide), ?_, ?_⟩⟩
    · rw [show (221 : Int32) * nI a + nI i = nI (221 * a + i) by
        rcases (show a = 0 ∨ a = 1 ∨ a = 2 by omega) with rfl | rfl | rfl
        · rw [show (221 : Int32) * nI 0 = nI (221 * 0) by decide, nI_add]
        · rw [show (221 : Int32) * nI 1 = nI (221 * 1) by decide, nI_add]
        · rw [show (221 : Int32) * nI 2 = nI (221 * 2) by decide, nI_add]]
      exact vp_in_nI (by omega) (by decide)
    · intro w3 e3 x e4
      rw [e4, nI_1]
      refine k w3 ?_
      rw [e3, sA_ne (by decide)]
      exact hI
  · intro n w hI
    refine ⟨fun _ => ⟨vp_in_nI ha (by decide), fun w2 e2 => ?_⟩, fun c => absurd (by decide) c⟩
    subst e2
    show (sA w 369 _ _).2.1 341 216 = 1
    rw [sA_ne (by decide), hI]
    rfl
set_option maxHeartbeats 1000000 in
set_option maxRecDepth 100000 in
theorem ev_image {f : Nat → Int64} {x1 : Int32} : pX10_image (fun r _ => pX11_image (fun r2 _ => r2 = r) x1 wFM) x1 (wFX f) := by
  by_cases h0 : x1 = 0
  · subst h0
    have hM : pX11_image (fun r2 _ => r2 = 1) 0 wFM := image_M 0 (by decide)
    simp [pX10_image, pX2_copyFrom, pX2_copySeals, pX2_copyPrints, cOk, hM, rlF, rlT, i256, vn0, vn1, tn_0, tn_1, tn_2, tn_3, tn_4, tn_5, tn_6, tn_7, tn_8, tn_9, tn_10, tn_11, tn_12, tn_216, tn_217, tn_218, tn_219, tn_220, fx_0_13, fx_0_14, fx_0_15, fx_160_0, fx_160_6, fx_160_10, fx_160_11, fx_160_12, fx_160_13, fx_50_7, fx_50_8, fx_70_0, fx_70_1, fx_110_1, fx_90_0, fx_20_3, fx_30_2, fx_30_3, fx_30_4, fx_30_5, fx_30_7, fx_60_3, fx_60_4, fx_60_5, fx_120_0, fx_120_1, fx_120_2, fx_120_3, fx_120_4, fx_120_5, fx_120_9, fx_120_11, fx_140_0, fx_140_1, fx_140_2, fx_140_3, fx_140_4, fx_140_5, fx_140_9, fx_140_11, fxa_162_0, fxa_163_0, fxa_164_0, fxa_165_0, fxa_166_0, fxa_12_0, fxa_12_1, fxa_12_2, fxr_0, fxr_1, fxr_2, fxr_3, fm_2, fm_3, fm_4, fm_6, fm_7, fm_8, fm_9, fm_29, fm_30, fm_31, fm_32, fm_33, fm_34, fm_42, fm_43, fm_48, fm_58, fm_59, fm_63, fm_5, fma_312_0, fma_313_0, fma_314_0, fma_315_0, fma_316_0, fma_317_0, fma_318_0, fma_341_0, fma_341_1, fma_341_2, fma_341_3, fma_341_216, fma_341_217, fma_341_218, fma_341_219, fma_341_220, fma_369_0, fma_369_1, fma_369_2, rI1, rI2, rI5, rA1, rA2, rA5, rR1, rR2, rR5, rC1, rC2, rC5, vi_0_40, vi_0_24, vi_0_3, vi_1_3, vi_2_3, vi_0_2, vi_1_2, vi_0_16, vi_0_1602, vi_0_12288, vi_0_1600, vi_0_1620]
  by_cases h1 : x1 = 1
  · subst h1
    have hM : pX11_image (fun r2 _ => r2 = 1) 1 wFM := image_M 1 (by decide)
    simp [pX10_image, pX2_copyFrom, pX2_copySeals, pX2_copyPrints, cOk, hM, rlF, rlT, i256, vn0, vn1, tn_0, tn_1, tn_2, tn_3, tn_4, tn_5, tn_6, tn_7, tn_8, tn_9, tn_10, tn_11, tn_12, tn_216, tn_217, tn_218, tn_219, tn_220, fx_0_13, fx_0_14, fx_0_15, fx_160_0, fx_160_6, fx_160_10, fx_160_11, fx_160_12, fx_160_13, fx_50_7, fx_50_8, fx_70_0, fx_70_1, fx_110_1, fx_90_0, fx_20_3, fx_30_2, fx_30_3, fx_30_4, fx_30_5, fx_30_7, fx_60_3, fx_60_4, fx_60_5, fx_120_0, fx_120_1, fx_120_2, fx_120_3, fx_120_4, fx_120_5, fx_120_9, fx_120_11, fx_140_0, fx_140_1, fx_140_2, fx_140_3, fx_140_4, fx_140_5, fx_140_9, fx_140_11, fxa_162_0, fxa_163_0, fxa_164_0, fxa_165_0, fxa_166_0, fxa_12_0, fxa_12_1, fxa_12_2, fxr_0, fxr_1, fxr_2, fxr_3, fm_2, fm_3, fm_4, fm_6, fm_7, fm_8, fm_9, fm_29, fm_30, fm_31, fm_32, fm_33, fm_34, fm_42, fm_43, fm_48, fm_58, fm_59, fm_63, fm_5, fma_312_0, fma_313_0, fma_314_0, fma_315_0, fma_316_0, fma_317_0, fma_318_0, fma_341_0, fma_341_1, fma_341_2, fma_341_3, fma_341_216, fma_341_217, fma_341_218, fma_341_219, fma_341_220, fma_369_0, fma_369_1, fma_369_2, rI1, rI2, rI5, rA1, rA2, rA5, rR1, rR2, rR5, rC1, rC2, rC5, vi_0_40, vi_0_24, vi_0_3, vi_1_3, vi_2_3, vi_0_2, vi_1_2, vi_0_16, vi_0_1602, vi_0_12288, vi_0_1600, vi_0_1620]
  by_cases h2 : x1 = 2
  · subst h2
    have hM : pX11_image (fun r2 _ => r2 = 1) 2 wFM := image_M 2 (by decide)
    simp [pX10_image, pX2_copyFrom, pX2_copySeals, pX2_copyPrints, cOk, hM, rlF, rlT, i256, vn0, vn1, tn_0, tn_1, tn_2, tn_3, tn_4, tn_5, tn_6, tn_7, tn_8, tn_9, tn_10, tn_11, tn_12, tn_216, tn_217, tn_218, tn_219, tn_220, fx_0_13, fx_0_14, fx_0_15, fx_160_0, fx_160_6, fx_160_10, fx_160_11, fx_160_12, fx_160_13, fx_50_7, fx_50_8, fx_70_0, fx_70_1, fx_110_1, fx_90_0, fx_20_3, fx_30_2, fx_30_3, fx_30_4, fx_30_5, fx_30_7, fx_60_3, fx_60_4, fx_60_5, fx_120_0, fx_120_1, fx_120_2, fx_120_3, fx_120_4, fx_120_5, fx_120_9, fx_120_11, fx_140_0, fx_140_1, fx_140_2, fx_140_3, fx_140_4, fx_140_5, fx_140_9, fx_140_11, fxa_162_0, fxa_163_0, fxa_164_0, fxa_165_0, fxa_166_0, fxa_12_0, fxa_12_1, fxa_12_2, fxr_0, fxr_1, fxr_2, fxr_3, fm_2, fm_3, fm_4, fm_6, fm_7, fm_8, fm_9, fm_29, fm_30, fm_31, fm_32, fm_33, fm_34, fm_42, fm_43, fm_48, fm_58, fm_59, fm_63, fm_5, fma_312_0, fma_313_0, fma_314_0, fma_315_0, fma_316_0, fma_317_0, fma_318_0, fma_341_0, fma_341_1, fma_341_2, fma_341_3, fma_341_216, fma_341_217, fma_341_218, fma_341_219, fma_341_220, fma_369_0, fma_369_1, fma_369_2, rI1, rI2, rI5, rA1, rA2, rA5, rR1, rR2, rR5, rC1, rC2, rC5, vi_0_40, vi_0_24, vi_0_3, vi_1_3, vi_2_3, vi_0_2, vi_1_2, vi_0_16, vi_0_1602, vi_0_12288, vi_0_1600, vi_0_1620]
  simp [pX10_image, pX11_image, pX11_isIn, rlF, rlT, i256, vn0, vn1, tn_0, tn_1, tn_2, tn_3, tn_4, tn_5, tn_6, tn_7, tn_8, tn_9, tn_10, tn_11, tn_12, tn_216, tn_217, tn_218, tn_219, tn_220, fx_0_13, fx_0_14, fx_0_15, fx_160_0, fx_160_6, fx_160_10, fx_160_11, fx_160_12, fx_160_13, fx_50_7, fx_50_8, fx_70_0, fx_70_1, fx_110_1, fx_90_0, fx_20_3, fx_30_2, fx_30_3, fx_30_4, fx_30_5, fx_30_7, fx_60_3, fx_60_4, fx_60_5, fx_120_0, fx_120_1, fx_120_2, fx_120_3, fx_120_4, fx_120_5, fx_120_9, fx_120_11, fx_140_0, fx_140_1, fx_140_2, fx_140_3, fx_140_4, fx_140_5, fx_140_9, fx_140_11, fxa_162_0, fxa_163_0, fxa_164_0, fxa_165_0, fxa_166_0, fxa_12_0, fxa_12_1, fxa_12_2, fxr_0, fxr_1, fxr_2, fxr_3, fm_2, fm_3, fm_4, fm_6, fm_7, fm_8, fm_9, fm_29, fm_30, fm_31, fm_32, fm_33, fm_34, fm_42, fm_43, fm_48, fm_58, fm_59, fm_63, fm_5, fma_312_0, fma_313_0, fma_314_0, fma_315_0, fma_316_0, fma_317_0, fma_318_0, fma_341_0, fma_341_1, fma_341_2, fma_341_3, fma_341_216, fma_341_217, fma_341_218, fma_341_219, fma_341_220, fma_369_0, fma_369_1, fma_369_2, rI1, rI2, rI5, rA1, rA2, rA5, rR1, rR2, rR5, rC1, rC2, rC5, vi_0_40, vi_0_24, vi_0_3, vi_1_3, vi_2_3, vi_0_2, vi_1_2, vi_0_16, vi_0_1602, vi_0_12288, vi_0_1600, vi_0_1620]
  repeat' (first | (apply And.intro) | intro)
  all_goals (try first | rfl | ((try simp only [← Int32.toInt_inj, Int32.lt_iff_toInt_lt, Int32.le_iff_toInt_le, ti_m2, ti_m1, ti_0, ti_1, ti_2, ti_3, ti_4, ti_5, ti_6, ti_7, ti_8, ti_9, ti_10, ti_11, ti_12, ti_16, ti_22, ti_23, ti_24, ti_31, ti_32, ti_39, ti_40, ti_99, ti_100, ti_255, ti_256, ti_999, ti_1000, ti_100000, ti_1580, ti_1600, tn_0, tn_1, tn_2, tn_3, tn_4, tn_5, tn_6, tn_7, tn_8, tn_9, tn_10, tn_11, tn_12, tn_216, tn_217, tn_218, tn_219, tn_220] at *); omega))
