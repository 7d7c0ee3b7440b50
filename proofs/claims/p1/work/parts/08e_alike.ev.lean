theorem zz_alike {f : Nat → Int64} {x1 x2 : Int32} (h : zX10_alike (fun r _ => zX11_alike (fun r2 _ => decide (r2 = r)) x1 x2 vFM) x1 x2 vFX = true) : pX10_alike (fun r _ => pX11_alike (fun r2 _ => r2 = r) x1 x2 wFM) x1 x2 (wFX f) := by
  have e1 : vFX = prj (wFX f) := rfl
  rw [e1] at h
  refine tX10_alike (pb := fun r _ => zX11_alike (fun r2 _ => decide (r2 = r)) x1 x2 vFM) ?_ h
  intro r w h2
  have h2 : zX11_alike (fun r2 _ => decide (r2 = r)) x1 x2 vFM = true := h2
  have e2 : vFM = prj wFM := rfl
  rw [e2] at h2
  exact tX11_alike (pb := fun r2 _ => decide (r2 = r)) (fun r2 w2 h3 => of_decide_eq_true h3) h2
set_option maxRecDepth 100000 in
theorem en_alike : ∀ j1 : Nat, j1 < 256 → ∀ j2 : Nat, j2 < 2 → zX10_alike (fun r _ => zX11_alike (fun r2 _ => decide (r2 = r)) (nI j1) (nI j2) vFM) (nI j1) (nI j2) vFX = true := by decide +kernel
set_option maxHeartbeats 1000000 in
set_option maxRecDepth 100000 in
theorem ev_alike {f : Nat → Int64} {x1 x2 : Int32} (hb : x2 = 0 ∨ x2 = 1) : pX10_alike (fun r _ => pX11_alike (fun r2 _ => r2 = r) x1 x2 wFM) x1 x2 (wFX f) := by
  by_cases hr : (¬ x1 < 0 ∧ x1 ≤ 255) ∧ (¬ x2 < 0 ∧ x2 ≤ 1)
  · obtain ⟨⟨a1, b1⟩, ⟨a2, b2⟩⟩ := hr
    obtain ⟨j1, h1, rfl⟩ := nI_of2 (n := 255) (by decide) a1 b1
    obtain ⟨j2, h2, rfl⟩ := nI_of2 (n := 1) (by decide) a2 b2
    exact zz_alike (en_alike j1 (by omega) j2 (by omega))
  · (try simp [pX10_alike, pX11_alike, pX10_isRow, pX7_rows, pX11_width, pX11_isRow, rlF, rlT, i256, vn0, vn1, tn_0, tn_1, tn_2, tn_3, tn_4, tn_5, tn_6, tn_7, tn_8, tn_9, tn_10, tn_11, tn_12, tn_216, tn_217, tn_218, tn_219, tn_220, fx_0_13, fx_0_14, fx_0_15, fx_160_0, fx_160_6, fx_160_10, fx_160_11, fx_160_12, fx_160_13, fx_50_7, fx_50_8, fx_70_0, fx_70_1, fx_110_1, fx_90_0, fx_20_3, fx_30_2, fx_30_3, fx_30_4, fx_30_5, fx_30_7, fx_60_3, fx_60_4, fx_60_5, fx_120_0, fx_120_1, fx_120_2, fx_120_3, fx_120_4, fx_120_5, fx_120_9, fx_120_11, fx_140_0, fx_140_1, fx_140_2, fx_140_3, fx_140_4, fx_140_5, fx_140_9, fx_140_11, fxa_162_0, fxa_163_0, fxa_164_0, fxa_165_0, fxa_166_0, fxa_12_0, fxa_12_1, fxa_12_2, fxr_0, fxr_1, fxr_2, fxr_3, fm_2, fm_3, fm_4, fm_6, fm_7, fm_8, fm_9, fm_29, fm_30, fm_31, fm_32, fm_33, fm_34, fm_42, fm_43, fm_48, fm_58, fm_59, fm_63, fm_5, fma_312_0, fma_313_0, fma_314_0, fma_315_0, fma_316_0, fma_317_0, fma_318_0, fma_341_0, fma_341_1, fma_341_2, fma_341_3, fma_341_216, fma_341_217, fma_341_218, fma_341_219, fma_341_220, fma_369_0, fma_369_1, fma_369_2, rI1, rI2, rI5, rA1, rA2, rA5, rR1, rR2, rR5, rC1, rC2, rC5])
    repeat' (first | (apply And.intro) | intro)
    all_goals (try first | rfl | ((try simp only [← Int32.toInt_inj, Int32.lt_iff_toInt_lt, Int32.le_iff_toInt_le, ti_m2, ti_m1, ti_0, ti_1, ti_2, ti_3, ti_4, ti_5, ti_6, ti_7, ti_8, ti_9, ti_10, ti_11, ti_12, ti_16, ti_22, ti_23, ti_24, ti_31, ti_32, ti_39, ti_40, ti_99, ti_100, ti_255, ti_256, ti_999, ti_1000, ti_100000, ti_1580, ti_1600, tn_0, tn_1, tn_2, tn_3, tn_4, tn_5, tn_6, tn_7, tn_8, tn_9, tn_10, tn_11, tn_12, tn_216, tn_217, tn_218, tn_219, tn_220] at *); omega))
