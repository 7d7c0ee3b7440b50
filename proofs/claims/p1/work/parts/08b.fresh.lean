/-! ===== what a fresh object holds ===== -/
theorem rlF : rl false = 120 := rfl
theorem rlT : rl true = 140 := rfl
theorem i256 : (1 : Int32) <<< ((8 : Int32) &&& 31) = 256 := by decide
theorem vn0 : vp_nar .boolean (0 : Int32) = 0 := by decide
theorem vn1 : vp_nar .boolean (1 : Int32) = 1 := by decide
theorem ti_m2 : (-2 : Int32).toInt = -2 := by decide
theorem ti_m1 : (-1 : Int32).toInt = -1 := by decide
theorem ti_0 : (0 : Int32).toInt = 0 := by decide
theorem ti_1 : (1 : Int32).toInt = 1 := by decide
theorem ti_2 : (2 : Int32).toInt = 2 := by decide
theorem ti_3 : (3 : Int32).toInt = 3 := by decide
theorem ti_4 : (4 : Int32).toInt = 4 := by decide
theorem ti_5 : (5 : Int32).toInt = 5 := by decide
theorem ti_6 : (6 : Int32).toInt = 6 := by decide
theorem ti_7 : (7 : Int32).toInt = 7 := by decide
theorem ti_8 : (8 : Int32).toInt = 8 := by decide
theorem ti_9 : (9 : Int32).toInt = 9 := by decide
theorem ti_10 : (10 : Int32).toInt = 10 := by decide
theorem ti_11 : (11 : Int32).toInt = 11 := by decide
theorem ti_12 : (12 : Int32).toInt = 12 := by decide
theorem ti_16 : (16 : Int32).toInt = 16 := by decide
theorem ti_22 : (22 : Int32).toInt = 22 := by decide
theorem ti_23 : (23 : Int32).toInt = 23 := by decide
theorem ti_24 : (24 : Int32).toInt = 24 := by decide
theorem ti_31 : (31 : Int32).toInt = 31 := by decide
theorem ti_32 : (32 : Int32).toInt = 32 := by decide
theorem ti_39 : (39 : Int32).toInt = 39 := by decide
theorem ti_40 : (40 : Int32).toInt = 40 := by decide
theorem ti_99 : (99 : Int32).toInt = 99 := by decide
theorem ti_100 : (100 : Int32).toInt = 100 := by decide
theorem ti_255 : (255 : Int32).toInt = 255 := by decide
theorem ti_256 : (256 : Int32).toInt = 256 := by decide
theorem ti_999 : (999 : Int32).toInt = 999 := by decide
theorem ti_1000 : (1000 : Int32).toInt = 1000 := by decide
theorem ti_100000 : (100000 : Int32).toInt = 100000 := by decide
theorem ti_1580 : (1580 : Int32).toInt = 1580 := by decide
theorem ti_1600 : (1600 : Int32).toInt = 1600 := by decide
theorem tn_0 : (0 : Int32).toNatClampNeg = 0 := by decide
theorem tn_1 : (1 : Int32).toNatClampNeg = 1 := by decide
theorem tn_2 : (2 : Int32).toNatClampNeg = 2 := by decide
theorem tn_3 : (3 : Int32).toNatClampNeg = 3 := by decide
theorem tn_4 : (4 : Int32).toNatClampNeg = 4 := by decide
theorem tn_5 : (5 : Int32).toNatClampNeg = 5 := by decide
theorem tn_6 : (6 : Int32).toNatClampNeg = 6 := by decide
theorem tn_7 : (7 : Int32).toNatClampNeg = 7 := by decide
theorem tn_8 : (8 : Int32).toNatClampNeg = 8 := by decide
theorem tn_9 : (9 : Int32).toNatClampNeg = 9 := by decide
theorem tn_10 : (10 : Int32).toNatClampNeg = 10 := by decide
theorem tn_11 : (11 : Int32).toNatClampNeg = 11 := by decide
theorem tn_12 : (12 : Int32).toNatClampNeg = 12 := by decide
theorem tn_216 : (216 : Int32).toNatClampNeg = 216 := by decide
theorem tn_217 : (217 : Int32).toNatClampNeg = 217 := by decide
theorem tn_218 : (218 : Int32).toNatClampNeg = 218 := by decide
theorem tn_219 : (219 : Int32).toNatClampNeg = 219 := by decide
theorem tn_220 : (220 : Int32).toNatClampNeg = 220 := by decide
section FF
variable {f : Nat → Int64}
theorem fx_0_13 : (wFX f).1 0 13 = 0 := rfl
theorem fx_0_14 : (wFX f).1 0 14 = 0 := rfl
theorem fx_0_15 : (wFX f).1 0 15 = (-1) := rfl
theorem fx_160_0 : (wFX f).1 160 0 = 1 := rfl
theorem fx_160_6 : (wFX f).1 160 6 = 0 := rfl
theorem fx_160_10 : (wFX f).1 160 10 = 8 := rfl
theorem fx_160_11 : (wFX f).1 160 11 = 100 := rfl
theorem fx_160_12 : (wFX f).1 160 12 = 0 := rfl
theorem fx_160_13 : (wFX f).1 160 13 = 0 := rfl
theorem fx_50_7 : (wFX f).1 50 7 = 0 := rfl
theorem fx_50_8 : (wFX f).1 50 8 = 0 := rfl
theorem fx_70_0 : (wFX f).1 70 0 = 0 := rfl
theorem fx_70_1 : (wFX f).1 70 1 = 0 := rfl
theorem fx_110_1 : (wFX f).1 110 1 = 0 := rfl
theorem fx_90_0 : (wFX f).1 90 0 = 0 := rfl
theorem fx_20_3 : (wFX f).1 20 3 = 0 := rfl
theorem fx_30_2 : (wFX f).1 30 2 = 0 := rfl
theorem fx_30_3 : (wFX f).1 30 3 = 0 := rfl
theorem fx_30_4 : (wFX f).1 30 4 = 0 := rfl
theorem fx_30_5 : (wFX f).1 30 5 = 0 := rfl
theorem fx_30_7 : (wFX f).1 30 7 = 0 := rfl
theorem fx_60_3 : (wFX f).1 60 3 = 0 := rfl
theorem fx_60_4 : (wFX f).1 60 4 = 0 := rfl
theorem fx_60_5 : (wFX f).1 60 5 = 0 := rfl
theorem fx_120_0 : (wFX f).1 120 0 = 8 := rfl
theorem fx_120_1 : (wFX f).1 120 1 = 0 := rfl
theorem fx_120_2 : (wFX f).1 120 2 = 0 := rfl
theorem fx_120_3 : (wFX f).1 120 3 = 100 := rfl
theorem fx_120_4 : (wFX f).1 120 4 = 0 := rfl
theorem fx_120_5 : (wFX f).1 120 5 = 0 := rfl
theorem fx_120_9 : (wFX f).1 120 9 = 0 := rfl
theorem fx_120_11 : (wFX f).1 120 11 = 0 := rfl
theorem fx_140_0 : (wFX f).1 140 0 = 8 := rfl
theorem fx_140_1 : (wFX f).1 140 1 = 0 := rfl
theorem fx_140_2 : (wFX f).1 140 2 = 0 := rfl
theorem fx_140_3 : (wFX f).1 140 3 = 100 := rfl
theorem fx_140_4 : (wFX f).1 140 4 = 0 := rfl
theorem fx_140_5 : (wFX f).1 140 5 = 0 := rfl
theorem fx_140_9 : (wFX f).1 140 9 = 0 := rfl
theorem fx_140_11 : (wFX f).1 140 11 = 0 := rfl
theorem fxa_162_0 : (wFX f).2.1 162 0 = 0 := rfl
theorem fxa_163_0 : (wFX f).2.1 163 0 = (-1) := rfl
theorem fxa_164_0 : (wFX f).2.1 164 0 = (-1) := rfl
theorem fxa_165_0 : (wFX f).2.1 165 0 = 0 := rfl
theorem fxa_166_0 : (wFX f).2.1 166 0 = 0 := rfl
theorem fxa_12_0 : (wFX f).2.1 12 0 = 0 := rfl
theorem fxa_12_1 : (wFX f).2.1 12 1 = 0 := rfl
theorem fxa_12_2 : (wFX f).2.1 12 2 = 0 := rfl
theorem fxr_0 : (wFX f).2.2.2.2 0 = false := rfl
theorem fxr_1 : (wFX f).2.2.2.2 1 = true := rfl
theorem fxr_2 : (wFX f).2.2.2.2 2 = true := rfl
theorem fxr_3 : (wFX f).2.2.2.2 3 = false := rfl
end FF
theorem fm_2 : wFM.1 300 2 = 0 := rfl
theorem fm_3 : wFM.1 300 3 = 0 := rfl
theorem fm_4 : wFM.1 300 4 = 0 := rfl
theorem fm_6 : wFM.1 300 6 = 0 := rfl
theorem fm_7 : wFM.1 300 7 = 0 := rfl
theorem fm_8 : wFM.1 300 8 = 0 := rfl
theorem fm_9 : wFM.1 300 9 = 0 := rfl
theorem fm_29 : wFM.1 300 29 = 0 := rfl
theorem fm_30 : wFM.1 300 30 = 0 := rfl
theorem fm_31 : wFM.1 300 31 = 0 := rfl
theorem fm_32 : wFM.1 300 32 = 0 := rfl
theorem fm_33 : wFM.1 300 33 = 0 := rfl
theorem fm_34 : wFM.1 300 34 = 0 := rfl
theorem fm_42 : wFM.1 300 42 = 0 := rfl
theorem fm_43 : wFM.1 300 43 = 0 := rfl
theorem fm_48 : wFM.1 300 48 = 0 := rfl
theorem fm_58 : wFM.1 300 58 = 0 := rfl
theorem fm_59 : wFM.1 300 59 = 0 := rfl
theorem fm_63 : wFM.1 300 63 = 0 := rfl
theorem fm_5 : wFM.1 300 5 = -1 := rfl
theorem fma_312_0 : wFM.2.1 312 0 = 8 := rfl
theorem fma_313_0 : wFM.2.1 313 0 = 0 := rfl
theorem fma_314_0 : wFM.2.1 314 0 = 0 := rfl
theorem fma_315_0 : wFM.2.1 315 0 = 0 := rfl
theorem fma_316_0 : wFM.2.1 316 0 = 100 := rfl
theorem fma_317_0 : wFM.2.1 317 0 = 0 := rfl
theorem fma_318_0 : wFM.2.1 318 0 = 0 := rfl
theorem fma_341_0 : wFM.2.1 341 0 = 0 := rfl
theorem fma_341_1 : wFM.2.1 341 1 = (-1) := rfl
theorem fma_341_2 : wFM.2.1 341 2 = (-1) := rfl
theorem fma_341_3 : wFM.2.1 341 3 = 0 := rfl
theorem fma_341_216 : wFM.2.1 341 216 = 1 := rfl
theorem fma_341_217 : wFM.2.1 341 217 = 0 := rfl
theorem fma_341_218 : wFM.2.1 341 218 = 100 := rfl
theorem fma_341_219 : wFM.2.1 341 219 = 0 := rfl
theorem fma_341_220 : wFM.2.1 341 220 = 0 := rfl
theorem fma_369_0 : wFM.2.1 369 0 = 0 := rfl
theorem fma_369_1 : wFM.2.1 369 1 = 0 := rfl
theorem fma_369_2 : wFM.2.1 369 2 = 0 := rfl
