/-! ===== the least wax, without HANDS ===== -/
def GM (w : Wd) : Prop := w.1 = wFM.1 ∧ ∀ a, a ≠ 351 → w.2.1 a = wFM.2.1 a
theorem GM_sA {w : Wd} {i : Nat} {x : Int32} (h : GM w) : GM (sA w 351 i x) := ⟨h.1, fun a ha => by rw [sA_ne ha]; exact h.2 a ha⟩
theorem GM_ways {w : Wd} {P : Int32 → Wd → Prop} (h : GM w) (hP : P 0 w) : pX11_ways P w := by
  refine ⟨by rw [h.1]; unfold vp_in; decide, ?_⟩
  rw [h.1, h.2 314 (by decide)]
  exact hP
def vW (x : Int32) : Int32 := if x = 0 then 0 else 1000000
theorem i4096 {k r : Nat} (hk : k < 5) : (4096 : Int32) * nI k + nI r = nI (4096 * k + r) := by
  rw [show (4096 : Int32) * nI k = nI (4096 * k) by
    rcases (show k = 0 ∨ k = 1 ∨ k = 2 ∨ k = 3 ∨ k = 4 by omega) with rfl | rfl | rfl | rfl | rfl <;> decide, nI_add]
/-- one place of the table is laid -/
theorem lay_116 {k92 : Int32 → Int32 → Int32 → Int32 → Wd → Prop} {post : Wd → Prop} {w : Wd} {x1 t0 : Int32} {k r : Nat} (h : GM w) (hk : k < 5) (hr : r < 256) (hkk : k92 x1 256 (nI k) (nI (r + 1)) (sA w 351 (4096 * k + r) t0)) : pX11_layWays_111 k92 post x1 256 (nI k) (nI r) t0 w := by
  refine ⟨1, ?_⟩
  refine GM_ways h ⟨fun _ => ?_, fun c => absurd (by decide) c⟩
  rw [i4096 hk]
  refine ⟨vp_in_nI (by omega) (by decide), ?_⟩
  intro w4 e4 x e5
  rw [e5, nI_1, e4, nI_clamp (by omega)]
  exact hkk
theorem lay_92 {k84 : Int32 → Int32 → Int32 → Wd → Prop} {post : Wd → Prop} {x1 : Int32} {k : Nat} (hk : k < 5) {w : Wd} (hw : GM w) (h : ∀ w', GM w' → (k = 4 → w'.2.1 351 16384 = vW x1) → k84 x1 256 (nI (k + 1)) w') : ∃ n9, pX11_layWays_92 k84 post n9 x1 256 (nI k) (0 : Int32) w := by
  refine ⟨257, ?_⟩
  refine loop_up (fun n x w => pX11_layWays_92 k84 post n x1 256 (nI k) x w) (fun r w => GM w ∧ (k = 4 → 1 ≤ r → w.2.1 351 16384 = vW x1)) 256 ?_ ?_ 256 0 w rfl ⟨hw, fun _ z => absurd z (by decide)⟩
  · intro n r w hr hI kk
    refine ⟨fun c => absurd c (nI_ge (b := 256) hr (by decide)), fun _ => ⟨fun c => ?_, fun c => ?_⟩⟩
    · refine lay_116 hI.1 hk hr (kk _ ⟨GM_sA hI.1, fun h4 _ => ?_⟩)
      subst h4
      rw [rA2]
      by_cases h0 : r = 0
      · subst h0
        rw [if_pos ⟨rfl, rfl⟩]
        unfold vW
        rw [if_neg (fun z => c (by rw [z]; rfl))]
      · rw [if_neg (fun z => h0 (by omega))]
        exact hI.2 rfl (by omega)
    · refine lay_116 hI.1 hk hr (kk _ ⟨GM_sA hI.1, fun h4 _ => ?_⟩)
      subst h4
      rw [rA2]
      by_cases h0 : r = 0
      · subst h0
        rw [if_pos ⟨rfl, rfl⟩]
        unfold vW
        rw [if_pos (by rw [← c]; rfl)]
      · rw [if_neg (fun z => h0 (by omega))]
        exact hI.2 rfl (by omega)
  · intro n w hI
    refine ⟨fun _ => ?_, fun c => absurd (by decide) c⟩
    intro x e
    rw [e, nI_1]
    exact h w hI.1 (fun h4 => hI.2 h4 (by decide))
theorem lay_84 {post : Wd → Prop} {x1 : Int32} {w : Wd} (hw : GM w) (h : ∀ w', GM w' → w'.2.1 351 16384 = vW x1 → post w') : ∃ n9, pX11_layWays_84 post n9 x1 256 (1 : Int32) w := by
  refine ⟨5, ?_⟩
  refine loop_up (fun n x w => pX11_layWays_84 post n x1 256 x w) (fun k w => GM w ∧ (k = 5 → w.2.1 351 16384 = vW x1)) 5 ?_ ?_ 4 1 w rfl ⟨hw, fun z => absurd z (by decide)⟩
  · intro n k w hk hI kk
    refine ⟨fun c => absurd c (nI_nlt (a := 4) (b := k) (by omega) (by decide)), fun _ => ?_⟩
    exact lay_92 hk hI.1 (fun w' hG h4 => kk w' ⟨hG, fun h5 => h4 (by omega)⟩)
  · intro n w hI
    exact ⟨fun _ => h w hI.1 (hI.2 rfl), fun c => absurd (by decide) c⟩
theorem lay_all {post : Wd → Prop} {x1 : Int32} (h : ∀ w', GM w' → w'.2.1 351 16384 = vW x1 → post w') : pX11_layWays post x1 wFM := by
  refine ⟨by unfold vp_in; decide, ?_⟩
  intro x2 e2
  have e2 : x2 = 256 := by rw [e2]; decide
  subst e2
  refine ⟨257, ?_⟩
  refine loop_up (fun n x w => pX11_layWays_9 post n x1 256 x w) (fun _ w => GM w) 256 ?_ ?_ 256 0 wFM rfl ⟨rfl, fun _ _ => rfl⟩
  · intro n r w hr hI kk
    refine ⟨fun c => absurd c (nI_ge (b := 256) hr (by decide)), fun _ => ⟨1, ?_⟩⟩
    unfold pX11_layWays_17
    refine GM_ways hI ?_
    refine ⟨fun _ => ⟨fun _ => ?_, fun _ => ?_⟩, fun c => absurd (by decide) c⟩
    · refine ⟨vp_in_nI (by omega) (by decide), ?_⟩
      intro w4 e4 x e5
      rw [e5, nI_1]
      exact kk w4 (by rw [e4]; exact GM_sA hI)
    · refine ⟨vp_in_nI (by omega) (by decide), ?_⟩
      intro w4 e4 x e5
      rw [e5, nI_1]
      exact kk w4 (by rw [e4]; exact GM_sA hI)
  · intro n w hI
    exact ⟨fun _ => lay_84 hI h, fun c => absurd (by decide) c⟩
theorem GM_row {w : Wd} {P : Int32 → Wd → Prop} (h : ∀ a, a ≠ 351 → a ≠ 348 → w.2.1 a = wFM.2.1 a) (hP : P 0 w) : pX11_rowOf P 0 w := by
  refine ⟨by unfold vp_in; decide, ?_⟩
  rw [h 341 (by decide) (by decide)]
  exact hP
def aW (x : Int32) : Int32 := if x = 0 then 0 else -1
theorem wax_M {x1 : Int32} (h0 : ¬ x1 < 0) (h1 : ¬ (256 : Int32) ≤ x1) : pX11_wax (fun r2 _ => r2 = aW x1) x1 wFM := by
  intro w1 e1
  have e1 : w1 = wFM := by rw [e1]; exact sI_id rfl
  subst e1
  refine ⟨fun c => absurd c h0, fun _ => ⟨by unfold vp_in; decide, fun c => absurd c h1, fun _ => ⟨fun _ => ?_, fun c => absurd c (by decide)⟩⟩⟩
  refine lay_all (fun w hG hV => ⟨1, ?_⟩)
  refine ⟨fun _ => ?_, fun c => ?_⟩
  · refine GM_row (fun a ha _ => hG.2 a ha) ⟨by unfold vp_in; decide, ?_⟩
    intro x e
    have e : x = vW x1 := by rw [e]; exact hV
    subst e
    by_cases hx : x1 = 0
    · have hv : vW x1 = 0 := if_pos hx
      have ha : aW x1 = 0 := if_pos hx
      rw [hv, ha]
      refine ⟨fun _ => ?_, fun c => absurd (by decide) c⟩
      intro w6 e6 w7 e7
      subst e6
      subst e7
      refine GM_row (fun a h1 h2 => ?_) ⟨1, ⟨by unfold vp_in; decide, fun _ => rfl, fun c => ?_⟩⟩
      · show (sA w 348 _ _).2.1 a = _
        rw [sA_ne h2]
        exact hG.2 a h1
      · refine absurd ?_ c
        show (sA w 348 _ _).2.1 351 16384 ≤ 0
        rw [sA_ne (by decide), hV, hv]
        decide
    · have hv : vW x1 = 1000000 := if_neg hx
      have ha : aW x1 = -1 := if_neg hx
      rw [hv, ha]
      exact ⟨fun c => absurd c (by decide), fun _ => rfl⟩
  · refine absurd ?_ c
    rw [hG.2 341 (by decide)]
    decide
theorem xX9_seekW_53 {post : Int32 → Wd → Prop} {x3 : Int32} {x4 : Int32} {w : Wd} : (∃ n, pX9_seekW_53 post n x3 x4 w) ↔ (∃ n, pX9_seekW_53 post (n + 1) x3 x4 w) := ⟨fun ⟨n, h⟩ => match n, h with | 0, h => False.elim h | n + 1, h => ⟨n, h⟩, fun ⟨n, h⟩ => ⟨n + 1, h⟩⟩
theorem sX9_seekW_53 {post : Int32 → Wd → Prop} {x3 : Int32} {x4 : Int32} {w : Wd} {n : Nat} : pX9_seekW_53 post (n + 1) x3 x4 w ↔ (((w.1 160 0) ≤ x4 → (post x3 w)) ∧ (¬ (w.1 160 0) ≤ x4 → (vp_in x4 24 ∧ pX9_waxFrom (fun r_2 w_3 => ((w_3.1 60 5) ≤ r_2 → (pX9_seekW_100 (pX9_seekW_53 post n) post x3 x4 w_3)) ∧ (¬ (w_3.1 60 5) ≤ r_2 → (∀ w_5, w_5 = sI w_3 60 5 r_2 → pX9_seekW_100 (pX9_seekW_53 post n) post x4 x4 w_5))) (w.2.1 162 x4.toNatClampNeg) (4 : Int32) w))) := Iff.rfl
theorem xX9_waxFrom_97 {post : Int32 → Wd → Prop} {x1 : Int32} {x2 : Int32} {x3 : Int32} {x4 : Int32} {x5 : Int32} {x6 : Int32} {w : Wd} : (∃ n, pX9_waxFrom_97 post n x1 x2 x3 x4 x5 x6 w) ↔ (∃ n, pX9_waxFrom_97 post (n + 1) x1 x2 x3 x4 x5 x6 w) := ⟨fun ⟨n, h⟩ => match n, h with | 0, h => False.elim h | n + 1, h => ⟨n, h⟩, fun ⟨n, h⟩ => ⟨n + 1, h⟩⟩
theorem sX9_waxFrom_97 {post : Int32 → Wd → Prop} {x1 : Int32} {x2 : Int32} {x3 : Int32} {x4 : Int32} {x5 : Int32} {x6 : Int32} {w : Wd} {n : Nat} : pX9_waxFrom_97 post (n + 1) x1 x2 x3 x4 x5 x6 w ↔ (pX1_handCount (fun r_1 w_2 => (r_1 ≤ x6 → ((x4 = 0 → (post x5 w_2)) ∧ (¬ x4 = 0 → (vp_in x3 12288 ∧ ∀ w_5, w_5 = sA w_2 63 x3.toNatClampNeg x5 → post x5 w_5)))) ∧ (¬ r_1 ≤ x6 → (∃ n9, pX9_waxFrom_112 (pX9_waxFrom_97 post n) post n9 x1 x2 x3 x4 x5 x6 (0 : Int32) w_2))) w) := Iff.rfl
theorem xX9_waxFrom_112 {k97 : Int32 → Int32 → Int32 → Int32 → Int32 → Int32 → Wd → Prop} {post : Int32 → Wd → Prop} {x1 : Int32} {x2 : Int32} {x3 : Int32} {x4 : Int32} {x5 : Int32} {x6 : Int32} {x7 : Int32} {w : Wd} : (∃ n, pX9_waxFrom_112 k97 post n x1 x2 x3 x4 x5 x6 x7 w) ↔ (∃ n, pX9_waxFrom_112 k97 post (n + 1) x1 x2 x3 x4 x5 x6 x7 w) := ⟨fun ⟨n, h⟩ => match n, h with | 0, h => False.elim h | n + 1, h => ⟨n, h⟩, fun ⟨n, h⟩ => ⟨n + 1, h⟩⟩
theorem sX9_waxFrom_112 {k97 : Int32 → Int32 → Int32 → Int32 → Int32 → Int32 → Wd → Prop} {post : Int32 → Wd → Prop} {x1 : Int32} {x2 : Int32} {x3 : Int32} {x4 : Int32} {x5 : Int32} {x6 : Int32} {x7 : Int32} {w : Wd} {n : Nat} : pX9_waxFrom_112 k97 post (n + 1) x1 x2 x3 x4 x5 x6 x7 w ↔ (False) := Iff.rfl
theorem xX9_layWay_11 {post : Wd → Prop} {x3 : Int32} {x4 : Int32} {x5 : Int32} {w : Wd} : (∃ n, pX9_layWay_11 post n x3 x4 x5 w) ↔ (∃ n, pX9_layWay_11 post (n + 1) x3 x4 x5 w) := ⟨fun ⟨n, h⟩ => match n, h with | 0, h => False.elim h | n + 1, h => ⟨n, h⟩, fun ⟨n, h⟩ => ⟨n + 1, h⟩⟩
theorem sX9_layWay_11 {post : Wd → Prop} {x3 : Int32} {x4 : Int32} {x5 : Int32} {w : Wd} {n : Nat} : pX9_layWay_11 post (n + 1) x3 x4 x5 w ↔ ((x5 ≤ 0 → (post w)) ∧ (¬ x5 ≤ 0 → ((x3 = (w.1 60 3) → (post w)) ∧ (¬ x3 = (w.1 60 3) → (False))))) := Iff.rfl
set_option maxHeartbeats 2000000 in
set_option maxRecDepth 100000 in
theorem ev_wax {f : Nat → Int64} {x1 : Int32} : pX10_waxW (fun r _ => pX11_wax (fun r2 _ => r2 = r) x1 wFM) x1 (wFX f) := by
  by_cases hr : ¬ x1 < 0 ∧ ¬ (256 : Int32) ≤ x1
  · have hM := wax_M hr.1 hr.2
    intro w1 e1
    have e1 : w1 = wFX f := by rw [e1]; exact sI_id rfl
    subst e1
    have i8 : ((1 : Int32) <<< ((wFX f).1 (rl ((wFX f).2.2.2.2 0)) 0 &&& 31)) = 256 := by
      show (1 : Int32) <<< ((8 : Int32) &&& 31) = 256
      decide
    refine ⟨fun c => absurd c hr.1, fun _ => ⟨fun c => absurd (by rw [← i8]; exact c) hr.2, fun _ => ⟨fun _ => ?_, fun c => absurd c (by decide)⟩⟩⟩
    intro w2 e2 w3 e3
    have h3 : w3 = sI (sI (wFX f) 60 3 x1) 60 4 256 := by rw [e3, e2, i8, if_neg (by decide)]
    refine ⟨769, ?_⟩
    refine loop_up (fun n x w => pX9_seekW_18 _ n x w) (fun _ w => w.1 = w3.1 ∧ (∀ a, a ≠ 63 → w.2.1 a = w3.2.1 a) ∧ w.2.2.2.2 = w3.2.2.2.2) 768 ?_ ?_ 768 0 w3 rfl ⟨rfl, fun _ _ => rfl, rfl⟩
    · intro n i w hi hI k
      have hb : (3 : Int32) * (w.1 60 4) = nI 768 := by rw [hI.1, h3]; show (3 : Int32) * 256 = nI 768; decide
      refine ⟨fun c => absurd (by rw [← hb]; exact c) (nI_ge (b := 768) hi (by decide)), fun _ => ⟨vp_in_nI (by omega) (by decide), fun w4 e4 x e5 => ?_⟩⟩
      rw [e5, nI_1]
      refine k w4 ⟨by rw [e4]; exact hI.1, fun a ha => ?_, by rw [e4]; exact hI.2.2⟩
      rw [e4, sA_ne ha]
      exact hI.2.1 a ha
    · intro n w hI
      have hb : (3 : Int32) * (w.1 60 4) = nI 768 := by rw [hI.1, h3]; show (3 : Int32) * 256 = nI 768; decide
      refine ⟨fun _ => ?_, fun c => absurd (by rw [hb]; decide) c⟩
      have q1 : w.1 60 3 = x1 := by rw [hI.1, h3]; rfl
      have q2 : w.1 60 4 = 256 := by rw [hI.1, h3]; rfl
      have q3 : w.1 160 0 = 1 := by rw [hI.1, h3]; rfl
      have q4 : w.2.1 162 0 = 0 := by rw [hI.2.1 162 (by decide), h3]; rfl
      have q5 : w.2.2.2.2 0 = false := by rw [hI.2.2, h3]; rfl
      have q6 : w.2.2.2.2 3 = false := by rw [hI.2.2, h3]; rfl
      have q7 : w.1 120 2 = 0 := by rw [hI.1, h3]; rfl
      have q8 : w.1 110 1 = 0 := by rw [hI.1, h3]; rfl
      clear hI h3 e3 e2 hb
      by_cases hx : x1 = 0
      · subst hx
        have ha : aW 0 = 0 := rfl
        rw [ha] at hM
        simp [pX9_seekW_100, pX9_waxFrom, pX9_waxFrom_64, pX9_waxFrom_65, pX9_waxFrom_89, pX1_handCount, pX10_isRow, pX7_rows, pX10_isSeal, pX4_lay, pX9_layWay, sX9_seekW_53, sX9_waxFrom_97, sX9_waxFrom_112, sX9_layWay_11, xX9_seekW_53, xX9_waxFrom_97, xX9_waxFrom_112, xX9_layWay_11, q1, q2, q3, q4, q5, q6, q7, q8, hM, rlF, rlT, i256, vn0, vn1, tn_0, tn_1, tn_2, tn_3, tn_4, tn_5, tn_6, tn_7, tn_8, tn_9, tn_10, tn_11, tn_12, tn_216, tn_217, tn_218, tn_219, tn_220, fx_0_13, fx_0_14, fx_0_15, fx_160_0, fx_160_6, fx_160_10, fx_160_11, fx_160_12, fx_160_13, fx_50_7, fx_50_8, fx_70_0, fx_70_1, fx_110_1, fx_90_0, fx_20_3, fx_30_2, fx_30_3, fx_30_4, fx_30_5, fx_30_7, fx_60_3, fx_60_4, fx_60_5, fx_120_0, fx_120_1, fx_120_2, fx_120_3, fx_120_4, fx_120_5, fx_120_9, fx_120_11, fx_140_0, fx_140_1, fx_140_2, fx_140_3, fx_140_4, fx_140_5, fx_140_9, fx_140_11, fxa_162_0, fxa_163_0, fxa_164_0, fxa_165_0, fxa_166_0, fxa_12_0, fxa_12_1, fxa_12_2, fxr_0, fxr_1, fxr_2, fxr_3, fm_2, fm_3, fm_4, fm_6, fm_7, fm_8, fm_9, fm_29, fm_30, fm_31, fm_32, fm_33, fm_34, fm_42, fm_43, fm_48, fm_58, fm_59, fm_63, fm_5, fma_312_0, fma_313_0, fma_314_0, fma_315_0, fma_316_0, fma_317_0, fma_318_0, fma_341_0, fma_341_1, fma_341_2, fma_341_3, fma_341_216, fma_341_217, fma_341_218, fma_341_219, fma_341_220, fma_369_0, fma_369_1, fma_369_2, rI1, rI2, rI5, rA1, rA2, rA5, rR1, rR2, rR5, rC1, rC2, rC5, vi_0_40, vi_0_24, vi_0_3, vi_1_3, vi_2_3, vi_0_2, vi_1_2, vi_0_16, vi_0_1602, vi_0_12288, vi_0_1600, vi_0_1620]
      · have ha : aW x1 = -1 := if_neg hx
        rw [ha] at hM
        have hx2 : ¬ (0 : Int32) = x1 := fun z => hx z.symm
        simp [pX9_seekW_100, pX9_waxFrom, pX9_waxFrom_64, pX9_waxFrom_65, pX9_waxFrom_89, pX1_handCount, pX10_isRow, pX7_rows, pX10_isSeal, pX4_lay, pX9_layWay, sX9_seekW_53, sX9_waxFrom_97, sX9_waxFrom_112, sX9_layWay_11, xX9_seekW_53, xX9_waxFrom_97, xX9_waxFrom_112, xX9_layWay_11, q1, q2, q3, q4, q5, q6, q7, q8, hM, hx2, rlF, rlT, i256, vn0, vn1, tn_0, tn_1, tn_2, tn_3, tn_4, tn_5, tn_6, tn_7, tn_8, tn_9, tn_10, tn_11, tn_12, tn_216, tn_217, tn_218, tn_219, tn_220, fx_0_13, fx_0_14, fx_0_15, fx_160_0, fx_160_6, fx_160_10, fx_160_11, fx_160_12, fx_160_13, fx_50_7, fx_50_8, fx_70_0, fx_70_1, fx_110_1, fx_90_0, fx_20_3, fx_30_2, fx_30_3, fx_30_4, fx_30_5, fx_30_7, fx_60_3, fx_60_4, fx_60_5, fx_120_0, fx_120_1, fx_120_2, fx_120_3, fx_120_4, fx_120_5, fx_120_9, fx_120_11, fx_140_0, fx_140_1, fx_140_2, fx_140_3, fx_140_4, fx_140_5, fx_140_9, fx_140_11, fxa_162_0, fxa_163_0, fxa_164_0, fxa_165_0, fxa_166_0, fxa_12_0, fxa_12_1, fxa_12_2, fxr_0, fxr_1, fxr_2, fxr_3, fm_2, fm_3, fm_4, fm_6, fm_7, fm_8, fm_9, fm_29, fm_30, fm_31, fm_32, fm_33, fm_34, fm_42, fm_43, fm_48, fm_58, fm_59, fm_63, fm_5, fma_312_0, fma_313_0, fma_314_0, fma_315_0, fma_316_0, fma_317_0, fma_318_0, fma_341_0, fma_341_1, fma_341_2, fma_341_3, fma_341_216, fma_341_217, fma_341_218, fma_341_219, fma_341_220, fma_369_0, fma_369_1, fma_369_2, rI1, rI2, rI5, rA1, rA2, rA5, rR1, rR2, rR5, rC1, rC2, rC5, vi_0_40, vi_0_24, vi_0_3, vi_1_3, vi_2_3, vi_0_2, vi_1_2, vi_0_16, vi_0_1602, vi_0_12288, vi_0_1600, vi_0_1620]
  · simp [pX10_waxW, pX11_wax, pX10_isRow, pX7_rows, pX11_isRow, pX11_width, rlF, rlT, i256, vn0, vn1, tn_0, tn_1, tn_2, tn_3, tn_4, tn_5, tn_6, tn_7, tn_8, tn_9, tn_10, tn_11, tn_12, tn_216, tn_217, tn_218, tn_219, tn_220, fx_0_13, fx_0_14, fx_0_15, fx_160_0, fx_160_6, fx_160_10, fx_160_11, fx_160_12, fx_160_13, fx_50_7, fx_50_8, fx_70_0, fx_70_1, fx_110_1, fx_90_0, fx_20_3, fx_30_2, fx_30_3, fx_30_4, fx_30_5, fx_30_7, fx_60_3, fx_60_4, fx_60_5, fx_120_0, fx_120_1, fx_120_2, fx_120_3, fx_120_4, fx_120_5, fx_120_9, fx_120_11, fx_140_0, fx_140_1, fx_140_2, fx_140_3, fx_140_4, fx_140_5, fx_140_9, fx_140_11, fxa_162_0, fxa_163_0, fxa_164_0, fxa_165_0, fxa_166_0, fxa_12_0, fxa_12_1, fxa_12_2, fxr_0, fxr_1, fxr_2, fxr_3, fm_2, fm_3, fm_4, fm_6, fm_7, fm_8, fm_9, fm_29, fm_30, fm_31, fm_32, fm_33, fm_34, fm_42, fm_43, fm_48, fm_58, fm_59, fm_63, fm_5, fma_312_0, fma_313_0, fma_314_0, fma_315_0, fma_316_0, fma_317_0, fma_318_0, fma_341_0, fma_341_1, fma_341_2, fma_341_3, fma_341_216, fma_341_217, fma_341_218, fma_341_219, fma_341_220, fma_369_0, fma_369_1, fma_369_2, rI1, rI2, rI5, rA1, rA2, rA5, rR1, rR2, rR5, rC1, rC2, rC5, vi_0_40, vi_0_24, vi_0_3, vi_1_3, vi_2_3, vi_0_2, vi_1_2, vi_0_16, vi_0_1602, vi_0_12288, vi_0_1600, vi_0_1620]
    repeat' (first | (apply And.intro) | intro)
    all_goals (try first | rfl | ((try simp only [← Int32.toInt_inj, Int32.lt_iff_toInt_lt, Int32.le_iff_toInt_le, ti_m2, ti_m1, ti_0, ti_1, ti_2, ti_3, ti_4, ti_5, ti_6, ti_7, ti_8, ti_9, ti_10, ti_11, ti_12, ti_16, ti_22, ti_23, ti_24, ti_31, ti_32, ti_39, ti_40, ti_99, ti_100, ti_255, ti_256, ti_999, ti_1000, ti_100000, ti_1580, ti_1600, tn_0, tn_1, tn_2, tn_3, tn_4, tn_5, tn_6, tn_7, tn_8, tn_9, tn_10, tn_11, tn_12, tn_216, tn_217, tn_218, tn_219, tn_220] at *); omega))
