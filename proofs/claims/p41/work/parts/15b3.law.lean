set_option maxRecDepth 100000 in
theorem law_ret {p : Program} {l : Launch} {e : Env} {s : State} {m : MethodId} {below : List Frame} {meth : Method} {c : Code} {H : Heap} {locs : List Loc} {ls : Array Slot} {b cells slots : Nat} (hx : p.tables.exec = Jvm.exec) (hb : c.code = code) (hr : meth.sig.returnType = ret) (hlocks : meth.locks = false) (hS : va_S (fun q : Nat => s.heap.size ≤ q) s.heap H locs) (h1 : cells ≤ 600000) (h2 : slots ≤ 7302249) : W p l e room_1 s m #[Value.ref b] below meth c H locs cells slots (lw_Z below #[Value.ref b] s) (F0 m 2081 ls []) := by
  refine lv_iconst (v := 1) hx hb dL_law_2081 (by decide) ?_
  refine va_forget (fun q hq => hS.2.2 q hq) ?_
  refine W.widen h1 h2 ?_
  exact lw_ret hx hb hr hlocks dL_law_2082
/-- the law's state at the loop's head -/
def LI4 (k : Nat) (w w2 : Wd) : Prop := ∃ T : Int, (0 ≤ T ∧ T ≤ 100000) ∧ JX k T w ∧ JM T w2
set_option maxHeartbeats 4000000 in
set_option maxRecDepth 100000 in
theorem law4_switch {p : Program} {l : Launch} {e : Env} {s : State} {m : MethodId} {below : List Frame} {meth : Method} {c : Code} {H : Heap} {locs : List Loc} {ls : Array Slot} {b L i k : Nat} {xs : Nat → Int32} {g g2 : Gw} {w w2 : Wd} (hLC : LC4 p s m c b L xs (fun q : Nat => s.heap.size ≤ q) g g2) (hi : i + 6 ≤ L) (hk : k < 1000) (hP : va_P g.1 vwCl (wsW tabX g w ++ wsW tabM g2 w2) H) (hD : va_D (fun q : Nat => s.heap.size ≤ q) (wsW tabX g w ++ wsW tabM g2 w2)) (hI : LI4 k w w2) (hS : va_S (fun q : Nat => s.heap.size ≤ q) s.heap H locs) (hl : lv_has ls 4 (lvL4 b i g g2)) (hend : ∀ (w1 w3 : Wd) (H : Heap) (locs : List Loc), LI4 (k + 1) w1 w3 → va_P g.1 vwCl (wsW tabX g w1 ++ wsW tabM g2 w3) H → va_D (fun q : Nat => s.heap.size ≤ q) (wsW tabX g w1 ++ wsW tabM g2 w3) → va_S (fun q : Nat => s.heap.size ≤ q) s.heap H locs → W p l e room_1 s m #[.ref b] below meth c H locs 134 142488 (lw_Z below #[Value.ref b] s) (F0 m 2075 ls [])) : W p l e room_1 s m #[.ref b] below meth c H locs 134 142488 (lw_Z below #[Value.ref b] s) (F0 m 33 ls [.int (xs i &&& nI 63)]) := by
  obtain ⟨T, hT, hJX, hJM⟩ := hI
  obtain ⟨hC, hC2, hgg, hXs, hbl, hbA, hA, hL⟩ := id hLC
  have hx := hC.1
  have hb := hC.2.1
  have he : ∀ (w1 w3 : Wd) (H : Heap) (locs : List Loc), JX (k + 1) T w1 → JM T w3 → va_P g.1 vwCl (wsW tabX g w1 ++ wsW tabM g2 w3) H → va_D (fun q : Nat => s.heap.size ≤ q) (wsW tabX g w1 ++ wsW tabM g2 w3) → va_S (fun q : Nat => s.heap.size ≤ q) s.heap H locs → W p l e room_1 s m #[.ref b] below meth c H locs 134 142488 (lw_Z below #[Value.ref b] s) (F0 m 2075 ls []) := fun w1 w3 H locs h1 h2 hP hD hS => hend w1 w3 H locs ⟨T, hT, h1, h2⟩ hP hD hS
  have hU : JX (k + 1) T w := by
    obtain ⟨D, q⟩ := hJX
    exact ⟨D, ix_up q hk⟩
  generalize hv : xs i &&& nI 63 = v
  by_cases h0 : v.toInt < 0 ∨ 50 < v.toInt
  · exact lv_tableOut (tgt := 2075) hx hb dL_law_33 h0 (by decide) (he w w2 H locs hU hJM hP hD hS)
  · have h1 : ¬ v.toInt < 0 := fun z => h0 (Or.inl z)
    have h2 : ¬ 50 < v.toInt := fun z => h0 (Or.inr z)
    rcases (show v.toInt = 0 ∨ v.toInt = 1 ∨ v.toInt = 2 ∨ v.toInt = 3 ∨ v.toInt = 4 ∨ v.toInt = 5 ∨ v.toInt = 6 ∨ v.toInt = 7 ∨ v.toInt = 8 ∨ v.toInt = 9 ∨ v.toInt = 10 ∨ v.toInt = 11 ∨ v.toInt = 12 ∨ v.toInt = 13 ∨ v.toInt = 14 ∨ v.toInt = 15 ∨ v.toInt = 16 ∨ v.toInt = 17 ∨ v.toInt = 18 ∨ v.toInt = 19 ∨ v.toInt = 20 ∨ v.toInt = 21 ∨ v.toInt = 22 ∨ v.toInt = 23 ∨ v.toInt = 24 ∨ v.toInt = 25 ∨ v.toInt = 26 ∨ v.toInt = 27 ∨ v.toInt = 28 ∨ v.toInt = 29 ∨ v.toInt = 30 ∨ v.toInt = 31 ∨ v.toInt = 32 ∨ v.toInt = 33 ∨ v.toInt = 34 ∨ v.toInt = 35 ∨ v.toInt = 36 ∨ v.toInt = 37 ∨ v.toInt = 38 ∨ v.toInt = 39 ∨ v.toInt = 40 ∨ v.toInt = 41 ∨ v.toInt = 42 ∨ v.toInt = 43 ∨ v.toInt = 44 ∨ v.toInt = 45 ∨ v.toInt = 46 ∨ v.toInt = 47 ∨ v.toInt = 48 ∨ v.toInt = 49 ∨ v.toInt = 50 by omega) with h3 | h3 | h3 | h3 | h3 | h3 | h3 | h3 | h3 | h3 | h3 | h3 | h3 | h3 | h3 | h3 | h3 | h3 | h3 | h3 | h3 | h3 | h3 | h3 | h3 | h3 | h3 | h3 | h3 | h3 | h3 | h3 | h3 | h3 | h3 | h3 | h3 | h3 | h3 | h3 | h3 | h3 | h3 | h3 | h3 | h3 | h3 | h3 | h3 | h3 | h3
    · exact lv_tableIn (tgt := 252) hx hb dL_law_33 h1 h2 (by rw [h3]; rfl) (by decide) (case4_feed hLC hi hP hD hS hl (hx_feed hJX hk) (hm_feed hJM) he)
    · exact lv_tableIn (tgt := 315) hx hb dL_law_33 h1 h2 (by rw [h3]; rfl) (by decide) (case4_end hLC hi hP hD hS hl (hx_end hJX hk) (hm_end hJM) he)
    · exact lv_tableIn (tgt := 338) hx hb dL_law_33 h1 h2 (by rw [h3]; rfl) (by decide) (case4_chancery hLC hi hP hD hS hl (hx_chancery hJX hk) (hm_chancery hJM) he)
    · exact lv_tableIn (tgt := 351) hx hb dL_law_33 h1 h2 (by rw [h3]; rfl) (by decide) (case4_fault hLC hi hP hD hS hl (hx_fault hJX hk) (hm_fault hJM) he)
    · exact lv_tableIn (tgt := 374) hx hb dL_law_33 h1 h2 (by rw [h3]; rfl) (by decide) (case4_seal hLC hi hP hD hS hl (hx_seal hJX hk) (hm_seal hJM) he)
    · exact lv_tableIn (tgt := 407) hx hb dL_law_33 h1 h2 (by rw [h3]; rfl) (by decide) (case4_shown hLC hi hP hD hS hl (hx_shown hJX hk) (hm_shown hJM) he)
    · exact lv_tableIn (tgt := 440) hx hb dL_law_33 h1 h2 (by rw [h3]; rfl) (by decide) (case4_prints hLC hi hP hD hS hl (hx_prints hJX hk) (hm_prints hJM) he)
    · exact lv_tableIn (tgt := 473) hx hb dL_law_33 h1 h2 (by rw [h3]; rfl) (by decide) (case4_turned hLC hi hP hD hS hl (hx_turned hJX hk) (hm_turned hJM) he)
    · exact lv_tableIn (tgt := 496) hx hb dL_law_33 h1 h2 (by rw [h3]; rfl) (by decide) (case4_would hLC hi hP hD hS hl (hx_would hJX hk) (hm_would hJM) he)
    · exact lv_tableIn (tgt := 549) hx hb dL_law_33 h1 h2 (by rw [h3]; rfl) (by decide) (case4_cast hLC hi hP hD hS hl (hx_cast hJX hk) (hm_cast hJM) he)
    · exact lv_tableIn (tgt := 592) hx hb dL_law_33 h1 h2 (by rw [h3]; rfl) (by decide) (case4_print hLC hi hP hD hS hl (hx_print hJX hk) (hm_print hJM) he)
    · exact lv_tableIn (tgt := 615) hx hb dL_law_33 h1 h2 (by rw [h3]; rfl) (by decide) (case4_crack hLC hi hP hD hS hl (hx_crack hJX hk) (hm_crack hJM) he)
    · exact lv_tableIn (tgt := 648) hx hb dL_law_33 h1 h2 (by rw [h3]; rfl) (by decide) (case4_year hLC hi hP hD hS hl (hx_year hJX hk) (hm_year hJM) he)
    · exact lv_tableIn (tgt := 661) hx hb dL_law_33 h1 h2 (by rw [h3]; rfl) (by decide) (case4_undo hLC hi hP hD hS hl (hx_undo hJX hk) (hm_undo hJM) he)
    · exact lv_tableIn (tgt := 674) hx hb dL_law_33 h1 h2 (by rw [h3]; rfl) (by decide) (case4_redo hLC hi hP hD hS hl (hx_redo hJX hk) (hm_redo hJM) he)
    · exact lv_tableIn (tgt := 687) hx hb dL_law_33 h1 h2 (by rw [h3]; rfl) (by decide) (case4_whose hLC hi hP hD hS hl (hx_whose hJX hk) (hm_whose hJM) he)
    · exact lv_tableIn (tgt := 730) hx hb dL_law_33 h1 h2 (by rw [h3]; rfl) (by decide) (case4_made hLC hi hP hD hS hl (hx_made hJX hk) (hm_made hJM) he)
    · exact lv_tableIn (tgt := 763) hx hb dL_law_33 h1 h2 (by rw [h3]; rfl) (by decide) (case4_apart hLC hi hP hD hS hl (hx_apart hJX hk) (hm_apart hJM) he)
    · exact lv_tableIn (tgt := 822) hx hb dL_law_33 h1 h2 (by rw [h3]; rfl) (by decide) (case4_heats hLC hi hP hD hS hl (hx_heats hJX hk) (hm_heats hJM) he)
    · exact lv_tableIn (tgt := 865) hx hb dL_law_33 h1 h2 (by rw [h3]; rfl) (by decide) (case4_luck hLC hi hP hD hS hl (hx_luck hJX hk) (hm_luck hJM) he)
    · exact lv_tableIn (tgt := 918) hx hb dL_law_33 h1 h2 (by rw [h3]; rfl) (by decide) (case4_likely hLC hi hP hD hS hl (hx_likely hJX hk) (hm_likely hJM) he)
    · exact lv_tableIn (tgt := 971) hx hb dL_law_33 h1 h2 (by rw [h3]; rfl) (by decide) (case4_fades hLC hi hP hD hS hl (hx_fades hJX hk) (hm_fades hJM) he)
    · exact lv_tableIn (tgt := 1014) hx hb dL_law_33 h1 h2 (by rw [h3]; rfl) (by decide) (case4_kin hLC hi hP hD hS hl (hx_kin hJX hk) (hm_kin hJM) he)
    · exact lv_tableIn (tgt := 1057) hx hb dL_law_33 h1 h2 (by rw [h3]; rfl) (by decide) (case4_thumb hLC hi hP hD hS hl (hx_thumb hJX hk) (hm_thumb hJM) he)
    · exact lv_tableIn (tgt := 1090) hx hb dL_law_33 h1 h2 (by rw [h3]; rfl) (by decide) (case4_share hLC hi hP hD hS hl (hx_share hJX hk) (hm_share hJM) he)
    · exact lv_tableIn (tgt := 1133) hx hb dL_law_33 h1 h2 (by rw [h3]; rfl) (by decide) (case4_forge hLC hi hP hD hS hl (hx_forge hJX hk) (hm_forge hJM) he)
    · exact lv_tableIn (tgt := 1196) hx hb dL_law_33 h1 h2 (by rw [h3]; rfl) (by decide) (case4_nearest hLC hi hP hD hS hl (hx_nearest hJX hk) (hm_nearest hJM) he)
    · exact lv_tableIn (tgt := 1229) hx hb dL_law_33 h1 h2 (by rw [h3]; rfl) (by decide) (case4_common hLC hi hP hD hS hl (hx_common hJX hk) (hm_common hJM) he)
    · exact lv_tableIn (tgt := 1252) hx hb dL_law_33 h1 h2 (by rw [h3]; rfl) (by decide) (case4_alike hLC hi hP hD hS hl (hx_alike hJX hk) (hm_alike hJM) he)
    · exact lv_tableIn (tgt := 1301) hx hb dL_law_33 h1 h2 (by rw [h3]; rfl) (by decide) (case4_tell hLC hi hP hD hS hl (hx_tell hJX hk) (hm_tell hJM) he)
    · exact lv_tableIn (tgt := 1314) hx hb dL_law_33 h1 h2 (by rw [h3]; rfl) (by decide) (case4_round hLC hi hP hD hS hl (hx_round hJX hk) (hm_round hJM) he)
    · exact lv_tableIn (tgt := 1367) hx hb dL_law_33 h1 h2 (by rw [h3]; rfl) (by decide) (case4_steady hLC hi hP hD hS hl (hx_steady hJX hk) (hm_steady hJM) he)
    · exact lv_tableIn (tgt := 1410) hx hb dL_law_33 h1 h2 (by rw [h3]; rfl) (by decide) (case4_against hLC hi hP hD hS hl (hx_against hJX hk) (hm_against hJM) he)
    · exact lv_tableIn (tgt := 1453) hx hb dL_law_33 h1 h2 (by rw [h3]; rfl) (by decide) (case4_wax hLC hi hP hD hS hl (hx_wax hJX hk) (hm_wax hJM) he)
    · exact lv_tableIn (tgt := 1476) hx hb dL_law_33 h1 h2 (by rw [h3]; rfl) (by decide) (case4_sample hLC hi hP hD hS hl (hx_sample hJX hk) (hm_sample hJM) he)
    · exact lv_tableIn (tgt := 1525) hx hb dL_law_33 h1 h2 (by rw [h3]; rfl) (by decide) (case4_claim hLC hi hP hD hS hl (hx_claim hJX hk) (hm_claim hJM) he)
    · exact lv_tableIn (tgt := 1568) hx hb dL_law_33 h1 h2 (by rw [h3]; rfl) (by decide) (case4_saw hLC hi hP hD hS hl (hx_saw hJX hk) (hm_saw hJM) he)
    · exact lv_tableIn (tgt := 1627) hx hb dL_law_33 h1 h2 (by rw [h3]; rfl) (by decide) (case4_link hLC hi hP hD hS hl (hx_link hJX hk) (hm_link hJM) he)
    · exact lv_tableIn (tgt := 1686) hx hb dL_law_33 h1 h2 (by rw [h3]; rfl) (by decide) (case4_untell hLC hi hP hD hS hl (hx_untell hJX hk) (hm_untell hJM) he)
    · exact lv_tableIn (tgt := 1709) hx hb dL_law_33 h1 h2 (by rw [h3]; rfl) (by decide) (case4_later hLC hi hP hD hS hl (hl_later hJX hJM hk hT) (fun w1 w3 H locs h1 h2 hP hD hS => hend w1 w3 H locs ⟨_, ltr_rng hT, h1, h2⟩ hP hD hS))
    · exact lv_tableIn (tgt := 1732) hx hb dL_law_33 h1 h2 (by rw [h3]; rfl) (by decide) (case4_tree hLC hi hP hD hS hl (hx_tree hJX hk) (hm_tree hJM) he)
    · exact lv_tableIn (tgt := 1775) hx hb dL_law_33 h1 h2 (by rw [h3]; rfl) (by decide) (case4_centre hLC hi hP hD hS hl (hx_centre hJX hk) (hm_centre hJM) he)
    · exact lv_tableIn (tgt := 1808) hx hb dL_law_33 h1 h2 (by rw [h3]; rfl) (by decide) (case4_clans hLC hi hP hD hS hl (hx_clans hJX hk) (hm_clans hJM) he)
    · exact lv_tableIn (tgt := 1851) hx hb dL_law_33 h1 h2 (by rw [h3]; rfl) (by decide) (case4_origin hLC hi hP hD hS hl (hx_origin hJX hk) (hm_origin hJM) he)
    · exact lv_tableIn (tgt := 1884) hx hb dL_law_33 h1 h2 (by rw [h3]; rfl) (by decide) (case4_falses hLC hi hP hD hS hl (hx_falses hJX hk) (hm_falses hJM) he)
    · exact lv_tableIn (tgt := 1907) hx hb dL_law_33 h1 h2 (by rw [h3]; rfl) (by decide) (case4_span hLC hi hP hD hS hl (hx_span hJX hk) (hm_span hJM) he)
    · exact lv_tableIn (tgt := 1950) hx hb dL_law_33 h1 h2 (by rw [h3]; rfl) (by decide) (case4_backward hLC hi hP hD hS hl (hx_backward hJX hk) (hm_backward hJM) he)
    · exact lv_tableIn (tgt := 1983) hx hb dL_law_33 h1 h2 (by rw [h3]; rfl) (by decide) (case4_lies hLC hi hP hD hS hl (hx_lies hJX hk) (hm_lies hJM) he)
    · exact lv_tableIn (tgt := 2006) hx hb dL_law_33 h1 h2 (by rw [h3]; rfl) (by decide) (case4_image hLC hi hP hD hS hl (hx_image hJX hk) (hm_image hJM) he)
    · exact lv_tableIn (tgt := 2029) hx hb dL_law_33 h1 h2 (by rw [h3]; rfl) (by decide) (case4_back hLC hi hP hD hS hl (hx_back hJX hk) (hm_back hJM) he)
    · exact lv_tableIn (tgt := 2052) hx hb dL_law_33 h1 h2 (by rw [h3]; rfl) (by decide) (case4_about hLC hi hP hD hS hl (hx_about hJX hk) (hm_about hJM) he)
