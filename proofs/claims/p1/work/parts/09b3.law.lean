set_option maxRecDepth 100000 in
theorem law_ret {p : Program} {l : Launch} {e : Env} {s : State} {m : MethodId} {below : List Frame} {meth : Method} {c : Code} {H : Heap} {locs : List Loc} {ls : Array Slot} {b cells slots : Nat} (hx : p.tables.exec = Jvm.exec) (hb : c.code = code) (hr : meth.sig.returnType = ret) (hlocks : meth.locks = false) (hS : va_S (fun q : Nat => s.heap.size ≤ q) s.heap H locs) (h1 : cells ≤ 600000) (h2 : slots ≤ 7302249) : W p l e room_1 s m #[Value.ref b] below meth c H locs cells slots (lw_Z below #[Value.ref b] s) (F0 m 2081 ls []) := by
  refine lv_iconst (v := 1) hx hb dL_law_2081 (by decide) ?_
  refine va_forget (fun q hq => hS.2.2 q hq) ?_
  refine W.widen h1 h2 ?_
  exact lw_ret hx hb hr hlocks dL_law_2082
set_option maxRecDepth 100000 in
theorem law_end {p : Program} {l : Launch} {e : Env} {s : State} {m : MethodId} {below : List Frame} {meth : Method} {c : Code} {H : Heap} {locs : List Loc} {ls : Array Slot} {b : Nat} {xs : Nat → Int32} {g g2 : Gw} (hx : p.tables.exec = Jvm.exec) (hb : c.code = code) (hr : meth.sig.returnType = ret) (hlocks : meth.locks = false) (hX : va_X b 6 xs s s.heap) (hbl : b < s.heap.size) (hS : va_S (fun q : Nat => s.heap.size ≤ q) s.heap H locs) (hl : lv_has ls 4 (lvL b g g2)) : W p l e room_1 s m #[Value.ref b] below meth c H locs 134 142488 (lw_Z below #[Value.ref b] s) (F0 m 2075 ls []) := by
  refine lv_iinc (v := nI 6) (lv' := [(3, .int (nI 6)), (0, .ref b), (1, .ref (g.2.2 0)), (2, .ref (g2.2.2 300))]) hx hb dL_law_2075 hl (k := 3) rfl (by decide) (by decide) rfl (fun ls hl => ?_)
  refine lv_goto (tgt := 18) hx hb dL_law_2078 (by decide) ?_
  refine lv_iload_n hx hb dL_law_18 rfl (lv_at hl 0 rfl) ?_
  refine lv_aload_n hx hb dL_law_19 rfl (lv_at hl 1 rfl) ?_
  refine va_slen hx hb hX hbl (Nat.not_le.mpr hbl) hS dL_law_20 ?_
  refine lv_bipush (v := nI 6) hx hb dL_law_21 (by decide) ?_
  refine lv_isub hx hb dL_law_23 ?_
  refine lv_icmp_gt (tgt := 2081) hx hb dL_law_24 (by decide) (fun _ => ?_) (fun z => absurd (by decide) z)
  exact law_ret hx hb hr hlocks hS (by decide) (by decide)
set_option maxHeartbeats 4000000 in
set_option maxRecDepth 100000 in
theorem law_switch {p : Program} {l : Launch} {e : Env} {s : State} {m : MethodId} {below : List Frame} {meth : Method} {c : Code} {H : Heap} {locs : List Loc} {ls : Array Slot} {b : Nat} {xs : Nat → Int32} {g g2 : Gw} {w : Wd} (hr : meth.sig.returnType = ret) (hlocks : meth.locks = false) (hLC : LC p s m c b xs (fun q : Nat => s.heap.size ≤ q) g g2) (hP : va_P g.1 vwCl (wsW tabX g w ++ wsW tabM g2 wFM) H) (hD : va_D (fun q : Nat => s.heap.size ≤ q) (wsW tabX g w ++ wsW tabM g2 wFM)) (hFX : FX w) (hS : va_S (fun q : Nat => s.heap.size ≤ q) s.heap H locs) (hl : lv_has ls 4 (lvL b g g2)) : W p l e room_1 s m #[.ref b] below meth c H locs 134 142488 (lw_Z below #[Value.ref b] s) (F0 m 33 ls [.int (xs 0 &&& nI 63)]) := by
  obtain ⟨f, rfl⟩ := hFX
  obtain ⟨hC, hC2, hgg, hXs, hbl, hbA, hA⟩ := id hLC
  have hx := hC.1
  have hb := hC.2.1
  have hend : ∀ (H : Heap) (locs : List Loc), va_S (fun q : Nat => s.heap.size ≤ q) s.heap H locs → W p l e room_1 s m #[.ref b] below meth c H locs 134 142488 (lw_Z below #[Value.ref b] s) (F0 m 2075 ls []) := fun H locs hS => law_end hx hb hr hlocks hXs hbl hS hl
  generalize hv : xs 0 &&& nI 63 = v
  by_cases h0 : v.toInt < 0 ∨ 50 < v.toInt
  · exact lv_tableOut (tgt := 2075) hx hb dL_law_33 h0 (by decide) (hend H locs hS)
  · have h1 : ¬ v.toInt < 0 := fun z => h0 (Or.inl z)
    have h2 : ¬ 50 < v.toInt := fun z => h0 (Or.inr z)
    rcases (show v.toInt = 0 ∨ v.toInt = 1 ∨ v.toInt = 2 ∨ v.toInt = 3 ∨ v.toInt = 4 ∨ v.toInt = 5 ∨ v.toInt = 6 ∨ v.toInt = 7 ∨ v.toInt = 8 ∨ v.toInt = 9 ∨ v.toInt = 10 ∨ v.toInt = 11 ∨ v.toInt = 12 ∨ v.toInt = 13 ∨ v.toInt = 14 ∨ v.toInt = 15 ∨ v.toInt = 16 ∨ v.toInt = 17 ∨ v.toInt = 18 ∨ v.toInt = 19 ∨ v.toInt = 20 ∨ v.toInt = 21 ∨ v.toInt = 22 ∨ v.toInt = 23 ∨ v.toInt = 24 ∨ v.toInt = 25 ∨ v.toInt = 26 ∨ v.toInt = 27 ∨ v.toInt = 28 ∨ v.toInt = 29 ∨ v.toInt = 30 ∨ v.toInt = 31 ∨ v.toInt = 32 ∨ v.toInt = 33 ∨ v.toInt = 34 ∨ v.toInt = 35 ∨ v.toInt = 36 ∨ v.toInt = 37 ∨ v.toInt = 38 ∨ v.toInt = 39 ∨ v.toInt = 40 ∨ v.toInt = 41 ∨ v.toInt = 42 ∨ v.toInt = 43 ∨ v.toInt = 44 ∨ v.toInt = 45 ∨ v.toInt = 46 ∨ v.toInt = 47 ∨ v.toInt = 48 ∨ v.toInt = 49 ∨ v.toInt = 50 by omega) with h3 | h3 | h3 | h3 | h3 | h3 | h3 | h3 | h3 | h3 | h3 | h3 | h3 | h3 | h3 | h3 | h3 | h3 | h3 | h3 | h3 | h3 | h3 | h3 | h3 | h3 | h3 | h3 | h3 | h3 | h3 | h3 | h3 | h3 | h3 | h3 | h3 | h3 | h3 | h3 | h3 | h3 | h3 | h3 | h3 | h3 | h3 | h3 | h3 | h3 | h3
    · exact lv_tableIn (tgt := 252) hx hb dL_law_33 h1 h2 (by rw [h3]; rfl) (by decide) (case_feed hLC hP hD hS hl ev_feed hend)
    · exact lv_tableIn (tgt := 315) hx hb dL_law_33 h1 h2 (by rw [h3]; rfl) (by decide) (case_end hLC hP hD hS hl ev_end hend)
    · exact lv_tableIn (tgt := 338) hx hb dL_law_33 h1 h2 (by rw [h3]; rfl) (by decide) (case_chancery hLC hP hD hS hl ev_chancery hend)
    · exact lv_tableIn (tgt := 351) hx hb dL_law_33 h1 h2 (by rw [h3]; rfl) (by decide) (case_fault hLC hP hD hS hl ev_fault hend)
    · exact lv_tableIn (tgt := 374) hx hb dL_law_33 h1 h2 (by rw [h3]; rfl) (by decide) (case_seal hLC hP hD hS hl ev_seal hend)
    · exact lv_tableIn (tgt := 407) hx hb dL_law_33 h1 h2 (by rw [h3]; rfl) (by decide) (case_shown hLC hP hD hS hl ev_shown hend)
    · exact lv_tableIn (tgt := 440) hx hb dL_law_33 h1 h2 (by rw [h3]; rfl) (by decide) (case_prints hLC hP hD hS hl ev_prints hend)
    · exact lv_tableIn (tgt := 473) hx hb dL_law_33 h1 h2 (by rw [h3]; rfl) (by decide) (case_turned hLC hP hD hS hl ev_turned hend)
    · exact lv_tableIn (tgt := 496) hx hb dL_law_33 h1 h2 (by rw [h3]; rfl) (by decide) (case_would hLC hP hD hS hl ev_would hend)
    · exact lv_tableIn (tgt := 549) hx hb dL_law_33 h1 h2 (by rw [h3]; rfl) (by decide) (case_cast hLC hP hD hS hl ev_cast hend)
    · exact lv_tableIn (tgt := 592) hx hb dL_law_33 h1 h2 (by rw [h3]; rfl) (by decide) (case_print hLC hP hD hS hl ev_print hend)
    · exact lv_tableIn (tgt := 615) hx hb dL_law_33 h1 h2 (by rw [h3]; rfl) (by decide) (case_crack hLC hP hD hS hl ev_crack hend)
    · exact lv_tableIn (tgt := 648) hx hb dL_law_33 h1 h2 (by rw [h3]; rfl) (by decide) (case_year hLC hP hD hS hl ev_year hend)
    · exact lv_tableIn (tgt := 661) hx hb dL_law_33 h1 h2 (by rw [h3]; rfl) (by decide) (case_undo hLC hP hD hS hl ev_undo hend)
    · exact lv_tableIn (tgt := 674) hx hb dL_law_33 h1 h2 (by rw [h3]; rfl) (by decide) (case_redo hLC hP hD hS hl ev_redo hend)
    · exact lv_tableIn (tgt := 687) hx hb dL_law_33 h1 h2 (by rw [h3]; rfl) (by decide) (case_whose hLC hP hD hS hl ev_whose hend)
    · exact lv_tableIn (tgt := 730) hx hb dL_law_33 h1 h2 (by rw [h3]; rfl) (by decide) (case_made hLC hP hD hS hl ev_made hend)
    · exact lv_tableIn (tgt := 763) hx hb dL_law_33 h1 h2 (by rw [h3]; rfl) (by decide) (case_apart hLC hP hD hS hl (ev_apart (bz01 _)) hend)
    · exact lv_tableIn (tgt := 822) hx hb dL_law_33 h1 h2 (by rw [h3]; rfl) (by decide) (case_heats hLC hP hD hS hl ev_heats hend)
    · exact lv_tableIn (tgt := 865) hx hb dL_law_33 h1 h2 (by rw [h3]; rfl) (by decide) (case_luck hLC hP hD hS hl ev_luck hend)
    · exact lv_tableIn (tgt := 918) hx hb dL_law_33 h1 h2 (by rw [h3]; rfl) (by decide) (case_likely hLC hP hD hS hl ev_likely hend)
    · exact lv_tableIn (tgt := 971) hx hb dL_law_33 h1 h2 (by rw [h3]; rfl) (by decide) (case_fades hLC hP hD hS hl ev_fades hend)
    · exact lv_tableIn (tgt := 1014) hx hb dL_law_33 h1 h2 (by rw [h3]; rfl) (by decide) (case_kin hLC hP hD hS hl ev_kin hend)
    · exact lv_tableIn (tgt := 1057) hx hb dL_law_33 h1 h2 (by rw [h3]; rfl) (by decide) (case_thumb hLC hP hD hS hl ev_thumb hend)
    · exact lv_tableIn (tgt := 1090) hx hb dL_law_33 h1 h2 (by rw [h3]; rfl) (by decide) (case_share hLC hP hD hS hl ev_share hend)
    · exact lv_tableIn (tgt := 1133) hx hb dL_law_33 h1 h2 (by rw [h3]; rfl) (by decide) (case_forge hLC hP hD hS hl ev_forge hend)
    · exact lv_tableIn (tgt := 1196) hx hb dL_law_33 h1 h2 (by rw [h3]; rfl) (by decide) (case_nearest hLC hP hD hS hl ev_nearest hend)
    · exact lv_tableIn (tgt := 1229) hx hb dL_law_33 h1 h2 (by rw [h3]; rfl) (by decide) (case_common hLC hP hD hS hl ev_common hend)
    · exact lv_tableIn (tgt := 1252) hx hb dL_law_33 h1 h2 (by rw [h3]; rfl) (by decide) (case_alike hLC hP hD hS hl (ev_alike (bz01 _)) hend)
    · exact lv_tableIn (tgt := 1301) hx hb dL_law_33 h1 h2 (by rw [h3]; rfl) (by decide) (case_tell hLC hP hD hS hl ev_tell hend)
    · exact lv_tableIn (tgt := 1314) hx hb dL_law_33 h1 h2 (by rw [h3]; rfl) (by decide) (case_round hLC hP hD hS hl ev_round hend)
    · exact lv_tableIn (tgt := 1367) hx hb dL_law_33 h1 h2 (by rw [h3]; rfl) (by decide) (case_steady hLC hP hD hS hl ev_steady hend)
    · exact lv_tableIn (tgt := 1410) hx hb dL_law_33 h1 h2 (by rw [h3]; rfl) (by decide) (case_against hLC hP hD hS hl ev_against hend)
    · exact lv_tableIn (tgt := 1453) hx hb dL_law_33 h1 h2 (by rw [h3]; rfl) (by decide) (case_wax hLC hP hD hS hl ev_wax hend)
    · exact lv_tableIn (tgt := 1476) hx hb dL_law_33 h1 h2 (by rw [h3]; rfl) (by decide) (case_sample hLC hP hD hS hl ev_sample hend)
    · exact lv_tableIn (tgt := 1525) hx hb dL_law_33 h1 h2 (by rw [h3]; rfl) (by decide) (case_claim hLC hP hD hS hl ev_claim hend)
    · exact lv_tableIn (tgt := 1568) hx hb dL_law_33 h1 h2 (by rw [h3]; rfl) (by decide) (case_saw hLC hP hD hS hl ev_saw hend)
    · exact lv_tableIn (tgt := 1627) hx hb dL_law_33 h1 h2 (by rw [h3]; rfl) (by decide) (case_link hLC hP hD hS hl ev_link hend)
    · exact lv_tableIn (tgt := 1686) hx hb dL_law_33 h1 h2 (by rw [h3]; rfl) (by decide) (case_untell hLC hP hD hS hl ev_untell hend)
    · exact lv_tableIn (tgt := 1709) hx hb dL_law_33 h1 h2 (by rw [h3]; rfl) (by decide) (case_later hLC hP hD hS hl ev_later hend)
    · exact lv_tableIn (tgt := 1732) hx hb dL_law_33 h1 h2 (by rw [h3]; rfl) (by decide) (case_tree hLC hP hD hS hl ev_tree hend)
    · exact lv_tableIn (tgt := 1775) hx hb dL_law_33 h1 h2 (by rw [h3]; rfl) (by decide) (case_centre hLC hP hD hS hl ev_centre hend)
    · exact lv_tableIn (tgt := 1808) hx hb dL_law_33 h1 h2 (by rw [h3]; rfl) (by decide) (case_clans hLC hP hD hS hl ev_clans hend)
    · exact lv_tableIn (tgt := 1851) hx hb dL_law_33 h1 h2 (by rw [h3]; rfl) (by decide) (case_origin hLC hP hD hS hl ev_origin hend)
    · exact lv_tableIn (tgt := 1884) hx hb dL_law_33 h1 h2 (by rw [h3]; rfl) (by decide) (case_falses hLC hP hD hS hl ev_falses hend)
    · exact lv_tableIn (tgt := 1907) hx hb dL_law_33 h1 h2 (by rw [h3]; rfl) (by decide) (case_span hLC hP hD hS hl ev_span hend)
    · exact lv_tableIn (tgt := 1950) hx hb dL_law_33 h1 h2 (by rw [h3]; rfl) (by decide) (case_backward hLC hP hD hS hl ev_backward hend)
    · exact lv_tableIn (tgt := 1983) hx hb dL_law_33 h1 h2 (by rw [h3]; rfl) (by decide) (case_lies hLC hP hD hS hl ev_lies hend)
    · exact lv_tableIn (tgt := 2006) hx hb dL_law_33 h1 h2 (by rw [h3]; rfl) (by decide) (case_image hLC hP hD hS hl ev_image hend)
    · exact lv_tableIn (tgt := 2029) hx hb dL_law_33 h1 h2 (by rw [h3]; rfl) (by decide) (case_back hLC hP hD hS hl ev_back hend)
    · exact lv_tableIn (tgt := 2052) hx hb dL_law_33 h1 h2 (by rw [h3]; rfl) (by decide) (case_about hLC hP hD hS hl ev_about hend)
