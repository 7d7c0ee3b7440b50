theorem m9 : (Cond.methodLink RX10 3 objectInit) ∈ wsL_law := rin1 _ (List.mem_of_getElem? (i := 9) (by decide +kernel))
theorem m14 : (Cond.classLink RX10 13 RX8) ∈ wsL_law := rin1 _ (List.mem_of_getElem? (i := 14) (by decide +kernel))
theorem m15 : (Cond.instantiable RX8 5) ∈ wsL_law := rin1 _ (List.mem_of_getElem? (i := 15) (by decide +kernel))
theorem m18 : (Cond.classLink RX10 20 RX7) ∈ wsL_law := rin1 _ (List.mem_of_getElem? (i := 18) (by decide +kernel))
theorem m19 : (Cond.instantiable RX7 13) ∈ wsL_law := rin1 _ (List.mem_of_getElem? (i := 19) (by decide +kernel))
theorem m23 : (Cond.classLink RX10 30 RX6) ∈ wsL_law := rin1 _ (List.mem_of_getElem? (i := 23) (by decide +kernel))
theorem m24 : (Cond.instantiable RX6 9) ∈ wsL_law := rin2 _ (List.mem_of_getElem? (i := 0) (by decide +kernel))
theorem m27 : (Cond.classLink RX10 39 RX2) ∈ wsL_law := rin2 _ (List.mem_of_getElem? (i := 3) (by decide +kernel))
theorem m28 : (Cond.instantiable RX2 14) ∈ wsL_law := rin2 _ (List.mem_of_getElem? (i := 4) (by decide +kernel))
theorem m31 : (Cond.classLink RX10 46 RX1) ∈ wsL_law := rin2 _ (List.mem_of_getElem? (i := 7) (by decide +kernel))
theorem m32 : (Cond.instantiable RX1 6) ∈ wsL_law := rin2 _ (List.mem_of_getElem? (i := 8) (by decide +kernel))
theorem m35 : (Cond.classLink RX10 55 RX0) ∈ wsL_law := rin2 _ (List.mem_of_getElem? (i := 11) (by decide +kernel))
theorem m36 : (Cond.instantiable RX0 9) ∈ wsL_law := rin2 _ (List.mem_of_getElem? (i := 12) (by decide +kernel))
theorem m39 : (Cond.classLink RX10 64 RX9) ∈ wsL_law := rin2 _ (List.mem_of_getElem? (i := 15) (by decide +kernel))
theorem m40 : (Cond.instantiable RX9 6) ∈ wsL_law := rin2 _ (List.mem_of_getElem? (i := 16) (by decide +kernel))
theorem m43 : (Cond.classLink RX10 71 RX3) ∈ wsL_law := rin2 _ (List.mem_of_getElem? (i := 19) (by decide +kernel))
theorem m44 : (Cond.instantiable RX3 10) ∈ wsL_law := rin2 _ (List.mem_of_getElem? (i := 20) (by decide +kernel))
theorem m47 : (Cond.classLink RX10 78 RX5) ∈ wsL_law := rin2 _ (List.mem_of_getElem? (i := 23) (by decide +kernel))
theorem m48 : (Cond.instantiable RX5 10) ∈ wsL_law := rin3 _ (List.mem_of_getElem? (i := 0) (by decide +kernel))
theorem m51 : (Cond.classLink RX10 85 RX4) ∈ wsL_law := rin3 _ (List.mem_of_getElem? (i := 3) (by decide +kernel))
theorem m52 : (Cond.instantiable RX4 2) ∈ wsL_law := rin3 _ (List.mem_of_getElem? (i := 4) (by decide +kernel))
theorem m61 : (Cond.methodLink RX10 15 yX8_init) ∈ wsL_law := rin3 _ (List.mem_of_getElem? (i := 13) (by decide +kernel))
theorem m62 : (Cond.instanceMethod yX8_init) ∈ wsL_law := rin3 _ (List.mem_of_getElem? (i := 14) (by decide +kernel))
theorem m63 : (Cond.code yX8_init cX8_init 3 none) ∈ wsL_law := rin3 _ (List.mem_of_getElem? (i := 15) (by decide +kernel))
theorem m124 : (Cond.methodLink RX10 22 yX7_init) ∈ wsL_law := rin6 _ (List.mem_of_getElem? (i := 4) (by decide +kernel))
theorem m125 : (Cond.instanceMethod yX7_init) ∈ wsL_law := rin6 _ (List.mem_of_getElem? (i := 5) (by decide +kernel))
theorem m126 : (Cond.code yX7_init cX7_init 1 none) ∈ wsL_law := rin6 _ (List.mem_of_getElem? (i := 6) (by decide +kernel))
theorem m145 : (Cond.methodLink RX10 32 yX6_init) ∈ wsL_law := rin7 _ (List.mem_of_getElem? (i := 1) (by decide +kernel))
theorem m146 : (Cond.instanceMethod yX6_init) ∈ wsL_law := rin7 _ (List.mem_of_getElem? (i := 2) (by decide +kernel))
theorem m147 : (Cond.code yX6_init cX6_init 3 none) ∈ wsL_law := rin7 _ (List.mem_of_getElem? (i := 3) (by decide +kernel))
theorem m151 : (Cond.methodLink RX10 41 yX2_init) ∈ wsL_law := rin7 _ (List.mem_of_getElem? (i := 7) (by decide +kernel))
theorem m152 : (Cond.instanceMethod yX2_init) ∈ wsL_law := rin7 _ (List.mem_of_getElem? (i := 8) (by decide +kernel))
theorem m153 : (Cond.code yX2_init cX2_init 1 none) ∈ wsL_law := rin7 _ (List.mem_of_getElem? (i := 9) (by decide +kernel))
theorem m163 : (Cond.methodLink RX10 48 yX1_init) ∈ wsL_law := rin7 _ (List.mem_of_getElem? (i := 19) (by decide +kernel))
theorem m164 : (Cond.instanceMethod yX1_init) ∈ wsL_law := rin7 _ (List.mem_of_getElem? (i := 20) (by decide +kernel))
theorem m165 : (Cond.code yX1_init cX1_init 3 none) ∈ wsL_law := rin7 _ (List.mem_of_getElem? (i := 21) (by decide +kernel))
theorem m173 : (Cond.methodLink RX10 57 yX0_init) ∈ wsL_law := rin8 _ (List.mem_of_getElem? (i := 5) (by decide +kernel))
theorem m174 : (Cond.instanceMethod yX0_init) ∈ wsL_law := rin8 _ (List.mem_of_getElem? (i := 6) (by decide +kernel))
theorem m175 : (Cond.code yX0_init cX0_init 3 none) ∈ wsL_law := rin8 _ (List.mem_of_getElem? (i := 7) (by decide +kernel))
theorem m184 : (Cond.methodLink RX10 66 yX9_init) ∈ wsL_law := rin8 _ (List.mem_of_getElem? (i := 16) (by decide +kernel))
theorem m185 : (Cond.instanceMethod yX9_init) ∈ wsL_law := rin8 _ (List.mem_of_getElem? (i := 17) (by decide +kernel))
theorem m186 : (Cond.code yX9_init cX9_init 3 none) ∈ wsL_law := rin8 _ (List.mem_of_getElem? (i := 18) (by decide +kernel))
theorem m191 : (Cond.methodLink RX10 73 yX3_init) ∈ wsL_law := rin8 _ (List.mem_of_getElem? (i := 23) (by decide +kernel))
theorem m192 : (Cond.instanceMethod yX3_init) ∈ wsL_law := rin9 _ (List.mem_of_getElem? (i := 0) (by decide +kernel))
theorem m193 : (Cond.code yX3_init cX3_init 1 none) ∈ wsL_law := rin9 _ (List.mem_of_getElem? (i := 1) (by decide +kernel))
theorem m203 : (Cond.methodLink RX10 80 yX5_init) ∈ wsL_law := rin9 _ (List.mem_of_getElem? (i := 11) (by decide +kernel))
theorem m204 : (Cond.instanceMethod yX5_init) ∈ wsL_law := rin9 _ (List.mem_of_getElem? (i := 12) (by decide +kernel))
theorem m205 : (Cond.code yX5_init cX5_init 1 none) ∈ wsL_law := rin9 _ (List.mem_of_getElem? (i := 13) (by decide +kernel))
theorem m213 : (Cond.methodLink RX10 87 yX4_init) ∈ wsL_law := rin9 _ (List.mem_of_getElem? (i := 21) (by decide +kernel))
theorem m214 : (Cond.instanceMethod yX4_init) ∈ wsL_law := rin9 _ (List.mem_of_getElem? (i := 22) (by decide +kernel))
theorem m215 : (Cond.code yX4_init cX4_init 1 none) ∈ wsL_law := rin9 _ (List.mem_of_getElem? (i := 23) (by decide +kernel))
theorem ysX8_init : Ys yX8_init 0 := by decide +kernel
theorem ysX7_init : Ys yX7_init 0 := by decide +kernel
theorem ysX6_init : Ys yX6_init 2 := by decide +kernel
theorem ysX2_init : Ys yX2_init 0 := by decide +kernel
theorem ysX1_init : Ys yX1_init 2 := by decide +kernel
theorem ysX0_init : Ys yX0_init 2 := by decide +kernel
theorem ysX9_init : Ys yX9_init 2 := by decide +kernel
theorem ysX3_init : Ys yX3_init 0 := by decide +kernel
theorem ysX5_init : Ys yX5_init 0 := by decide +kernel
theorem ysX4_init : Ys yX4_init 0 := by decide +kernel
set_option maxHeartbeats 4000000 in
set_option maxRecDepth 100000 in
theorem X10_end {p : Program} {l : Launch} {e : Env} {R : Room} {s : State} {m : MethodId} {args : Array Value} {below : List Frame} {meth : Method} {c : Code} {H : Heap} {locs : List Loc} {cells slots : Nat} {Q : State → Prop} {ls : Array Slot} {A : Nat → Prop} {g : Gw} {ad : Nat → Nat} {h0 : Nat} {f : Nat → Int64} (hC : Cx p s m args c cX10_init RX10 2 g) (h300 : ad 0 = h0) (hSt : St tabX A s.heap (g.1, g.2.1, ad) (w0X f) H locs) (hl : lv_has ls 2 [(0, .ref h0)]) (hRf : (6 ≤ R.frames ∧ 360 ≤ R.locals)) (hRc : cells ≤ R.cells ∧ slots ≤ R.slots) (hRt : ∀ (w : Wd) (H : Heap) (locs : List Loc) (ls : Array Slot), FX w → St tabX A s.heap (g.1, g.2.1, ad) w H locs → W p l e R s m args below meth c H locs cells slots Q (F0 m 225 ls [])) : W p l e R s m args below meth c H locs cells slots Q (F0 m 221 ls []) := by
  have hC : Cx p s m args c cX10_init RX10 2 (g.1, g.2.1, ad) := hC
  have hx := hC.1
  have hb := hC.2.1
  subst h300
  refine lv_aload_n hx hb dX10_init_221 rfl (lv_at hl 0 rfl) ?_
  refine q_cvV (As := []) (rest := []) hC hSt hl.1 (rX10_beginAnew (beginAnew_fresh f)) cwX10_108 yvX10_beginAnew (rcv (ci := 10) hC hSt tb_0 rfl) rfl rfl (Nat.le_of_ble_eq_true rfl) ⟨⟨Nat.le_trans (by decide) hRf.1, Nat.le_trans (by decide) hRf.2⟩, hRc.1, hRc.2⟩ dX10_init_222 (fun w H locs hp hSt => ?_)
  exact hRt w _ _ _ hp hSt
abbrev nX10 : List Value := [.null, .null, .null, .null, .null, .null, .null, .null, .null, .null, .null, .null, .null, .int 0, .int 0, .int 0, .null, .null]
def lX10 (g : Gw) (u : (Nat → Nat) × Wd) : va_W := wsW tabX (g.1, g.2.1, u.1) u.2
def XBig (q v : Nat) (ws : va_W) (sz : Nat) (U : State) : Prop := Sx q v (va_A ws sz) U U.heap ∧ vk_R RX8 25 sTx q U ∧ va_AO "SealCasts$Court" U
set_option maxHeartbeats 40000000 in
set_option maxRecDepth 100000 in
theorem k_X10_init {l : Launch} {g : Gw} {h0 q v : Nat} : MtE l yX10_init cX10_init 2 6 89 36135 g [(h0, .inr (10, nX10))] [.ref h0] (XBig q v [(h0, .inr (10, nX10))]) (fun u : (Nat → Nat) × Wd => u.1 0 = h0 ∧ FX u.2) (lX10 g) := by
  refine e_ent (by decide) rfl (Nat.le_of_ble_eq_true rfl) ?_
  intro p e s m args below meth c A Q ls hAe hC hin hX hRt hP hD hS hA hl
  have hin : meth.name = "<init>" := hin
  have hx := hC.1
  have hb := hC.2.1
  have hl : lv_has ls 2 [(0, .ref h0)] := hl
  obtain ⟨hXs, hZ, hao⟩ := hX
  rw [← hAe] at hXs
  refine lv_aload_n hx hb dX10_init_0 rfl (lv_at hl 0 rfl) ?_
  refine e_obj hC hl.1 m9 m10 m11 ⟨(Nat.le_of_ble_eq_true rfl), (Nat.le_of_ble_eq_true rfl)⟩ dX10_init_1 ?_
  refine lv_aload_n hx hb dX10_init_4 rfl (lv_at hl 0 rfl) ?_
  refine lv_sipush hx hb dX10_init_5 kS_1600 ?_
  refine e_npB (ci := 10) (C := RX10) (T := TX10) (N := 18) (ty0 := tyX10) (n := 1600) (N' := 1600) hC hin hP hD hS hA m12 rfl inlX10 tyX10_ok nmX10 0 (by decide) rfl rfl (by decide +kernel) rfl m13 (by decide) (by decide) (by decide) (Nat.le_of_ble_eq_true rfl) (Nat.le_of_ble_eq_true rfl) dX10_init_8 dX10_init_10 (fun p0 H locs hP hD hS => ?_)
  obtain ⟨P1, eP1⟩ : ∃ y : va_W, y = ([] : va_W) ++ [(p0, .inl (g.2.1 1, 1600, .inl (fun _ => 0)))] := ⟨_, rfl⟩
  have hP : va_P g.1 vwCl ((h0, .inr (10, [.ref p0, .null, .null, .null, .null, .null, .null, .null, .null, .null, .null, .null, .null, .int 0, .int 0, .int 0, .null, .null])) :: P1) H := by rw [eP1]; exact hP
  have hD : va_D A ((h0, .inr (10, [.ref p0, .null, .null, .null, .null, .null, .null, .null, .null, .null, .null, .null, .null, .int 0, .int 0, .int 0, .null, .null])) :: P1) := by rw [eP1]; exact hD
  refine lv_aload_n hx hb dX10_init_13 rfl (lv_at hl 0 rfl) ?_
  refine e_new (ci := 8) (C := RX8) (T := TX8) (N := 5) (ty0 := tyX8) (fs0 := nX8) hC hP hD hS hA rfl inlX8 tyX8_ok m14 m15 m16 (fun j hj => by rcases (show j = 0 ∨ j = 1 ∨ j = 2 ∨ j = 3 ∨ j = 4 by omega) with rfl | rfl | rfl | rfl | rfl <;> rfl) (Nat.le_of_ble_eq_true rfl) (Nat.le_of_ble_eq_true rfl) dX10_init_14 (fun q_1 H hP hD hS => ?_)
  refine lv_dup hx hb dX10_init_17 rfl ?_
  refine e_callI (As := []) (rest := [.ref q_1, .ref h0]) hC hP hD hS hA hl.1 (k_X8_init (g := g) (h0 := q_1) (q := q) (v := v)) (fun U gg mk a h => ⟨Sx.moved (u := U) (U := U.calling gg mk a) (Vm.Alike.refl U.vm) h.1, vk_R.same (u := U) (U := U.calling gg mk a) rfl h.2⟩) (fun U hU hW => ⟨by rw [hU]; exact ((hXs.kept hS.2.1).narrow (e_free hD hS hA)).moved hW.alike, vk_R.warm hW hZ⟩) m16 m61 m62 m63 rfl ysX8_init rfl rfl (Nat.le_of_ble_eq_true rfl) ⟨⟨(Nat.le_of_ble_eq_true rfl), (Nat.le_of_ble_eq_true rfl)⟩, (Nat.le_of_ble_eq_true rfl), (Nat.le_of_ble_eq_true rfl)⟩ dX10_init_18 (fun u1 H locs _ hP hD hS => ?_)
  refine e_putF (ci := 10) (C := RX10) (T := TX10) (N := 18) (ty0 := tyX10) (ty := (.object "SealCasts$Tokens")) (v := (.ref q_1)) hC hin hP hD hS rfl inlX10 tyX10_ok nmX10 1 (by decide) rfl rfl (by decide +kernel) rfl rfl rfl m17 dX10_init_21 (fun H locs hP hD hS => ?_)
  obtain ⟨P2, eP2⟩ : ∃ y : va_W, y = P1 ++ lX8 g q_1 u1 := ⟨_, rfl⟩
  have hP : va_P g.1 vwCl ((h0, .inr (10, [.ref p0, .ref q_1, .null, .null, .null, .null, .null, .null, .null, .null, .null, .null, .null, .int 0, .int 0, .int 0, .null, .null])) :: P2) H := by rw [eP2]; exact hP
  have hD : va_D A ((h0, .inr (10, [.ref p0, .ref q_1, .null, .null, .null, .null, .null, .null, .null, .null, .null, .null, .null, .int 0, .int 0, .int 0, .null, .null])) :: P2) := by rw [eP2]; exact hD
  refine lv_aload_n hx hb dX10_init_24 rfl (lv_at hl 0 rfl) ?_
  refine e_new (ci := 7) (C := RX7) (T := TX7) (N := 13) (ty0 := tyX7) (fs0 := nX7) hC hP hD hS hA rfl inlX7 tyX7_ok m18 m19 m20 (fun j hj => by rcases (show j = 0 ∨ j = 1 ∨ j = 2 ∨ j = 3 ∨ j = 4 ∨ j = 5 ∨ j = 6 ∨ j = 7 ∨ j = 8 ∨ j = 9 ∨ j = 10 ∨ j = 11 ∨ j = 12 by omega) with rfl | rfl | rfl | rfl | rfl | rfl | rfl | rfl | rfl | rfl | rfl | rfl | rfl <;> rfl) (Nat.le_of_ble_eq_true rfl) (Nat.le_of_ble_eq_true rfl) dX10_init_25 (fun q_2 H hP hD hS => ?_)
  refine lv_dup hx hb dX10_init_28 rfl ?_
  refine e_callI (As := []) (rest := [.ref q_2, .ref h0]) hC hP hD hS hA hl.1 (k_X7_init (g := g) (h0 := q_2)) (fun _ _ _ _ h => h) (fun _ _ _ => trivial) m20 m124 m125 m126 rfl ysX7_init rfl rfl (Nat.le_of_ble_eq_true rfl) ⟨⟨(Nat.le_of_ble_eq_true rfl), (Nat.le_of_ble_eq_true rfl)⟩, (Nat.le_of_ble_eq_true rfl), (Nat.le_of_ble_eq_true rfl)⟩ dX10_init_29 (fun u2 H locs _ hP hD hS => ?_)
  refine e_putV (ci := 10) (C := RX10) (T := TX10) (N := 18) (ty0 := tyX10) (ty := (.object "SealCasts$Rules")) (v := (.ref q_2)) hC hP hD hS rfl inlX10 tyX10_ok nmX10 16 (by decide) rfl (by decide +kernel) rfl rfl rfl m21 dX10_init_32 (fun H locs hP hD hS => ?_)
  obtain ⟨P3, eP3⟩ : ∃ y : va_W, y = P2 ++ lX7 g q_2 u2 := ⟨_, rfl⟩
  have hP : va_P g.1 vwCl ((h0, .inr (10, [.ref p0, .ref q_1, .null, .null, .null, .null, .null, .null, .null, .null, .null, .null, .null, .int 0, .int 0, .int 0, .ref q_2, .null])) :: P3) H := by rw [eP3]; exact hP
  have hD : va_D A ((h0, .inr (10, [.ref p0, .ref q_1, .null, .null, .null, .null, .null, .null, .null, .null, .null, .null, .null, .int 0, .int 0, .int 0, .ref q_2, .null])) :: P3) := by rw [eP3]; exact hD
  refine lv_aload_n hx hb dX10_init_35 rfl (lv_at hl 0 rfl) ?_
  refine e_new (ci := 7) (C := RX7) (T := TX7) (N := 13) (ty0 := tyX7) (fs0 := nX7) hC hP hD hS hA rfl inlX7 tyX7_ok m18 m19 m20 (fun j hj => by rcases (show j = 0 ∨ j = 1 ∨ j = 2 ∨ j = 3 ∨ j = 4 ∨ j = 5 ∨ j = 6 ∨ j = 7 ∨ j = 8 ∨ j = 9 ∨ j = 10 ∨ j = 11 ∨ j = 12 by omega) with rfl | rfl | rfl | rfl | rfl | rfl | rfl | rfl | rfl | rfl | rfl | rfl | rfl <;> rfl) (Nat.le_of_ble_eq_true rfl) (Nat.le_of_ble_eq_true rfl) dX10_init_36 (fun q_3 H hP hD hS => ?_)
  refine lv_dup hx hb dX10_init_39 rfl ?_
  refine e_callI (As := []) (rest := [.ref q_3, .ref h0]) hC hP hD hS hA hl.1 (k_X7_init (g := g) (h0 := q_3)) (fun _ _ _ _ h => h) (fun _ _ _ => trivial) m20 m124 m125 m126 rfl ysX7_init rfl rfl (Nat.le_of_ble_eq_true rfl) ⟨⟨(Nat.le_of_ble_eq_true rfl), (Nat.le_of_ble_eq_true rfl)⟩, (Nat.le_of_ble_eq_true rfl), (Nat.le_of_ble_eq_true rfl)⟩ dX10_init_40 (fun u3 H locs _ hP hD hS => ?_)
  refine e_putV (ci := 10) (C := RX10) (T := TX10) (N := 18) (ty0 := tyX10) (ty := (.object "SealCasts$Rules")) (v := (.ref q_3)) hC hP hD hS rfl inlX10 tyX10_ok nmX10 17 (by decide) rfl (by decide +kernel) rfl rfl rfl m22 dX10_init_43 (fun H locs hP hD hS => ?_)
  obtain ⟨P4, eP4⟩ : ∃ y : va_W, y = P3 ++ lX7 g q_3 u3 := ⟨_, rfl⟩
  have hP : va_P g.1 vwCl ((h0, .inr (10, [.ref p0, .ref q_1, .null, .null, .null, .null, .null, .null, .null, .null, .null, .null, .null, .int 0, .int 0, .int 0, .ref q_2, .ref q_3])) :: P4) H := by rw [eP4]; exact hP
  have hD : va_D A ((h0, .inr (10, [.ref p0, .ref q_1, .null, .null, .null, .null, .null, .null, .null, .null, .null, .null, .null, .int 0, .int 0, .int 0, .ref q_2, .ref q_3])) :: P4) := by rw [eP4]; exact hD
  refine lv_aload_n hx hb dX10_init_46 rfl (lv_at hl 0 rfl) ?_
  refine e_new (ci := 6) (C := RX6) (T := TX6) (N := 9) (ty0 := tyX6) (fs0 := nX6) hC hP hD hS hA rfl inlX6 tyX6_ok m23 m24 m25 (fun j hj => by rcases (show j = 0 ∨ j = 1 ∨ j = 2 ∨ j = 3 ∨ j = 4 ∨ j = 5 ∨ j = 6 ∨ j = 7 ∨ j = 8 by omega) with rfl | rfl | rfl | rfl | rfl | rfl | rfl | rfl | rfl <;> rfl) (Nat.le_of_ble_eq_true rfl) (Nat.le_of_ble_eq_true rfl) dX10_init_47 (fun q_4 H hP hD hS => ?_)
  refine lv_dup hx hb dX10_init_50 rfl ?_
  refine lv_aload_n hx hb dX10_init_51 rfl (lv_at hl 0 rfl) ?_
  refine e_get (ci := 10) (C := RX10) (T := TX10) (N := 18) (v := .ref q_1) hC hP rfl inlX10 1 (by decide) rfl m17 dX10_init_52 ?_
  refine lv_aload_n hx hb dX10_init_55 rfl (lv_at hl 0 rfl) ?_
  refine e_get (ci := 10) (C := RX10) (T := TX10) (N := 18) (v := .ref q_3) hC hP rfl inlX10 17 (by decide) rfl m22 dX10_init_56 ?_
  refine e_callI (As := [.ref q_1, .ref q_3]) (rest := [.ref q_4, .ref h0]) hC hP hD hS hA hl.1 (k_X6_init (g := g) (h0 := q_4) (a1 := q_1) (a2 := q_3)) (fun _ _ _ _ h => h) (fun _ _ _ => trivial) m25 m145 m146 m147 rfl ysX6_init rfl rfl (Nat.le_of_ble_eq_true rfl) ⟨⟨(Nat.le_of_ble_eq_true rfl), (Nat.le_of_ble_eq_true rfl)⟩, (Nat.le_of_ble_eq_true rfl), (Nat.le_of_ble_eq_true rfl)⟩ dX10_init_59 (fun u4 H locs _ hP hD hS => ?_)
  refine e_putF (ci := 10) (C := RX10) (T := TX10) (N := 18) (ty0 := tyX10) (ty := (.object "SealCasts$Reader")) (v := (.ref q_4)) hC hin hP hD hS rfl inlX10 tyX10_ok nmX10 2 (by decide) rfl rfl (by decide +kernel) rfl rfl rfl m26 dX10_init_62 (fun H locs hP hD hS => ?_)
  obtain ⟨P5, eP5⟩ : ∃ y : va_W, y = P4 ++ lX6 g q_4 q_1 q_3 u4 := ⟨_, rfl⟩
  have hP : va_P g.1 vwCl ((h0, .inr (10, [.ref p0, .ref q_1, .ref q_4, .null, .null, .null, .null, .null, .null, .null, .null, .null, .null, .int 0, .int 0, .int 0, .ref q_2, .ref q_3])) :: P5) H := by rw [eP5]; exact hP
  have hD : va_D A ((h0, .inr (10, [.ref p0, .ref q_1, .ref q_4, .null, .null, .null, .null, .null, .null, .null, .null, .null, .null, .int 0, .int 0, .int 0, .ref q_2, .ref q_3])) :: P5) := by rw [eP5]; exact hD
  refine lv_aload_n hx hb dX10_init_65 rfl (lv_at hl 0 rfl) ?_
  refine e_new (ci := 2) (C := RX2) (T := TX2) (N := 14) (ty0 := tyX2) (fs0 := nX2) hC hP hD hS hA rfl inlX2 tyX2_ok m27 m28 m29 (fun j hj => by rcases (show j = 0 ∨ j = 1 ∨ j = 2 ∨ j = 3 ∨ j = 4 ∨ j = 5 ∨ j = 6 ∨ j = 7 ∨ j = 8 ∨ j = 9 ∨ j = 10 ∨ j = 11 ∨ j = 12 ∨ j = 13 by omega) with rfl | rfl | rfl | rfl | rfl | rfl | rfl | rfl | rfl | rfl | rfl | rfl | rfl | rfl <;> rfl) (Nat.le_of_ble_eq_true rfl) (Nat.le_of_ble_eq_true rfl) dX10_init_66 (fun q_5 H hP hD hS => ?_)
  refine lv_dup hx hb dX10_init_69 rfl ?_
  refine e_callI (As := []) (rest := [.ref q_5, .ref h0]) hC hP hD hS hA hl.1 (k_X2_init (g := g) (h0 := q_5)) (fun _ _ _ _ h => h) (fun _ _ _ => trivial) m29 m151 m152 m153 rfl ysX2_init rfl rfl (Nat.le_of_ble_eq_true rfl) ⟨⟨(Nat.le_of_ble_eq_true rfl), (Nat.le_of_ble_eq_true rfl)⟩, (Nat.le_of_ble_eq_true rfl), (Nat.le_of_ble_eq_true rfl)⟩ dX10_init_70 (fun u5 H locs _ hP hD hS => ?_)
  refine e_putF (ci := 10) (C := RX10) (T := TX10) (N := 18) (ty0 := tyX10) (ty := (.object "SealCasts$Court")) (v := (.ref q_5)) hC hin hP hD hS rfl inlX10 tyX10_ok nmX10 3 (by decide) rfl rfl (by decide +kernel) rfl rfl rfl m30 dX10_init_73 (fun H locs hP hD hS => ?_)
  obtain ⟨P6, eP6⟩ : ∃ y : va_W, y = P5 ++ lX2 g q_5 u5 := ⟨_, rfl⟩
  have hP : va_P g.1 vwCl ((h0, .inr (10, [.ref p0, .ref q_1, .ref q_4, .ref q_5, .null, .null, .null, .null, .null, .null, .null, .null, .null, .int 0, .int 0, .int 0, .ref q_2, .ref q_3])) :: P6) H := by rw [eP6]; exact hP
  have hD : va_D A ((h0, .inr (10, [.ref p0, .ref q_1, .ref q_4, .ref q_5, .null, .null, .null, .null, .null, .null, .null, .null, .null, .int 0, .int 0, .int 0, .ref q_2, .ref q_3])) :: P6) := by rw [eP6]; exact hD
  refine lv_aload_n hx hb dX10_init_76 rfl (lv_at hl 0 rfl) ?_
  refine e_new (ci := 1) (C := RX1) (T := TX1) (N := 6) (ty0 := tyX1) (fs0 := nX1) hC hP hD hS hA rfl inlX1 tyX1_ok m31 m32 m33 (fun j hj => by rcases (show j = 0 ∨ j = 1 ∨ j = 2 ∨ j = 3 ∨ j = 4 ∨ j = 5 by omega) with rfl | rfl | rfl | rfl | rfl | rfl <;> rfl) (Nat.le_of_ble_eq_true rfl) (Nat.le_of_ble_eq_true rfl) dX10_init_77 (fun q_6 H hP hD hS => ?_)
  refine lv_dup hx hb dX10_init_80 rfl ?_
  refine lv_aload_n hx hb dX10_init_81 rfl (lv_at hl 0 rfl) ?_
  refine e_get (ci := 10) (C := RX10) (T := TX10) (N := 18) (v := .ref q_5) hC hP rfl inlX10 3 (by decide) rfl m30 dX10_init_82 ?_
  refine lv_aload_n hx hb dX10_init_85 rfl (lv_at hl 0 rfl) ?_
  refine e_get (ci := 10) (C := RX10) (T := TX10) (N := 18) (v := .ref q_2) hC hP rfl inlX10 16 (by decide) rfl m21 dX10_init_86 ?_
  refine e_callI (As := [.ref q_5, .ref q_2]) (rest := [.ref q_6, .ref h0]) hC hP hD hS hA hl.1 (k_X1_init (g := g) (h0 := q_6) (a1 := q_5) (a2 := q_2)) (fun _ _ _ _ h => h) (fun _ _ _ => trivial) m33 m163 m164 m165 rfl ysX1_init rfl rfl (Nat.le_of_ble_eq_true rfl) ⟨⟨(Nat.le_of_ble_eq_true rfl), (Nat.le_of_ble_eq_true rfl)⟩, (Nat.le_of_ble_eq_true rfl), (Nat.le_of_ble_eq_true rfl)⟩ dX10_init_89 (fun u6 H locs _ hP hD hS => ?_)
  refine e_putF (ci := 10) (C := RX10) (T := TX10) (N := 18) (ty0 := tyX10) (ty := (.object "SealCasts$Bench")) (v := (.ref q_6)) hC hin hP hD hS rfl inlX10 tyX10_ok nmX10 4 (by decide) rfl rfl (by decide +kernel) rfl rfl rfl m34 dX10_init_92 (fun H locs hP hD hS => ?_)
  obtain ⟨P7, eP7⟩ : ∃ y : va_W, y = P6 ++ lX1 g q_6 q_5 q_2 u6 := ⟨_, rfl⟩
  have hP : va_P g.1 vwCl ((h0, .inr (10, [.ref p0, .ref q_1, .ref q_4, .ref q_5, .ref q_6, .null, .null, .null, .null, .null, .null, .null, .null, .int 0, .int 0, .int 0, .ref q_2, .ref q_3])) :: P7) H := by rw [eP7]; exact hP
  have hD : va_D A ((h0, .inr (10, [.ref p0, .ref q_1, .ref q_4, .ref q_5, .ref q_6, .null, .null, .null, .null, .null, .null, .null, .null, .int 0, .int 0, .int 0, .ref q_2, .ref q_3])) :: P7) := by rw [eP7]; exact hD
  refine lv_aload_n hx hb dX10_init_95 rfl (lv_at hl 0 rfl) ?_
  refine e_new (ci := 0) (C := RX0) (T := TX0) (N := 9) (ty0 := tyX0) (fs0 := nX0) hC hP hD hS hA rfl inlX0 tyX0_ok m35 m36 m37 (fun j hj => by rcases (show j = 0 ∨ j = 1 ∨ j = 2 ∨ j = 3 ∨ j = 4 ∨ j = 5 ∨ j = 6 ∨ j = 7 ∨ j = 8 by omega) with rfl | rfl | rfl | rfl | rfl | rfl | rfl | rfl | rfl <;> rfl) (Nat.le_of_ble_eq_true rfl) (Nat.le_of_ble_eq_true rfl) dX10_init_96 (fun q_7 H hP hD hS => ?_)
  refine lv_dup hx hb dX10_init_99 rfl ?_
  refine lv_aload_n hx hb dX10_init_100 rfl (lv_at hl 0 rfl) ?_
  refine e_get (ci := 10) (C := RX10) (T := TX10) (N := 18) (v := .ref q_5) hC hP rfl inlX10 3 (by decide) rfl m30 dX10_init_101 ?_
  refine lv_aload_n hx hb dX10_init_104 rfl (lv_at hl 0 rfl) ?_
  refine e_get (ci := 10) (C := RX10) (T := TX10) (N := 18) (v := .ref q_6) hC hP rfl inlX10 4 (by decide) rfl m34 dX10_init_105 ?_
  refine e_callI (As := [.ref q_5, .ref q_6]) (rest := [.ref q_7, .ref h0]) hC hP hD hS hA hl.1 (k_X0_init (g := g) (h0 := q_7) (a1 := q_5) (a2 := q_6)) (fun _ _ _ _ h => h) (fun _ _ _ => trivial) m37 m173 m174 m175 rfl ysX0_init rfl rfl (Nat.le_of_ble_eq_true rfl) ⟨⟨(Nat.le_of_ble_eq_true rfl), (Nat.le_of_ble_eq_true rfl)⟩, (Nat.le_of_ble_eq_true rfl), (Nat.le_of_ble_eq_true rfl)⟩ dX10_init_108 (fun u7 H locs _ hP hD hS => ?_)
  refine e_putF (ci := 10) (C := RX10) (T := TX10) (N := 18) (ty0 := tyX10) (ty := (.object "SealCasts$Acts")) (v := (.ref q_7)) hC hin hP hD hS rfl inlX10 tyX10_ok nmX10 5 (by decide) rfl rfl (by decide +kernel) rfl rfl rfl m38 dX10_init_111 (fun H locs hP hD hS => ?_)
  obtain ⟨P8, eP8⟩ : ∃ y : va_W, y = P7 ++ lX0 g q_7 q_5 q_6 u7 := ⟨_, rfl⟩
  have hP : va_P g.1 vwCl ((h0, .inr (10, [.ref p0, .ref q_1, .ref q_4, .ref q_5, .ref q_6, .ref q_7, .null, .null, .null, .null, .null, .null, .null, .int 0, .int 0, .int 0, .ref q_2, .ref q_3])) :: P8) H := by rw [eP8]; exact hP
  have hD : va_D A ((h0, .inr (10, [.ref p0, .ref q_1, .ref q_4, .ref q_5, .ref q_6, .ref q_7, .null, .null, .null, .null, .null, .null, .null, .int 0, .int 0, .int 0, .ref q_2, .ref q_3])) :: P8) := by rw [eP8]; exact hD
  refine lv_aload_n hx hb dX10_init_114 rfl (lv_at hl 0 rfl) ?_
  refine e_new (ci := 9) (C := RX9) (T := TX9) (N := 6) (ty0 := tyX9) (fs0 := nX9) hC hP hD hS hA rfl inlX9 tyX9_ok m39 m40 m41 (fun j hj => by rcases (show j = 0 ∨ j = 1 ∨ j = 2 ∨ j = 3 ∨ j = 4 ∨ j = 5 by omega) with rfl | rfl | rfl | rfl | rfl | rfl <;> rfl) (Nat.le_of_ble_eq_true rfl) (Nat.le_of_ble_eq_true rfl) dX10_init_115 (fun q_8 H hP hD hS => ?_)
  refine lv_dup hx hb dX10_init_118 rfl ?_
  refine lv_aload_n hx hb dX10_init_119 rfl (lv_at hl 0 rfl) ?_
  refine e_get (ci := 10) (C := RX10) (T := TX10) (N := 18) (v := .ref q_5) hC hP rfl inlX10 3 (by decide) rfl m30 dX10_init_120 ?_
  refine lv_aload_n hx hb dX10_init_123 rfl (lv_at hl 0 rfl) ?_
  refine e_get (ci := 10) (C := RX10) (T := TX10) (N := 18) (v := .ref q_6) hC hP rfl inlX10 4 (by decide) rfl m34 dX10_init_124 ?_
  refine e_callI (As := [.ref q_5, .ref q_6]) (rest := [.ref q_8, .ref h0]) hC hP hD hS hA hl.1 (k_X9_init (g := g) (h0 := q_8) (a1 := q_5) (a2 := q_6)) (fun _ _ _ _ h => h) (fun _ _ _ => trivial) m41 m184 m185 m186 rfl ysX9_init rfl rfl (Nat.le_of_ble_eq_true rfl) ⟨⟨(Nat.le_of_ble_eq_true rfl), (Nat.le_of_ble_eq_true rfl)⟩, (Nat.le_of_ble_eq_true rfl), (Nat.le_of_ble_eq_true rfl)⟩ dX10_init_127 (fun u8 H locs _ hP hD hS => ?_)
  refine e_putF (ci := 10) (C := RX10) (T := TX10) (N := 18) (ty0 := tyX10) (ty := (.object "SealCasts$Ways")) (v := (.ref q_8)) hC hin hP hD hS rfl inlX10 tyX10_ok nmX10 6 (by decide) rfl rfl (by decide +kernel) rfl rfl rfl m42 dX10_init_130 (fun H locs hP hD hS => ?_)
  obtain ⟨P9, eP9⟩ : ∃ y : va_W, y = P8 ++ lX9 g q_8 q_5 q_6 u8 := ⟨_, rfl⟩
  have hP : va_P g.1 vwCl ((h0, .inr (10, [.ref p0, .ref q_1, .ref q_4, .ref q_5, .ref q_6, .ref q_7, .ref q_8, .null, .null, .null, .null, .null, .null, .int 0, .int 0, .int 0, .ref q_2, .ref q_3])) :: P9) H := by rw [eP9]; exact hP
  have hD : va_D A ((h0, .inr (10, [.ref p0, .ref q_1, .ref q_4, .ref q_5, .ref q_6, .ref q_7, .ref q_8, .null, .null, .null, .null, .null, .null, .int 0, .int 0, .int 0, .ref q_2, .ref q_3])) :: P9) := by rw [eP9]; exact hD
  refine lv_aload_n hx hb dX10_init_133 rfl (lv_at hl 0 rfl) ?_
  refine e_new (ci := 3) (C := RX3) (T := TX3) (N := 10) (ty0 := tyX3) (fs0 := nX3) hC hP hD hS hA rfl inlX3 tyX3_ok m43 m44 m45 (fun j hj => by rcases (show j = 0 ∨ j = 1 ∨ j = 2 ∨ j = 3 ∨ j = 4 ∨ j = 5 ∨ j = 6 ∨ j = 7 ∨ j = 8 ∨ j = 9 by omega) with rfl | rfl | rfl | rfl | rfl | rfl | rfl | rfl | rfl | rfl <;> rfl) (Nat.le_of_ble_eq_true rfl) (Nat.le_of_ble_eq_true rfl) dX10_init_134 (fun q_9 H hP hD hS => ?_)
  refine lv_dup hx hb dX10_init_137 rfl ?_
  refine e_callI (As := []) (rest := [.ref q_9, .ref h0]) hC hP hD hS hA hl.1 (k_X3_init (g := g) (h0 := q_9)) (fun _ _ _ _ h => h) (fun _ _ _ => trivial) m45 m191 m192 m193 rfl ysX3_init rfl rfl (Nat.le_of_ble_eq_true rfl) ⟨⟨(Nat.le_of_ble_eq_true rfl), (Nat.le_of_ble_eq_true rfl)⟩, (Nat.le_of_ble_eq_true rfl), (Nat.le_of_ble_eq_true rfl)⟩ dX10_init_138 (fun u9 H locs _ hP hD hS => ?_)
  refine e_putF (ci := 10) (C := RX10) (T := TX10) (N := 18) (ty0 := tyX10) (ty := (.object "SealCasts$Facts")) (v := (.ref q_9)) hC hin hP hD hS rfl inlX10 tyX10_ok nmX10 7 (by decide) rfl rfl (by decide +kernel) rfl rfl rfl m46 dX10_init_141 (fun H locs hP hD hS => ?_)
  obtain ⟨P10, eP10⟩ : ∃ y : va_W, y = P9 ++ lX3 g q_9 u9 := ⟨_, rfl⟩
  have hP : va_P g.1 vwCl ((h0, .inr (10, [.ref p0, .ref q_1, .ref q_4, .ref q_5, .ref q_6, .ref q_7, .ref q_8, .ref q_9, .null, .null, .null, .null, .null, .int 0, .int 0, .int 0, .ref q_2, .ref q_3])) :: P10) H := by rw [eP10]; exact hP
  have hD : va_D A ((h0, .inr (10, [.ref p0, .ref q_1, .ref q_4, .ref q_5, .ref q_6, .ref q_7, .ref q_8, .ref q_9, .null, .null, .null, .null, .null, .int 0, .int 0, .int 0, .ref q_2, .ref q_3])) :: P10) := by rw [eP10]; exact hD
  refine lv_aload_n hx hb dX10_init_144 rfl (lv_at hl 0 rfl) ?_
  refine e_new (ci := 5) (C := RX5) (T := TX5) (N := 10) (ty0 := tyX5) (fs0 := nX5) hC hP hD hS hA rfl inlX5 tyX5_ok m47 m48 m49 (fun j hj => by rcases (show j = 0 ∨ j = 1 ∨ j = 2 ∨ j = 3 ∨ j = 4 ∨ j = 5 ∨ j = 6 ∨ j = 7 ∨ j = 8 ∨ j = 9 by omega) with rfl | rfl | rfl | rfl | rfl | rfl | rfl | rfl | rfl | rfl <;> rfl) (Nat.le_of_ble_eq_true rfl) (Nat.le_of_ble_eq_true rfl) dX10_init_145 (fun q_10 H hP hD hS => ?_)
  refine lv_dup hx hb dX10_init_148 rfl ?_
  refine e_callI (As := []) (rest := [.ref q_10, .ref h0]) hC hP hD hS hA hl.1 (k_X5_init (g := g) (h0 := q_10)) (fun _ _ _ _ h => h) (fun _ _ _ => trivial) m49 m203 m204 m205 rfl ysX5_init rfl rfl (Nat.le_of_ble_eq_true rfl) ⟨⟨(Nat.le_of_ble_eq_true rfl), (Nat.le_of_ble_eq_true rfl)⟩, (Nat.le_of_ble_eq_true rfl), (Nat.le_of_ble_eq_true rfl)⟩ dX10_init_149 (fun u10 H locs _ hP hD hS => ?_)
  refine e_putF (ci := 10) (C := RX10) (T := TX10) (N := 18) (ty0 := tyX10) (ty := (.object "SealCasts$Lineage")) (v := (.ref q_10)) hC hin hP hD hS rfl inlX10 tyX10_ok nmX10 8 (by decide) rfl rfl (by decide +kernel) rfl rfl rfl m50 dX10_init_152 (fun H locs hP hD hS => ?_)
  obtain ⟨P11, eP11⟩ : ∃ y : va_W, y = P10 ++ lX5 g q_10 u10 := ⟨_, rfl⟩
  have hP : va_P g.1 vwCl ((h0, .inr (10, [.ref p0, .ref q_1, .ref q_4, .ref q_5, .ref q_6, .ref q_7, .ref q_8, .ref q_9, .ref q_10, .null, .null, .null, .null, .int 0, .int 0, .int 0, .ref q_2, .ref q_3])) :: P11) H := by rw [eP11]; exact hP
  have hD : va_D A ((h0, .inr (10, [.ref p0, .ref q_1, .ref q_4, .ref q_5, .ref q_6, .ref q_7, .ref q_8, .ref q_9, .ref q_10, .null, .null, .null, .null, .int 0, .int 0, .int 0, .ref q_2, .ref q_3])) :: P11) := by rw [eP11]; exact hD
  refine lv_aload_n hx hb dX10_init_155 rfl (lv_at hl 0 rfl) ?_
  refine e_new (ci := 4) (C := RX4) (T := TX4) (N := 2) (ty0 := tyX4) (fs0 := nX4) hC hP hD hS hA rfl inlX4 tyX4_ok m51 m52 m53 (fun j hj => by rcases (show j = 0 ∨ j = 1 by omega) with rfl | rfl <;> rfl) (Nat.le_of_ble_eq_true rfl) (Nat.le_of_ble_eq_true rfl) dX10_init_156 (fun q_11 H hP hD hS => ?_)
  refine lv_dup hx hb dX10_init_159 rfl ?_
  refine e_callI (As := []) (rest := [.ref q_11, .ref h0]) hC hP hD hS hA hl.1 (k_X4_init (g := g) (h0 := q_11)) (fun _ _ _ _ h => h) (fun _ _ _ => trivial) m53 m213 m214 m215 rfl ysX4_init rfl rfl (Nat.le_of_ble_eq_true rfl) ⟨⟨(Nat.le_of_ble_eq_true rfl), (Nat.le_of_ble_eq_true rfl)⟩, (Nat.le_of_ble_eq_true rfl), (Nat.le_of_ble_eq_true rfl)⟩ dX10_init_160 (fun u11 H locs _ hP hD hS => ?_)
  refine e_putF (ci := 10) (C := RX10) (T := TX10) (N := 18) (ty0 := tyX10) (ty := (.object "SealCasts$Heap")) (v := (.ref q_11)) hC hin hP hD hS rfl inlX10 tyX10_ok nmX10 9 (by decide) rfl rfl (by decide +kernel) rfl rfl rfl m54 dX10_init_163 (fun H locs hP hD hS => ?_)
  obtain ⟨P12, eP12⟩ : ∃ y : va_W, y = P11 ++ lX4 g q_11 u11 := ⟨_, rfl⟩
  have hP : va_P g.1 vwCl ((h0, .inr (10, [.ref p0, .ref q_1, .ref q_4, .ref q_5, .ref q_6, .ref q_7, .ref q_8, .ref q_9, .ref q_10, .ref q_11, .null, .null, .null, .int 0, .int 0, .int 0, .ref q_2, .ref q_3])) :: P12) H := by rw [eP12]; exact hP
  have hD : va_D A ((h0, .inr (10, [.ref p0, .ref q_1, .ref q_4, .ref q_5, .ref q_6, .ref q_7, .ref q_8, .ref q_9, .ref q_10, .ref q_11, .null, .null, .null, .int 0, .int 0, .int 0, .ref q_2, .ref q_3])) :: P12) := by rw [eP12]; exact hD
  refine lv_aload_n hx hb dX10_init_166 rfl (lv_at hl 0 rfl) ?_
  refine lv_iconst hx hb dX10_init_167 kI_3 ?_
  refine e_npQ (ci := 10) (C := RX10) (T := TX10) (N := 18) (ty0 := tyX10) (n := 3) (N' := 3) hC hin hao hP hD hS hA m27 rfl inlX10 tyX10_ok nmX10 10 (by decide) rfl rfl (by decide +kernel) rfl m55 (by decide) (by decide) (by decide) (Nat.le_of_ble_eq_true rfl) (Nat.le_of_ble_eq_true rfl) dX10_init_168 dX10_init_171 (fun p10 H locs hP hD hS => ?_)
  have hP : va_P g.1 vwCl (((h0, .inr (10, [.ref p0, .ref q_1, .ref q_4, .ref q_5, .ref q_6, .ref q_7, .ref q_8, .ref q_9, .ref q_10, .ref q_11, .ref p10, .null, .null, .int 0, .int 0, .int 0, .ref q_2, .ref q_3])) :: P12) ++ ((p10, .inl (g.2.1 4, 3, .inr (.inr (.inr (.inr (fun _ => none)))))) :: ([] : va_W))) H := hP
  have hD : va_D A (((h0, .inr (10, [.ref p0, .ref q_1, .ref q_4, .ref q_5, .ref q_6, .ref q_7, .ref q_8, .ref q_9, .ref q_10, .ref q_11, .ref p10, .null, .null, .int 0, .int 0, .int 0, .ref q_2, .ref q_3])) :: P12) ++ ((p10, .inl (g.2.1 4, 3, .inr (.inr (.inr (.inr (fun _ => none)))))) :: ([] : va_W))) := hD
  refine lv_iconst hx hb dX10_init_174 kI_0 ?_
  refine lv_istore_n (lv' := [(1, .int (0)), (0, .ref h0)]) hx hb dX10_init_175 rfl hl (by decide) rfl (fun ls hl => ?_)
  refine lv_iload_n hx hb dX10_init_176 rfl (lv_at hl 0 rfl) ?_
  refine lv_iconst hx hb dX10_init_177 kI_3 ?_
  refine lv_icmp_ge (tgt := 200) hx hb dX10_init_178 (by decide) (fun c_1 => absurd c_1 (by decide)) (fun _ => ?_)
  refine lv_aload_n hx hb dX10_init_181 rfl (lv_at hl 1 rfl) ?_
  refine e_get (ci := 10) (C := RX10) (T := TX10) (N := 18) (v := .ref p10) hC hP rfl inlX10 10 (by decide) rfl m55 dX10_init_182 ?_
  refine lv_iload_n hx hb dX10_init_185 rfl (lv_at hl 0 rfl) ?_
  refine e_new (ci := 2) (C := RX2) (T := TX2) (N := 14) (ty0 := tyX2) (fs0 := nX2) hC hP hD hS hA rfl inlX2 tyX2_ok m27 m28 m29 (fun j hj => by rcases (show j = 0 ∨ j = 1 ∨ j = 2 ∨ j = 3 ∨ j = 4 ∨ j = 5 ∨ j = 6 ∨ j = 7 ∨ j = 8 ∨ j = 9 ∨ j = 10 ∨ j = 11 ∨ j = 12 ∨ j = 13 by omega) with rfl | rfl | rfl | rfl | rfl | rfl | rfl | rfl | rfl | rfl | rfl | rfl | rfl | rfl <;> rfl) (Nat.le_of_ble_eq_true rfl) (Nat.le_of_ble_eq_true rfl) dX10_init_186 (fun q_12 H hP hD hS => ?_)
  refine lv_dup hx hb dX10_init_189 rfl ?_
  refine e_callI (As := []) (rest := [.ref q_12, .int (0), .ref p10]) hC hP hD hS hA hl.1 (k_X2_init (g := g) (h0 := q_12)) (fun _ _ _ _ h => h) (fun _ _ _ => trivial) m29 m151 m152 m153 rfl ysX2_init rfl rfl (Nat.le_of_ble_eq_true rfl) ⟨⟨(Nat.le_of_ble_eq_true rfl), (Nat.le_of_ble_eq_true rfl)⟩, (Nat.le_of_ble_eq_true rfl), (Nat.le_of_ble_eq_true rfl)⟩ dX10_init_190 (fun u12 H locs _ hP hD hS => ?_)
  have hP := e_swapP (a := ((h0, .inr (10, [.ref p0, .ref q_1, .ref q_4, .ref q_5, .ref q_6, .ref q_7, .ref q_8, .ref q_9, .ref q_10, .ref q_11, .ref p10, .null, .null, .int 0, .int 0, .int 0, .ref q_2, .ref q_3])) :: P12)) (b := ((p10, .inl (g.2.1 4, 3, .inr (.inr (.inr (.inr (fun _ => none)))))) :: ([] : va_W)) ++ lX2 g q_12 u12) (by rw [← List.append_assoc]; exact hP)
  have hD := e_swapD (a := ((h0, .inr (10, [.ref p0, .ref q_1, .ref q_4, .ref q_5, .ref q_6, .ref q_7, .ref q_8, .ref q_9, .ref q_10, .ref q_11, .ref p10, .null, .null, .int 0, .int 0, .int 0, .ref q_2, .ref q_3])) :: P12)) (b := ((p10, .inl (g.2.1 4, 3, .inr (.inr (.inr (.inr (fun _ => none)))))) :: ([] : va_W)) ++ lX2 g q_12 u12) (by rw [← List.append_assoc]; exact hD)
  refine va_astq hx hb hC.2.2.2.2.2.1 hP hD hS 0 4 1 2 (r := (RX2, TX2, 14)) rfl rfl rfl rfl (by unfold vp_in; decide) dX10_init_193 (fun H locs hP hD hS => ?_)
  have hP : va_P g.1 vwCl (((p10, .inl (g.2.1 4, 3, .inr (.inr (.inr (.inr (va_up (fun _ => none) (0 : Int32).toNatClampNeg (some q_12))))))) :: (([] : va_W) ++ lX2 g q_12 u12)) ++ ((h0, .inr (10, [.ref p0, .ref q_1, .ref q_4, .ref q_5, .ref q_6, .ref q_7, .ref q_8, .ref q_9, .ref q_10, .ref q_11, .ref p10, .null, .null, .int 0, .int 0, .int 0, .ref q_2, .ref q_3])) :: P12)) H := hP
  have hD : va_D A (((p10, .inl (g.2.1 4, 3, .inr (.inr (.inr (.inr (va_up (fun _ => none) (0 : Int32).toNatClampNeg (some q_12))))))) :: (([] : va_W) ++ lX2 g q_12 u12)) ++ ((h0, .inr (10, [.ref p0, .ref q_1, .ref q_4, .ref q_5, .ref q_6, .ref q_7, .ref q_8, .ref q_9, .ref q_10, .ref q_11, .ref p10, .null, .null, .int 0, .int 0, .int 0, .ref q_2, .ref q_3])) :: P12)) := hD
  have hP := e_swapP hP
  have hD := e_swapD hD
  refine lv_iinc (v := (1)) (lv' := [(1, .int (1)), (0, .ref h0)]) hx hb dX10_init_194 hl (k := 0) rfl (by decide) (by decide) rfl (fun ls hl => ?_)
  refine lv_goto (tgt := 176) hx hb dX10_init_197 (by decide) ?_
  refine lv_iload_n hx hb dX10_init_176 rfl (lv_at hl 0 rfl) ?_
  refine lv_iconst hx hb dX10_init_177 kI_3 ?_
  refine lv_icmp_ge (tgt := 200) hx hb dX10_init_178 (by decide) (fun c_1 => absurd c_1 (by decide)) (fun _ => ?_)
  refine lv_aload_n hx hb dX10_init_181 rfl (lv_at hl 1 rfl) ?_
  refine e_get (ci := 10) (C := RX10) (T := TX10) (N := 18) (v := .ref p10) hC hP rfl inlX10 10 (by decide) rfl m55 dX10_init_182 ?_
  refine lv_iload_n hx hb dX10_init_185 rfl (lv_at hl 0 rfl) ?_
  refine e_new (ci := 2) (C := RX2) (T := TX2) (N := 14) (ty0 := tyX2) (fs0 := nX2) hC hP hD hS hA rfl inlX2 tyX2_ok m27 m28 m29 (fun j hj => by rcases (show j = 0 ∨ j = 1 ∨ j = 2 ∨ j = 3 ∨ j = 4 ∨ j = 5 ∨ j = 6 ∨ j = 7 ∨ j = 8 ∨ j = 9 ∨ j = 10 ∨ j = 11 ∨ j = 12 ∨ j = 13 by omega) with rfl | rfl | rfl | rfl | rfl | rfl | rfl | rfl | rfl | rfl | rfl | rfl | rfl | rfl <;> rfl) (Nat.le_of_ble_eq_true rfl) (Nat.le_of_ble_eq_true rfl) dX10_init_186 (fun q_13 H hP hD hS => ?_)
  refine lv_dup hx hb dX10_init_189 rfl ?_
  refine e_callI (As := []) (rest := [.ref q_13, .int (1), .ref p10]) hC hP hD hS hA hl.1 (k_X2_init (g := g) (h0 := q_13)) (fun _ _ _ _ h => h) (fun _ _ _ => trivial) m29 m151 m152 m153 rfl ysX2_init rfl rfl (Nat.le_of_ble_eq_true rfl) ⟨⟨(Nat.le_of_ble_eq_true rfl), (Nat.le_of_ble_eq_true rfl)⟩, (Nat.le_of_ble_eq_true rfl), (Nat.le_of_ble_eq_true rfl)⟩ dX10_init_190 (fun u13 H locs _ hP hD hS => ?_)
  have hP := e_swapP (a := ((h0, .inr (10, [.ref p0, .ref q_1, .ref q_4, .ref q_5, .ref q_6, .ref q_7, .ref q_8, .ref q_9, .ref q_10, .ref q_11, .ref p10, .null, .null, .int 0, .int 0, .int 0, .ref q_2, .ref q_3])) :: P12)) (b := ((p10, .inl (g.2.1 4, 3, .inr (.inr (.inr (.inr (va_up (fun _ => none) (0 : Int32).toNatClampNeg (some q_12))))))) :: (([] : va_W) ++ lX2 g q_12 u12)) ++ lX2 g q_13 u13) (by rw [← List.append_assoc]; exact hP)
  have hD := e_swapD (a := ((h0, .inr (10, [.ref p0, .ref q_1, .ref q_4, .ref q_5, .ref q_6, .ref q_7, .ref q_8, .ref q_9, .ref q_10, .ref q_11, .ref p10, .null, .null, .int 0, .int 0, .int 0, .ref q_2, .ref q_3])) :: P12)) (b := ((p10, .inl (g.2.1 4, 3, .inr (.inr (.inr (.inr (va_up (fun _ => none) (0 : Int32).toNatClampNeg (some q_12))))))) :: (([] : va_W) ++ lX2 g q_12 u12)) ++ lX2 g q_13 u13) (by rw [← List.append_assoc]; exact hD)
  refine va_astq hx hb hC.2.2.2.2.2.1 hP hD hS 0 4 10 2 (r := (RX2, TX2, 14)) rfl rfl rfl rfl (by unfold vp_in; decide) dX10_init_193 (fun H locs hP hD hS => ?_)
  have hP : va_P g.1 vwCl (((p10, .inl (g.2.1 4, 3, .inr (.inr (.inr (.inr (va_up (va_up (fun _ => none) (0 : Int32).toNatClampNeg (some q_12)) (1 : Int32).toNatClampNeg (some q_13))))))) :: ((([] : va_W) ++ lX2 g q_12 u12) ++ lX2 g q_13 u13)) ++ ((h0, .inr (10, [.ref p0, .ref q_1, .ref q_4, .ref q_5, .ref q_6, .ref q_7, .ref q_8, .ref q_9, .ref q_10, .ref q_11, .ref p10, .null, .null, .int 0, .int 0, .int 0, .ref q_2, .ref q_3])) :: P12)) H := hP
  have hD : va_D A (((p10, .inl (g.2.1 4, 3, .inr (.inr (.inr (.inr (va_up (va_up (fun _ => none) (0 : Int32).toNatClampNeg (some q_12)) (1 : Int32).toNatClampNeg (some q_13))))))) :: ((([] : va_W) ++ lX2 g q_12 u12) ++ lX2 g q_13 u13)) ++ ((h0, .inr (10, [.ref p0, .ref q_1, .ref q_4, .ref q_5, .ref q_6, .ref q_7, .ref q_8, .ref q_9, .ref q_10, .ref q_11, .ref p10, .null, .null, .int 0, .int 0, .int 0, .ref q_2, .ref q_3])) :: P12)) := hD
  have hP := e_swapP hP
  have hD := e_swapD hD
  refine lv_iinc (v := (2)) (lv' := [(1, .int (2)), (0, .ref h0)]) hx hb dX10_init_194 hl (k := 0) rfl (by decide) (by decide) rfl (fun ls hl => ?_)
  refine lv_goto (tgt := 176) hx hb dX10_init_197 (by decide) ?_
  refine lv_iload_n hx hb dX10_init_176 rfl (lv_at hl 0 rfl) ?_
  refine lv_iconst hx hb dX10_init_177 kI_3 ?_
  refine lv_icmp_ge (tgt := 200) hx hb dX10_init_178 (by decide) (fun c_1 => absurd c_1 (by decide)) (fun _ => ?_)
  refine lv_aload_n hx hb dX10_init_181 rfl (lv_at hl 1 rfl) ?_
  refine e_get (ci := 10) (C := RX10) (T := TX10) (N := 18) (v := .ref p10) hC hP rfl inlX10 10 (by decide) rfl m55 dX10_init_182 ?_
  refine lv_iload_n hx hb dX10_init_185 rfl (lv_at hl 0 rfl) ?_
  refine e_new (ci := 2) (C := RX2) (T := TX2) (N := 14) (ty0 := tyX2) (fs0 := nX2) hC hP hD hS hA rfl inlX2 tyX2_ok m27 m28 m29 (fun j hj => by rcases (show j = 0 ∨ j = 1 ∨ j = 2 ∨ j = 3 ∨ j = 4 ∨ j = 5 ∨ j = 6 ∨ j = 7 ∨ j = 8 ∨ j = 9 ∨ j = 10 ∨ j = 11 ∨ j = 12 ∨ j = 13 by omega) with rfl | rfl | rfl | rfl | rfl | rfl | rfl | rfl | rfl | rfl | rfl | rfl | rfl | rfl <;> rfl) (Nat.le_of_ble_eq_true rfl) (Nat.le_of_ble_eq_true rfl) dX10_init_186 (fun q_14 H hP hD hS => ?_)
  refine lv_dup hx hb dX10_init_189 rfl ?_
  refine e_callI (As := []) (rest := [.ref q_14, .int (2), .ref p10]) hC hP hD hS hA hl.1 (k_X2_init (g := g) (h0 := q_14)) (fun _ _ _ _ h => h) (fun _ _ _ => trivial) m29 m151 m152 m153 rfl ysX2_init rfl rfl (Nat.le_of_ble_eq_true rfl) ⟨⟨(Nat.le_of_ble_eq_true rfl), (Nat.le_of_ble_eq_true rfl)⟩, (Nat.le_of_ble_eq_true rfl), (Nat.le_of_ble_eq_true rfl)⟩ dX10_init_190 (fun u14 H locs _ hP hD hS => ?_)
  have hP := e_swapP (a := ((h0, .inr (10, [.ref p0, .ref q_1, .ref q_4, .ref q_5, .ref q_6, .ref q_7, .ref q_8, .ref q_9, .ref q_10, .ref q_11, .ref p10, .null, .null, .int 0, .int 0, .int 0, .ref q_2, .ref q_3])) :: P12)) (b := ((p10, .inl (g.2.1 4, 3, .inr (.inr (.inr (.inr (va_up (va_up (fun _ => none) (0 : Int32).toNatClampNeg (some q_12)) (1 : Int32).toNatClampNeg (some q_13))))))) :: ((([] : va_W) ++ lX2 g q_12 u12) ++ lX2 g q_13 u13)) ++ lX2 g q_14 u14) (by rw [← List.append_assoc]; exact hP)
  have hD := e_swapD (a := ((h0, .inr (10, [.ref p0, .ref q_1, .ref q_4, .ref q_5, .ref q_6, .ref q_7, .ref q_8, .ref q_9, .ref q_10, .ref q_11, .ref p10, .null, .null, .int 0, .int 0, .int 0, .ref q_2, .ref q_3])) :: P12)) (b := ((p10, .inl (g.2.1 4, 3, .inr (.inr (.inr (.inr (va_up (va_up (fun _ => none) (0 : Int32).toNatClampNeg (some q_12)) (1 : Int32).toNatClampNeg (some q_13))))))) :: ((([] : va_W) ++ lX2 g q_12 u12) ++ lX2 g q_13 u13)) ++ lX2 g q_14 u14) (by rw [← List.append_assoc]; exact hD)
  refine va_astq hx hb hC.2.2.2.2.2.1 hP hD hS 0 4 19 2 (r := (RX2, TX2, 14)) rfl rfl rfl rfl (by unfold vp_in; decide) dX10_init_193 (fun H locs hP hD hS => ?_)
  have hP : va_P g.1 vwCl (((p10, .inl (g.2.1 4, 3, .inr (.inr (.inr (.inr (va_up (va_up (va_up (fun _ => none) (0 : Int32).toNatClampNeg (some q_12)) (1 : Int32).toNatClampNeg (some q_13)) (2 : Int32).toNatClampNeg (some q_14))))))) :: (((([] : va_W) ++ lX2 g q_12 u12) ++ lX2 g q_13 u13) ++ lX2 g q_14 u14)) ++ ((h0, .inr (10, [.ref p0, .ref q_1, .ref q_4, .ref q_5, .ref q_6, .ref q_7, .ref q_8, .ref q_9, .ref q_10, .ref q_11, .ref p10, .null, .null, .int 0, .int 0, .int 0, .ref q_2, .ref q_3])) :: P12)) H := hP
  have hD : va_D A (((p10, .inl (g.2.1 4, 3, .inr (.inr (.inr (.inr (va_up (va_up (va_up (fun _ => none) (0 : Int32).toNatClampNeg (some q_12)) (1 : Int32).toNatClampNeg (some q_13)) (2 : Int32).toNatClampNeg (some q_14))))))) :: (((([] : va_W) ++ lX2 g q_12 u12) ++ lX2 g q_13 u13) ++ lX2 g q_14 u14)) ++ ((h0, .inr (10, [.ref p0, .ref q_1, .ref q_4, .ref q_5, .ref q_6, .ref q_7, .ref q_8, .ref q_9, .ref q_10, .ref q_11, .ref p10, .null, .null, .int 0, .int 0, .int 0, .ref q_2, .ref q_3])) :: P12)) := hD
  have hP := e_swapP hP
  have hD := e_swapD hD
  refine lv_iinc (v := (3)) (lv' := [(1, .int (3)), (0, .ref h0)]) hx hb dX10_init_194 hl (k := 0) rfl (by decide) (by decide) rfl (fun ls hl => ?_)
  refine lv_goto (tgt := 176) hx hb dX10_init_197 (by decide) ?_
  refine lv_iload_n hx hb dX10_init_176 rfl (lv_at hl 0 rfl) ?_
  refine lv_iconst hx hb dX10_init_177 kI_3 ?_
  refine lv_icmp_ge (tgt := 200) hx hb dX10_init_178 (by decide) (fun _ => ?_) (fun c_1 => absurd (by decide) c_1)
  obtain ⟨P13, eP13⟩ : ∃ y : va_W, y = P12 ++ ((p10, .inl (g.2.1 4, 3, .inr (.inr (.inr (.inr (va_up (va_up (va_up (fun _ => none) (0 : Int32).toNatClampNeg (some q_12)) (1 : Int32).toNatClampNeg (some q_13)) (2 : Int32).toNatClampNeg (some q_14))))))) :: (((([] : va_W) ++ lX2 g q_12 u12) ++ lX2 g q_13 u13) ++ lX2 g q_14 u14)) := ⟨_, rfl⟩
  have hP : va_P g.1 vwCl ((h0, .inr (10, [.ref p0, .ref q_1, .ref q_4, .ref q_5, .ref q_6, .ref q_7, .ref q_8, .ref q_9, .ref q_10, .ref q_11, .ref p10, .null, .null, .int 0, .int 0, .int 0, .ref q_2, .ref q_3])) :: P13) H := by rw [eP13]; exact hP
  have hD : va_D A ((h0, .inr (10, [.ref p0, .ref q_1, .ref q_4, .ref q_5, .ref q_6, .ref q_7, .ref q_8, .ref q_9, .ref q_10, .ref q_11, .ref p10, .null, .null, .int 0, .int 0, .int 0, .ref q_2, .ref q_3])) :: P13) := by rw [eP13]; exact hD
  refine lv_aload_n hx hb dX10_init_200 rfl (lv_at hl 1 rfl) ?_
  refine lv_iconst hx hb dX10_init_201 kI_3 ?_
  refine e_npZ (ci := 10) (C := RX10) (T := TX10) (N := 18) (ty0 := tyX10) (n := 3) (N' := 3) hC hin hP hD hS hA m56 rfl inlX10 tyX10_ok nmX10 11 (by decide) rfl rfl (by decide +kernel) rfl m57 (by decide) (by decide) (by decide) (Nat.le_of_ble_eq_true rfl) (Nat.le_of_ble_eq_true rfl) dX10_init_202 dX10_init_204 (fun p11 H locs hP hD hS => ?_)
  obtain ⟨P14, eP14⟩ : ∃ y : va_W, y = P13 ++ [(p11, .inl (g.2.1 2, 3, .inl (fun _ => 0)))] := ⟨_, rfl⟩
  have hP : va_P g.1 vwCl ((h0, .inr (10, [.ref p0, .ref q_1, .ref q_4, .ref q_5, .ref q_6, .ref q_7, .ref q_8, .ref q_9, .ref q_10, .ref q_11, .ref p10, .ref p11, .null, .int 0, .int 0, .int 0, .ref q_2, .ref q_3])) :: P14) H := by rw [eP14]; exact hP
  have hD : va_D A ((h0, .inr (10, [.ref p0, .ref q_1, .ref q_4, .ref q_5, .ref q_6, .ref q_7, .ref q_8, .ref q_9, .ref q_10, .ref q_11, .ref p10, .ref p11, .null, .int 0, .int 0, .int 0, .ref q_2, .ref q_3])) :: P14) := by rw [eP14]; exact hD
  refine lv_aload_n hx hb dX10_init_207 rfl (lv_at hl 1 rfl) ?_
  refine lv_sipush hx hb dX10_init_208 kS_4096 ?_
  refine e_npI (ci := 10) (C := RX10) (T := TX10) (N := 18) (ty0 := tyX10) (n := 4096) (N' := 4096) hC hin hP hD hS hA m58 rfl inlX10 tyX10_ok nmX10 12 (by decide) rfl rfl (by decide +kernel) rfl m59 (by decide) (by decide) (by decide) (Nat.le_of_ble_eq_true rfl) (Nat.le_of_ble_eq_true rfl) dX10_init_211 dX10_init_213 (fun p12 H locs hP hD hS => ?_)
  obtain ⟨P15, eP15⟩ : ∃ y : va_W, y = P14 ++ [(p12, .inl (g.2.1 0, 4096, .inl (fun _ => 0)))] := ⟨_, rfl⟩
  have hP : va_P g.1 vwCl ((h0, .inr (10, [.ref p0, .ref q_1, .ref q_4, .ref q_5, .ref q_6, .ref q_7, .ref q_8, .ref q_9, .ref q_10, .ref q_11, .ref p10, .ref p11, .ref p12, .int 0, .int 0, .int 0, .ref q_2, .ref q_3])) :: P15) H := by rw [eP15]; exact hP
  have hD : va_D A ((h0, .inr (10, [.ref p0, .ref q_1, .ref q_4, .ref q_5, .ref q_6, .ref q_7, .ref q_8, .ref q_9, .ref q_10, .ref q_11, .ref p10, .ref p11, .ref p12, .int 0, .int 0, .int 0, .ref q_2, .ref q_3])) :: P15) := by rw [eP15]; exact hD
  refine lv_aload_n hx hb dX10_init_216 rfl (lv_at hl 1 rfl) ?_
  refine lv_iconst hx hb dX10_init_217 kI_m1 ?_
  refine e_putV (ci := 10) (C := RX10) (T := TX10) (N := 18) (ty0 := tyX10) (ty := .int) (v := (.int (-1))) hC hP hD hS rfl inlX10 tyX10_ok nmX10 15 (by decide) rfl (by decide +kernel) rfl rfl rfl m60 dX10_init_218 (fun H locs hP hD hS => ?_)
  have hP : va_P g.1 vwCl ((h0, .inr (10, [.ref p0, .ref q_1, .ref q_4, .ref q_5, .ref q_6, .ref q_7, .ref q_8, .ref q_9, .ref q_10, .ref q_11, .ref p10, .ref p11, .ref p12, .int 0, .int 0, .int (-1), .ref q_2, .ref q_3])) :: P15) H := hP
  have hD : va_D A ((h0, .inr (10, [.ref p0, .ref q_1, .ref q_4, .ref q_5, .ref q_6, .ref q_7, .ref q_8, .ref q_9, .ref q_10, .ref q_11, .ref p10, .ref p11, .ref p12, .int 0, .int 0, .int (-1), .ref q_2, .ref q_3])) :: P15) := hD
  rw [eP15, eP14, eP13, eP12, eP11, eP10, eP9, eP8, eP7, eP6, eP5, eP4, eP3, eP2, eP1] at hP hD
  obtain ⟨hP, hD⟩ := e_alt (k := 60) (a := p10) (cA := g.2.1 4) (n := 3) (f' := .inr (.inr (.inr (.inr (fun i => some ((lk [(0, h0), (1, p0), (20, q_1), (21, u1.1 1), (22, u1.1 2), (23, u1.1 3), (25, u1.1 4), (120, q_2), (127, u2 1), (128, u2 2), (129, u2 3), (131, u2 4), (133, u2 5), (140, q_3), (147, u3 1), (148, u3 2), (149, u3 3), (151, u3 4), (153, u3 5), (30, q_4), (160, q_5), (162, u5 1), (163, u5 2), (164, u5 3), (165, u5 4), (166, u5 5), (168, u5 6), (169, u5 7), (170, u5 8), (40, q_6), (43, u6 1), (44, u6 2), (45, u6 3), (46, u6 4), (50, q_7), (53, u7 1), (54, u7 2), (55, u7 3), (56, u7 4), (57, u7 5), (60, q_8), (63, u8 1), (70, q_9), (73, u9 1), (74, u9 2), (75, u9 3), (76, u9 4), (77, u9 5), (78, u9 6), (79, u9 7), (80, u9 8), (90, q_10), (94, u10 1), (95, u10 2), (96, u10 3), (98, u10 4), (99, u10 5), (100, u10 6), (110, q_11), (111, u11 1), (11, p10), (180, q_12), (182, u12 1), (183, u12 2), (184, u12 3), (185, u12 4), (186, u12 5), (188, u12 6), (189, u12 7), (190, u12 8), (200, q_13), (202, u13 1), (203, u13 2), (204, u13 3), (205, u13 4), (206, u13 5), (208, u13 6), (209, u13 7), (210, u13 8), (220, q_14), (222, u14 1), (223, u14 2), (224, u14 3), (225, u14 4), (226, u14 5), (228, u14 6), (229, u14 7), (230, u14 8), (12, p11), (13, p12)]) (180 + 20 * i))))))) hP hD rfl (box_eq (g := g) rfl rfl rfl)
  have hSt : St tabX A s.heap (g.1, g.2.1, lk [(0, h0), (1, p0), (20, q_1), (21, u1.1 1), (22, u1.1 2), (23, u1.1 3), (25, u1.1 4), (120, q_2), (127, u2 1), (128, u2 2), (129, u2 3), (131, u2 4), (133, u2 5), (140, q_3), (147, u3 1), (148, u3 2), (149, u3 3), (151, u3 4), (153, u3 5), (30, q_4), (160, q_5), (162, u5 1), (163, u5 2), (164, u5 3), (165, u5 4), (166, u5 5), (168, u5 6), (169, u5 7), (170, u5 8), (40, q_6), (43, u6 1), (44, u6 2), (45, u6 3), (46, u6 4), (50, q_7), (53, u7 1), (54, u7 2), (55, u7 3), (56, u7 4), (57, u7 5), (60, q_8), (63, u8 1), (70, q_9), (73, u9 1), (74, u9 2), (75, u9 3), (76, u9 4), (77, u9 5), (78, u9 6), (79, u9 7), (80, u9 8), (90, q_10), (94, u10 1), (95, u10 2), (96, u10 3), (98, u10 4), (99, u10 5), (100, u10 6), (110, q_11), (111, u11 1), (11, p10), (180, q_12), (182, u12 1), (183, u12 2), (184, u12 3), (185, u12 4), (186, u12 5), (188, u12 6), (189, u12 7), (190, u12 8), (200, q_13), (202, u13 1), (203, u13 2), (204, u13 3), (205, u13 4), (206, u13 5), (208, u13 6), (209, u13 7), (210, u13 8), (220, q_14), (222, u14 1), (223, u14 2), (224, u14 3), (225, u14 4), (226, u14 5), (228, u14 6), (229, u14 7), (230, u14 8), (12, p11), (13, p12)]) (w0X u1.2) H locs := ⟨by rw [wsP_eq]; exact hP, by rw [wsP_eq]; exact hD, hS, hA, tabX_nd⟩
  exact X10_end (f := u1.2) (ad := lk [(0, h0), (1, p0), (20, q_1), (21, u1.1 1), (22, u1.1 2), (23, u1.1 3), (25, u1.1 4), (120, q_2), (127, u2 1), (128, u2 2), (129, u2 3), (131, u2 4), (133, u2 5), (140, q_3), (147, u3 1), (148, u3 2), (149, u3 3), (151, u3 4), (153, u3 5), (30, q_4), (160, q_5), (162, u5 1), (163, u5 2), (164, u5 3), (165, u5 4), (166, u5 5), (168, u5 6), (169, u5 7), (170, u5 8), (40, q_6), (43, u6 1), (44, u6 2), (45, u6 3), (46, u6 4), (50, q_7), (53, u7 1), (54, u7 2), (55, u7 3), (56, u7 4), (57, u7 5), (60, q_8), (63, u8 1), (70, q_9), (73, u9 1), (74, u9 2), (75, u9 3), (76, u9 4), (77, u9 5), (78, u9 6), (79, u9 7), (80, u9 8), (90, q_10), (94, u10 1), (95, u10 2), (96, u10 3), (98, u10 4), (99, u10 5), (100, u10 6), (110, q_11), (111, u11 1), (11, p10), (180, q_12), (182, u12 1), (183, u12 2), (184, u12 3), (185, u12 4), (186, u12 5), (188, u12 6), (189, u12 7), (190, u12 8), (200, q_13), (202, u13 1), (203, u13 2), (204, u13 3), (205, u13 4), (206, u13 5), (208, u13 6), (209, u13 7), (210, u13 8), (220, q_14), (222, u14 1), (223, u14 2), (224, u14 3), (225, u14 4), (226, u14 5), (228, u14 6), (229, u14 7), (230, u14 8), (12, p11), (13, p12)]) (h0 := h0) hC rfl hSt (lv_sub hl [1] rfl) ⟨(Nat.le_of_ble_eq_true rfl), (Nat.le_of_ble_eq_true rfl)⟩ ⟨(Nat.le_of_ble_eq_true rfl), (Nat.le_of_ble_eq_true rfl)⟩ (fun w H locs ls hp hSt => hRt (lk [(0, h0), (1, p0), (20, q_1), (21, u1.1 1), (22, u1.1 2), (23, u1.1 3), (25, u1.1 4), (120, q_2), (127, u2 1), (128, u2 2), (129, u2 3), (131, u2 4), (133, u2 5), (140, q_3), (147, u3 1), (148, u3 2), (149, u3 3), (151, u3 4), (153, u3 5), (30, q_4), (160, q_5), (162, u5 1), (163, u5 2), (164, u5 3), (165, u5 4), (166, u5 5), (168, u5 6), (169, u5 7), (170, u5 8), (40, q_6), (43, u6 1), (44, u6 2), (45, u6 3), (46, u6 4), (50, q_7), (53, u7 1), (54, u7 2), (55, u7 3), (56, u7 4), (57, u7 5), (60, q_8), (63, u8 1), (70, q_9), (73, u9 1), (74, u9 2), (75, u9 3), (76, u9 4), (77, u9 5), (78, u9 6), (79, u9 7), (80, u9 8), (90, q_10), (94, u10 1), (95, u10 2), (96, u10 3), (98, u10 4), (99, u10 5), (100, u10 6), (110, q_11), (111, u11 1), (11, p10), (180, q_12), (182, u12 1), (183, u12 2), (184, u12 3), (185, u12 4), (186, u12 5), (188, u12 6), (189, u12 7), (190, u12 8), (200, q_13), (202, u13 1), (203, u13 2), (204, u13 3), (205, u13 4), (206, u13 5), (208, u13 6), (209, u13 7), (210, u13 8), (220, q_14), (222, u14 1), (223, u14 2), (224, u14 3), (225, u14 4), (226, u14 5), (228, u14 6), (229, u14 7), (230, u14 8), (12, p11), (13, p12)], w) H locs ls 225 dX10_init_225 ⟨rfl, hp⟩ hSt.1 hSt.2.1 hSt.2.2.1)
