theorem m10 : (Cond.instanceMethod objectInit) ∈ wsL_law := rin1 _ (List.mem_of_getElem? (i := 10) (by decide +kernel))
theorem m11 : (Cond.code objectInit ⟨#[0xb1]⟩ 1 none) ∈ wsL_law := rin1 _ (List.mem_of_getElem? (i := 11) (by decide +kernel))
theorem m58 : (Cond.arrayClass .int) ∈ wsL_law := rin3 _ (List.mem_of_getElem? (i := 10) (by decide +kernel))
theorem m67 : (Cond.arrayClass .long) ∈ wsL_law := rin3 _ (List.mem_of_getElem? (i := 19) (by decide +kernel))
theorem m127 : (Cond.methodLink RX7 3 objectInit) ∈ wsL_law := rin6 _ (List.mem_of_getElem? (i := 7) (by decide +kernel))
theorem m133 : (Cond.methodLink RX7 28 yX7_clear) ∈ wsL_law := rin6 _ (List.mem_of_getElem? (i := 13) (by decide +kernel))
theorem m148 : (Cond.methodLink RX6 3 objectInit) ∈ wsL_law := rin7 _ (List.mem_of_getElem? (i := 4) (by decide +kernel))
theorem m154 : (Cond.methodLink RX2 3 objectInit) ∈ wsL_law := rin7 _ (List.mem_of_getElem? (i := 10) (by decide +kernel))
theorem m166 : (Cond.methodLink RX1 5 objectInit) ∈ wsL_law := rin7 _ (List.mem_of_getElem? (i := 22) (by decide +kernel))
theorem m176 : (Cond.methodLink RX0 3 objectInit) ∈ wsL_law := rin8 _ (List.mem_of_getElem? (i := 8) (by decide +kernel))
theorem m187 : (Cond.methodLink RX9 3 objectInit) ∈ wsL_law := rin8 _ (List.mem_of_getElem? (i := 19) (by decide +kernel))
theorem m194 : (Cond.methodLink RX3 3 objectInit) ∈ wsL_law := rin9 _ (List.mem_of_getElem? (i := 2) (by decide +kernel))
theorem m206 : (Cond.methodLink RX5 3 objectInit) ∈ wsL_law := rin9 _ (List.mem_of_getElem? (i := 14) (by decide +kernel))
theorem m216 : (Cond.methodLink RX4 3 objectInit) ∈ wsL_law := rin10 _ (List.mem_of_getElem? (i := 0) (by decide +kernel))
theorem cwX7_28 : GoodIn wsL_law (wsV RX7 28 RX7 yX7_clear (.code yX7_clear cX7_clear 1 none :: wsL_law)) := gV m133 m134 m135 m20 m136
theorem kB_49 : (Int8.ofInt 49).toInt32 = (49 : Int32) := by decide
theorem kS_4160 : (Int16.ofInt 4160).toInt32 = (4160 : Int32) := by decide
theorem kS_12288 : (Int16.ofInt 12288).toInt32 = (12288 : Int32) := by decide
def lX0 (g : Gw) (h0 : Nat) (a1 : Nat) (a2 : Nat) (u : Nat → Nat) : va_W := [(h0, .inr (0, [.ref a1, .ref a2, .ref (u 1), .ref (u 2), .ref (u 3), .ref (u 4), .ref (u 5), .int 0, .int 0])),
  (u 1, .inl (g.2.1 0, 40, .inl (fun _ => 0))),
  (u 2, .inl (g.2.1 0, 40, .inl (fun _ => 0))),
  (u 3, .inl (g.2.1 0, 40, .inl (fun _ => 0))),
  (u 4, .inl (g.2.1 0, 40, .inl (fun _ => 0))),
  (u 5, .inl (g.2.1 0, 40, .inl (fun _ => 0)))]
abbrev nX0 : List Value := [.null, .null, .null, .null, .null, .null, .null, .int 0, .int 0]
def lX1 (g : Gw) (h0 : Nat) (a1 : Nat) (a2 : Nat) (u : Nat → Nat) : va_W := [(h0, .inr (1, [.ref a1, .ref a2, .ref (u 1), .ref (u 2), .ref (u 3), .ref (u 4)])),
  (u 1, .inl (g.2.1 0, 4160, .inl (fun _ => 0))),
  (u 2, .inl (g.2.1 0, 4160, .inl (fun _ => 0))),
  (u 3, .inl (g.2.1 0, 40, .inl (fun _ => 0))),
  (u 4, .inl (g.2.1 0, 8, .inl (fun _ => 0)))]
abbrev nX1 : List Value := [.null, .null, .null, .null, .null, .null]
def lX2 (g : Gw) (h0 : Nat) (u : Nat → Nat) : va_W := [(h0, .inr (2, [.int 0, .ref (u 1), .ref (u 2), .ref (u 3), .ref (u 4), .ref (u 5), .int 0, .ref (u 6), .ref (u 7), .ref (u 8), .int 0, .int 0, .int 0, .int 0])),
  (u 1, .inl (g.2.1 0, 24, .inl (fun _ => 0))),
  (u 2, .inl (g.2.1 0, 24, .inl (fun _ => 0))),
  (u 3, .inl (g.2.1 0, 24, .inl (fun _ => 0))),
  (u 4, .inl (g.2.1 0, 24, .inl (fun _ => 0))),
  (u 5, .inl (g.2.1 0, 24, .inl (fun _ => 0))),
  (u 6, .inl (g.2.1 0, 40, .inl (fun _ => 0))),
  (u 7, .inl (g.2.1 0, 40, .inl (fun _ => 0))),
  (u 8, .inl (g.2.1 0, 40, .inl (fun _ => 0)))]
abbrev nX2 : List Value := [.int 0, .null, .null, .null, .null, .null, .int 0, .null, .null, .null, .int 0, .int 0, .int 0, .int 0]
def lX3 (g : Gw) (h0 : Nat) (u : Nat → Nat) : va_W := [(h0, .inr (3, [.int 0, .int 0, .ref (u 1), .ref (u 2), .ref (u 3), .ref (u 4), .ref (u 5), .ref (u 6), .ref (u 7), .ref (u 8)])),
  (u 1, .inl (g.2.1 0, 40, .inl (fun _ => 0))),
  (u 2, .inl (g.2.1 0, 40, .inl (fun _ => 0))),
  (u 3, .inl (g.2.1 0, 40, .inl (fun _ => 0))),
  (u 4, .inl (g.2.1 0, 40, .inl (fun _ => 0))),
  (u 5, .inl (g.2.1 0, 40, .inl (fun _ => 0))),
  (u 6, .inl (g.2.1 0, 40, .inl (fun _ => 0))),
  (u 7, .inl (g.2.1 0, 8, .inl (fun _ => 0))),
  (u 8, .inl (g.2.1 0, 8, .inl (fun _ => 0)))]
abbrev nX3 : List Value := [.int 0, .int 0, .null, .null, .null, .null, .null, .null, .null, .null]
def lX4 (g : Gw) (h0 : Nat) (u : Nat → Nat) : va_W := [(h0, .inr (4, [.ref (u 1), .int 0])),
  (u 1, .inl (g.2.1 0, 16, .inl (fun _ => 0)))]
abbrev nX4 : List Value := [.null, .int 0]
def lX5 (g : Gw) (h0 : Nat) (u : Nat → Nat) : va_W := [(h0, .inr (5, [.int 0, .int 0, .int 0, .ref (u 1), .ref (u 2), .ref (u 3), .int 0, .ref (u 4), .ref (u 5), .ref (u 6)])),
  (u 1, .inl (g.2.1 0, 7, .inl (fun _ => 0))),
  (u 2, .inl (g.2.1 0, 7, .inl (fun _ => 0))),
  (u 3, .inl (g.2.1 0, 49, .inl (fun _ => 0))),
  (u 4, .inl (g.2.1 0, 7, .inl (fun _ => 0))),
  (u 5, .inl (g.2.1 0, 8, .inl (fun _ => 0))),
  (u 6, .inl (g.2.1 0, 7, .inl (fun _ => 0)))]
abbrev nX5 : List Value := [.int 0, .int 0, .int 0, .null, .null, .null, .int 0, .null, .null, .null]
def lX6 (g : Gw) (h0 : Nat) (a1 : Nat) (a2 : Nat) (u : Nat → Nat) : va_W := [(h0, .inr (6, [.ref a1, .ref a2, .int 0, .int 0, .int 0, .int 0, .long 0, .int 0, .int 0]))]
abbrev nX6 : List Value := [.null, .null, .int 0, .int 0, .int 0, .int 0, .long 0, .int 0, .int 0]
def lX7 (g : Gw) (h0 : Nat) (u : Nat → Nat) : va_W := [(h0, .inr (7, [.int 8, .int 0, .int 0, .int 100, .int 0, .int 0, .ref (u 1), .ref (u 2), .ref (u 3), .int 0, .ref (u 4), .int 0, .ref (u 5)])),
  (u 1, .inl (g.2.1 3, 4, .inr (.inl (fun _ => 0)))),
  (u 2, .inl (g.2.1 0, 4, .inl (fun _ => 0))),
  (u 3, .inl (g.2.1 0, 1600, .inl (fun _ => 0))),
  (u 4, .inl (g.2.1 0, 9, .inl (fun _ => 0))),
  (u 5, .inl (g.2.1 0, 32, .inl (fun _ => 0)))]
abbrev nX7 : List Value := [.int 0, .int 0, .int 0, .int 0, .int 0, .int 0, .null, .null, .null, .int 0, .null, .int 0, .null]
def lX9 (g : Gw) (h0 : Nat) (a1 : Nat) (a2 : Nat) (u : Nat → Nat) : va_W := [(h0, .inr (9, [.ref a1, .ref a2, .ref (u 1), .int 0, .int 0, .int 0])),
  (u 1, .inl (g.2.1 0, 12288, .inl (fun _ => 0)))]
abbrev nX9 : List Value := [.null, .null, .null, .int 0, .int 0, .int 0]
set_option maxHeartbeats 4000000 in
set_option maxRecDepth 100000 in
theorem k_X7_clear {l : Launch} {g : Gw} {h0 : Nat} {fs : List Value} (hfs : fs.length = 13) : MtE l yX7_clear cX7_clear 1 0 0 0 g [(h0, .inr (7, fs))] [.ref h0] XT (fun _ : Nat => True) (fun _ => [(h0, .inr (7, ((((((((fs.set 0 (.int 8)).set 1 (.int 0)).set 2 (.int 0)).set 3 (.int 100)).set 4 (.int 0)).set 5 (.int 0)).set 9 (.int 0)).set 11 (.int 0))))]) := by
  refine e_ent (by decide) rfl (Nat.le_of_ble_eq_true rfl) ?_
  intro p e s m args below meth c A Q ls hAe hC hin hX hRt hP hD hS hA hl
  have hx := hC.1
  have hb := hC.2.1
  have hl : lv_has ls 1 [(0, .ref h0)] := hl
  refine lv_aload_n hx hb dX7_clear_0 rfl (lv_at hl 0 rfl) ?_
  refine lv_bipush hx hb dX7_clear_1 kB_8 ?_
  refine e_putV (ci := 7) (C := RX7) (T := TX7) (N := 13) (ty0 := tyX7) (ty := .int) (v := .int 8) hC hP hD hS rfl inlX7 tyX7_ok nmX7 0 (by decide) rfl (by decide +kernel) rfl rfl (by (try simp only [List.length_set]); exact hfs) m137 dX7_clear_3 (fun H locs hP hD hS => ?_)
  refine lv_aload_n hx hb dX7_clear_6 rfl (lv_at hl 0 rfl) ?_
  refine lv_iconst hx hb dX7_clear_7 kI_0 ?_
  refine e_putV (ci := 7) (C := RX7) (T := TX7) (N := 13) (ty0 := tyX7) (ty := .int) (v := .int 0) hC hP hD hS rfl inlX7 tyX7_ok nmX7 1 (by decide) rfl (by decide +kernel) rfl rfl (by (try simp only [List.length_set]); exact hfs) m138 dX7_clear_8 (fun H locs hP hD hS => ?_)
  refine lv_aload_n hx hb dX7_clear_11 rfl (lv_at hl 0 rfl) ?_
  refine lv_iconst hx hb dX7_clear_12 kI_0 ?_
  refine e_putV (ci := 7) (C := RX7) (T := TX7) (N := 13) (ty0 := tyX7) (ty := .int) (v := .int 0) hC hP hD hS rfl inlX7 tyX7_ok nmX7 2 (by decide) rfl (by decide +kernel) rfl rfl (by (try simp only [List.length_set]); exact hfs) m139 dX7_clear_13 (fun H locs hP hD hS => ?_)
  refine lv_aload_n hx hb dX7_clear_16 rfl (lv_at hl 0 rfl) ?_
  refine lv_bipush hx hb dX7_clear_17 kB_100 ?_
  refine e_putV (ci := 7) (C := RX7) (T := TX7) (N := 13) (ty0 := tyX7) (ty := .int) (v := .int 100) hC hP hD hS rfl inlX7 tyX7_ok nmX7 3 (by decide) rfl (by decide +kernel) rfl rfl (by (try simp only [List.length_set]); exact hfs) m140 dX7_clear_19 (fun H locs hP hD hS => ?_)
  refine lv_aload_n hx hb dX7_clear_22 rfl (lv_at hl 0 rfl) ?_
  refine lv_iconst hx hb dX7_clear_23 kI_0 ?_
  refine e_putV (ci := 7) (C := RX7) (T := TX7) (N := 13) (ty0 := tyX7) (ty := .int) (v := .int 0) hC hP hD hS rfl inlX7 tyX7_ok nmX7 4 (by decide) rfl (by decide +kernel) rfl rfl (by (try simp only [List.length_set]); exact hfs) m141 dX7_clear_24 (fun H locs hP hD hS => ?_)
  refine lv_aload_n hx hb dX7_clear_27 rfl (lv_at hl 0 rfl) ?_
  refine lv_iconst hx hb dX7_clear_28 kI_0 ?_
  refine e_putV (ci := 7) (C := RX7) (T := TX7) (N := 13) (ty0 := tyX7) (ty := .int) (v := .int 0) hC hP hD hS rfl inlX7 tyX7_ok nmX7 5 (by decide) rfl (by decide +kernel) rfl rfl (by (try simp only [List.length_set]); exact hfs) m142 dX7_clear_29 (fun H locs hP hD hS => ?_)
  refine lv_aload_n hx hb dX7_clear_32 rfl (lv_at hl 0 rfl) ?_
  refine lv_iconst hx hb dX7_clear_33 kI_0 ?_
  refine e_putV (ci := 7) (C := RX7) (T := TX7) (N := 13) (ty0 := tyX7) (ty := .int) (v := .int 0) hC hP hD hS rfl inlX7 tyX7_ok nmX7 9 (by decide) rfl (by decide +kernel) rfl rfl (by (try simp only [List.length_set]); exact hfs) m143 dX7_clear_34 (fun H locs hP hD hS => ?_)
  refine lv_aload_n hx hb dX7_clear_37 rfl (lv_at hl 0 rfl) ?_
  refine lv_iconst hx hb dX7_clear_38 kI_0 ?_
  refine e_putV (ci := 7) (C := RX7) (T := TX7) (N := 13) (ty0 := tyX7) (ty := .int) (v := .int 0) hC hP hD hS rfl inlX7 tyX7_ok nmX7 11 (by decide) rfl (by decide +kernel) rfl rfl (by (try simp only [List.length_set]); exact hfs) m144 dX7_clear_39 (fun H locs hP hD hS => ?_)
  exact hRt h0 _ _ _ _ dX7_clear_42 trivial hP hD hS
set_option maxHeartbeats 4000000 in
set_option maxRecDepth 100000 in
theorem k_X0_init {l : Launch} {g : Gw} {h0 a1 a2 : Nat} : MtE l yX0_init cX0_init 3 1 5 200 g [(h0, .inr (0, nX0))] [.ref h0, .ref a1, .ref a2] XT (fun _ : Nat → Nat => True) (lX0 g h0 a1 a2) := by
  refine e_ent (by decide) rfl (Nat.le_of_ble_eq_true rfl) ?_
  intro p e s m args below meth c A Q ls hAe hC hin hX hRt hP hD hS hA hl
  have hin : meth.name = "<init>" := hin
  have hx := hC.1
  have hb := hC.2.1
  have hl : lv_has ls 3 [(0, .ref h0), (1, .ref a1), (2, .ref a2)] := hl
  refine lv_aload_n hx hb dX0_init_0 rfl (lv_at hl 0 rfl) ?_
  refine e_obj hC hl.1 m176 m10 m11 ⟨(Nat.le_of_ble_eq_true rfl), (Nat.le_of_ble_eq_true rfl)⟩ dX0_init_1 ?_
  refine lv_aload_n hx hb dX0_init_4 rfl (lv_at hl 0 rfl) ?_
  refine lv_aload_n hx hb dX0_init_5 rfl (lv_at hl 1 rfl) ?_
  refine e_putF (ci := 0) (C := RX0) (T := TX0) (N := 9) (ty0 := tyX0) (ty := (.object "SealCasts$Court")) (v := (.ref a1)) hC hin hP hD hS rfl inlX0 tyX0_ok nmX0 0 (by decide) rfl rfl (by decide +kernel) rfl rfl rfl m177 dX0_init_6 (fun H locs hP hD hS => ?_)
  refine lv_aload_n hx hb dX0_init_9 rfl (lv_at hl 0 rfl) ?_
  refine lv_aload_n hx hb dX0_init_10 rfl (lv_at hl 2 rfl) ?_
  refine e_putF (ci := 0) (C := RX0) (T := TX0) (N := 9) (ty0 := tyX0) (ty := (.object "SealCasts$Bench")) (v := (.ref a2)) hC hin hP hD hS rfl inlX0 tyX0_ok nmX0 1 (by decide) rfl rfl (by decide +kernel) rfl rfl rfl m178 dX0_init_11 (fun H locs hP hD hS => ?_)
  refine lv_aload_n hx hb dX0_init_14 rfl (lv_at hl 0 rfl) ?_
  refine lv_bipush hx hb dX0_init_15 kB_40 ?_
  refine e_npI (ci := 0) (C := RX0) (T := TX0) (N := 9) (ty0 := tyX0) (n := 40) (N' := 40) hC hin hP hD hS hA m58 rfl inlX0 tyX0_ok nmX0 2 (by decide) rfl rfl (by decide +kernel) rfl m179 (by decide) (by decide) (by decide) (Nat.le_of_ble_eq_true rfl) (Nat.le_of_ble_eq_true rfl) dX0_init_17 dX0_init_19 (fun q1 H locs hP hD hS => ?_)
  refine lv_aload_n hx hb dX0_init_22 rfl (lv_at hl 0 rfl) ?_
  refine lv_bipush hx hb dX0_init_23 kB_40 ?_
  refine e_npI (ci := 0) (C := RX0) (T := TX0) (N := 9) (ty0 := tyX0) (n := 40) (N' := 40) hC hin hP hD hS hA m58 rfl inlX0 tyX0_ok nmX0 3 (by decide) rfl rfl (by decide +kernel) rfl m180 (by decide) (by decide) (by decide) (Nat.le_of_ble_eq_true rfl) (Nat.le_of_ble_eq_true rfl) dX0_init_25 dX0_init_27 (fun q2 H locs hP hD hS => ?_)
  refine lv_aload_n hx hb dX0_init_30 rfl (lv_at hl 0 rfl) ?_
  refine lv_bipush hx hb dX0_init_31 kB_40 ?_
  refine e_npI (ci := 0) (C := RX0) (T := TX0) (N := 9) (ty0 := tyX0) (n := 40) (N' := 40) hC hin hP hD hS hA m58 rfl inlX0 tyX0_ok nmX0 4 (by decide) rfl rfl (by decide +kernel) rfl m181 (by decide) (by decide) (by decide) (Nat.le_of_ble_eq_true rfl) (Nat.le_of_ble_eq_true rfl) dX0_init_33 dX0_init_35 (fun q3 H locs hP hD hS => ?_)
  refine lv_aload_n hx hb dX0_init_38 rfl (lv_at hl 0 rfl) ?_
  refine lv_bipush hx hb dX0_init_39 kB_40 ?_
  refine e_npI (ci := 0) (C := RX0) (T := TX0) (N := 9) (ty0 := tyX0) (n := 40) (N' := 40) hC hin hP hD hS hA m58 rfl inlX0 tyX0_ok nmX0 5 (by decide) rfl rfl (by decide +kernel) rfl m182 (by decide) (by decide) (by decide) (Nat.le_of_ble_eq_true rfl) (Nat.le_of_ble_eq_true rfl) dX0_init_41 dX0_init_43 (fun q4 H locs hP hD hS => ?_)
  refine lv_aload_n hx hb dX0_init_46 rfl (lv_at hl 0 rfl) ?_
  refine lv_bipush hx hb dX0_init_47 kB_40 ?_
  refine e_npI (ci := 0) (C := RX0) (T := TX0) (N := 9) (ty0 := tyX0) (n := 40) (N' := 40) hC hin hP hD hS hA m58 rfl inlX0 tyX0_ok nmX0 6 (by decide) rfl rfl (by decide +kernel) rfl m183 (by decide) (by decide) (by decide) (Nat.le_of_ble_eq_true rfl) (Nat.le_of_ble_eq_true rfl) dX0_init_49 dX0_init_51 (fun q5 H locs hP hD hS => ?_)
  exact hRt (fun i => ([h0, q1, q2, q3, q4, q5] : List Nat).getD i 0) _ _ _ _ dX0_init_54 trivial hP hD hS
set_option maxHeartbeats 4000000 in
set_option maxRecDepth 100000 in
theorem k_X1_init {l : Launch} {g : Gw} {h0 a1 a2 : Nat} : MtE l yX1_init cX1_init 3 1 4 8368 g [(h0, .inr (1, nX1))] [.ref h0, .ref a1, .ref a2] XT (fun _ : Nat → Nat => True) (lX1 g h0 a1 a2) := by
  refine e_ent (by decide) rfl (Nat.le_of_ble_eq_true rfl) ?_
  intro p e s m args below meth c A Q ls hAe hC hin hX hRt hP hD hS hA hl
  have hin : meth.name = "<init>" := hin
  have hx := hC.1
  have hb := hC.2.1
  have hl : lv_has ls 3 [(0, .ref h0), (1, .ref a1), (2, .ref a2)] := hl
  refine lv_aload_n hx hb dX1_init_0 rfl (lv_at hl 0 rfl) ?_
  refine e_obj hC hl.1 m166 m10 m11 ⟨(Nat.le_of_ble_eq_true rfl), (Nat.le_of_ble_eq_true rfl)⟩ dX1_init_1 ?_
  refine lv_aload_n hx hb dX1_init_4 rfl (lv_at hl 0 rfl) ?_
  refine lv_aload_n hx hb dX1_init_5 rfl (lv_at hl 1 rfl) ?_
  refine e_putF (ci := 1) (C := RX1) (T := TX1) (N := 6) (ty0 := tyX1) (ty := (.object "SealCasts$Court")) (v := (.ref a1)) hC hin hP hD hS rfl inlX1 tyX1_ok nmX1 0 (by decide) rfl rfl (by decide +kernel) rfl rfl rfl m167 dX1_init_6 (fun H locs hP hD hS => ?_)
  refine lv_aload_n hx hb dX1_init_9 rfl (lv_at hl 0 rfl) ?_
  refine lv_aload_n hx hb dX1_init_10 rfl (lv_at hl 2 rfl) ?_
  refine e_putV (ci := 1) (C := RX1) (T := TX1) (N := 6) (ty0 := tyX1) (ty := (.object "SealCasts$Rules")) (v := (.ref a2)) hC hP hD hS rfl inlX1 tyX1_ok nmX1 1 (by decide) rfl (by decide +kernel) rfl rfl rfl m168 dX1_init_11 (fun H locs hP hD hS => ?_)
  refine lv_aload_n hx hb dX1_init_14 rfl (lv_at hl 0 rfl) ?_
  refine lv_sipush hx hb dX1_init_15 kS_4160 ?_
  refine e_npI (ci := 1) (C := RX1) (T := TX1) (N := 6) (ty0 := tyX1) (n := 4160) (N' := 4160) hC hin hP hD hS hA m58 rfl inlX1 tyX1_ok nmX1 2 (by decide) rfl rfl (by decide +kernel) rfl m169 (by decide) (by decide) (by decide) (Nat.le_of_ble_eq_true rfl) (Nat.le_of_ble_eq_true rfl) dX1_init_18 dX1_init_20 (fun q1 H locs hP hD hS => ?_)
  refine lv_aload_n hx hb dX1_init_23 rfl (lv_at hl 0 rfl) ?_
  refine lv_sipush hx hb dX1_init_24 kS_4160 ?_
  refine e_npI (ci := 1) (C := RX1) (T := TX1) (N := 6) (ty0 := tyX1) (n := 4160) (N' := 4160) hC hin hP hD hS hA m58 rfl inlX1 tyX1_ok nmX1 3 (by decide) rfl rfl (by decide +kernel) rfl m170 (by decide) (by decide) (by decide) (Nat.le_of_ble_eq_true rfl) (Nat.le_of_ble_eq_true rfl) dX1_init_27 dX1_init_29 (fun q2 H locs hP hD hS => ?_)
  refine lv_aload_n hx hb dX1_init_32 rfl (lv_at hl 0 rfl) ?_
  refine lv_bipush hx hb dX1_init_33 kB_40 ?_
  refine e_npI (ci := 1) (C := RX1) (T := TX1) (N := 6) (ty0 := tyX1) (n := 40) (N' := 40) hC hin hP hD hS hA m58 rfl inlX1 tyX1_ok nmX1 4 (by decide) rfl rfl (by decide +kernel) rfl m171 (by decide) (by decide) (by decide) (Nat.le_of_ble_eq_true rfl) (Nat.le_of_ble_eq_true rfl) dX1_init_35 dX1_init_37 (fun q3 H locs hP hD hS => ?_)
  refine lv_aload_n hx hb dX1_init_40 rfl (lv_at hl 0 rfl) ?_
  refine lv_bipush hx hb dX1_init_41 kB_8 ?_
  refine e_npI (ci := 1) (C := RX1) (T := TX1) (N := 6) (ty0 := tyX1) (n := 8) (N' := 8) hC hin hP hD hS hA m58 rfl inlX1 tyX1_ok nmX1 5 (by decide) rfl rfl (by decide +kernel) rfl m172 (by decide) (by decide) (by decide) (Nat.le_of_ble_eq_true rfl) (Nat.le_of_ble_eq_true rfl) dX1_init_43 dX1_init_45 (fun q4 H locs hP hD hS => ?_)
  exact hRt (fun i => ([h0, q1, q2, q3, q4] : List Nat).getD i 0) _ _ _ _ dX1_init_48 trivial hP hD hS
set_option maxHeartbeats 4000000 in
set_option maxRecDepth 100000 in
theorem k_X2_init {l : Launch} {g : Gw} {h0 : Nat} : MtE l yX2_init cX2_init 1 1 8 240 g [(h0, .inr (2, nX2))] [.ref h0] XT (fun _ : Nat → Nat => True) (lX2 g h0 ) := by
  refine e_ent (by decide) rfl (Nat.le_of_ble_eq_true rfl) ?_
  intro p e s m args below meth c A Q ls hAe hC hin hX hRt hP hD hS hA hl
  have hin : meth.name = "<init>" := hin
  have hx := hC.1
  have hb := hC.2.1
  have hl : lv_has ls 1 [(0, .ref h0)] := hl
  refine lv_aload_n hx hb dX2_init_0 rfl (lv_at hl 0 rfl) ?_
  refine e_obj hC hl.1 m154 m10 m11 ⟨(Nat.le_of_ble_eq_true rfl), (Nat.le_of_ble_eq_true rfl)⟩ dX2_init_1 ?_
  refine lv_aload_n hx hb dX2_init_4 rfl (lv_at hl 0 rfl) ?_
  refine lv_bipush hx hb dX2_init_5 kB_24 ?_
  refine e_npI (ci := 2) (C := RX2) (T := TX2) (N := 14) (ty0 := tyX2) (n := 24) (N' := 24) hC hin hP hD hS hA m58 rfl inlX2 tyX2_ok nmX2 1 (by decide) rfl rfl (by decide +kernel) rfl m155 (by decide) (by decide) (by decide) (Nat.le_of_ble_eq_true rfl) (Nat.le_of_ble_eq_true rfl) dX2_init_7 dX2_init_9 (fun q1 H locs hP hD hS => ?_)
  refine lv_aload_n hx hb dX2_init_12 rfl (lv_at hl 0 rfl) ?_
  refine lv_bipush hx hb dX2_init_13 kB_24 ?_
  refine e_npI (ci := 2) (C := RX2) (T := TX2) (N := 14) (ty0 := tyX2) (n := 24) (N' := 24) hC hin hP hD hS hA m58 rfl inlX2 tyX2_ok nmX2 2 (by decide) rfl rfl (by decide +kernel) rfl m156 (by decide) (by decide) (by decide) (Nat.le_of_ble_eq_true rfl) (Nat.le_of_ble_eq_true rfl) dX2_init_15 dX2_init_17 (fun q2 H locs hP hD hS => ?_)
  refine lv_aload_n hx hb dX2_init_20 rfl (lv_at hl 0 rfl) ?_
  refine lv_bipush hx hb dX2_init_21 kB_24 ?_
  refine e_npI (ci := 2) (C := RX2) (T := TX2) (N := 14) (ty0 := tyX2) (n := 24) (N' := 24) hC hin hP hD hS hA m58 rfl inlX2 tyX2_ok nmX2 3 (by decide) rfl rfl (by decide +kernel) rfl m157 (by decide) (by decide) (by decide) (Nat.le_of_ble_eq_true rfl) (Nat.le_of_ble_eq_true rfl) dX2_init_23 dX2_init_25 (fun q3 H locs hP hD hS => ?_)
  refine lv_aload_n hx hb dX2_init_28 rfl (lv_at hl 0 rfl) ?_
  refine lv_bipush hx hb dX2_init_29 kB_24 ?_
  refine e_npI (ci := 2) (C := RX2) (T := TX2) (N := 14) (ty0 := tyX2) (n := 24) (N' := 24) hC hin hP hD hS hA m58 rfl inlX2 tyX2_ok nmX2 4 (by decide) rfl rfl (by decide +kernel) rfl m158 (by decide) (by decide) (by decide) (Nat.le_of_ble_eq_true rfl) (Nat.le_of_ble_eq_true rfl) dX2_init_31 dX2_init_33 (fun q4 H locs hP hD hS => ?_)
  refine lv_aload_n hx hb dX2_init_36 rfl (lv_at hl 0 rfl) ?_
  refine lv_bipush hx hb dX2_init_37 kB_24 ?_
  refine e_npI (ci := 2) (C := RX2) (T := TX2) (N := 14) (ty0 := tyX2) (n := 24) (N' := 24) hC hin hP hD hS hA m58 rfl inlX2 tyX2_ok nmX2 5 (by decide) rfl rfl (by decide +kernel) rfl m159 (by decide) (by decide) (by decide) (Nat.le_of_ble_eq_true rfl) (Nat.le_of_ble_eq_true rfl) dX2_init_39 dX2_init_41 (fun q5 H locs hP hD hS => ?_)
  refine lv_aload_n hx hb dX2_init_44 rfl (lv_at hl 0 rfl) ?_
  refine lv_bipush hx hb dX2_init_45 kB_40 ?_
  refine e_npI (ci := 2) (C := RX2) (T := TX2) (N := 14) (ty0 := tyX2) (n := 40) (N' := 40) hC hin hP hD hS hA m58 rfl inlX2 tyX2_ok nmX2 7 (by decide) rfl rfl (by decide +kernel) rfl m160 (by decide) (by decide) (by decide) (Nat.le_of_ble_eq_true rfl) (Nat.le_of_ble_eq_true rfl) dX2_init_47 dX2_init_49 (fun q6 H locs hP hD hS => ?_)
  refine lv_aload_n hx hb dX2_init_52 rfl (lv_at hl 0 rfl) ?_
  refine lv_bipush hx hb dX2_init_53 kB_40 ?_
  refine e_npI (ci := 2) (C := RX2) (T := TX2) (N := 14) (ty0 := tyX2) (n := 40) (N' := 40) hC hin hP hD hS hA m58 rfl inlX2 tyX2_ok nmX2 8 (by decide) rfl rfl (by decide +kernel) rfl m161 (by decide) (by decide) (by decide) (Nat.le_of_ble_eq_true rfl) (Nat.le_of_ble_eq_true rfl) dX2_init_55 dX2_init_57 (fun q7 H locs hP hD hS => ?_)
  refine lv_aload_n hx hb dX2_init_60 rfl (lv_at hl 0 rfl) ?_
  refine lv_bipush hx hb dX2_init_61 kB_40 ?_
  refine e_npI (ci := 2) (C := RX2) (T := TX2) (N := 14) (ty0 := tyX2) (n := 40) (N' := 40) hC hin hP hD hS hA m58 rfl inlX2 tyX2_ok nmX2 9 (by decide) rfl rfl (by decide +kernel) rfl m162 (by decide) (by decide) (by decide) (Nat.le_of_ble_eq_true rfl) (Nat.le_of_ble_eq_true rfl) dX2_init_63 dX2_init_65 (fun q8 H locs hP hD hS => ?_)
  exact hRt (fun i => ([h0, q1, q2, q3, q4, q5, q6, q7, q8] : List Nat).getD i 0) _ _ _ _ dX2_init_68 trivial hP hD hS
set_option maxHeartbeats 4000000 in
set_option maxRecDepth 100000 in
theorem k_X3_init {l : Launch} {g : Gw} {h0 : Nat} : MtE l yX3_init cX3_init 1 1 8 256 g [(h0, .inr (3, nX3))] [.ref h0] XT (fun _ : Nat → Nat => True) (lX3 g h0 ) := by
  refine e_ent (by decide) rfl (Nat.le_of_ble_eq_true rfl) ?_
  intro p e s m args below meth c A Q ls hAe hC hin hX hRt hP hD hS hA hl
  have hin : meth.name = "<init>" := hin
  have hx := hC.1
  have hb := hC.2.1
  have hl : lv_has ls 1 [(0, .ref h0)] := hl
  refine lv_aload_n hx hb dX3_init_0 rfl (lv_at hl 0 rfl) ?_
  refine e_obj hC hl.1 m194 m10 m11 ⟨(Nat.le_of_ble_eq_true rfl), (Nat.le_of_ble_eq_true rfl)⟩ dX3_init_1 ?_
  refine lv_aload_n hx hb dX3_init_4 rfl (lv_at hl 0 rfl) ?_
  refine lv_bipush hx hb dX3_init_5 kB_40 ?_
  refine e_npI (ci := 3) (C := RX3) (T := TX3) (N := 10) (ty0 := tyX3) (n := 40) (N' := 40) hC hin hP hD hS hA m58 rfl inlX3 tyX3_ok nmX3 2 (by decide) rfl rfl (by decide +kernel) rfl m195 (by decide) (by decide) (by decide) (Nat.le_of_ble_eq_true rfl) (Nat.le_of_ble_eq_true rfl) dX3_init_7 dX3_init_9 (fun q1 H locs hP hD hS => ?_)
  refine lv_aload_n hx hb dX3_init_12 rfl (lv_at hl 0 rfl) ?_
  refine lv_bipush hx hb dX3_init_13 kB_40 ?_
  refine e_npI (ci := 3) (C := RX3) (T := TX3) (N := 10) (ty0 := tyX3) (n := 40) (N' := 40) hC hin hP hD hS hA m58 rfl inlX3 tyX3_ok nmX3 3 (by decide) rfl rfl (by decide +kernel) rfl m196 (by decide) (by decide) (by decide) (Nat.le_of_ble_eq_true rfl) (Nat.le_of_ble_eq_true rfl) dX3_init_15 dX3_init_17 (fun q2 H locs hP hD hS => ?_)
  refine lv_aload_n hx hb dX3_init_20 rfl (lv_at hl 0 rfl) ?_
  refine lv_bipush hx hb dX3_init_21 kB_40 ?_
  refine e_npI (ci := 3) (C := RX3) (T := TX3) (N := 10) (ty0 := tyX3) (n := 40) (N' := 40) hC hin hP hD hS hA m58 rfl inlX3 tyX3_ok nmX3 4 (by decide) rfl rfl (by decide +kernel) rfl m197 (by decide) (by decide) (by decide) (Nat.le_of_ble_eq_true rfl) (Nat.le_of_ble_eq_true rfl) dX3_init_23 dX3_init_25 (fun q3 H locs hP hD hS => ?_)
  refine lv_aload_n hx hb dX3_init_28 rfl (lv_at hl 0 rfl) ?_
  refine lv_bipush hx hb dX3_init_29 kB_40 ?_
  refine e_npI (ci := 3) (C := RX3) (T := TX3) (N := 10) (ty0 := tyX3) (n := 40) (N' := 40) hC hin hP hD hS hA m58 rfl inlX3 tyX3_ok nmX3 5 (by decide) rfl rfl (by decide +kernel) rfl m198 (by decide) (by decide) (by decide) (Nat.le_of_ble_eq_true rfl) (Nat.le_of_ble_eq_true rfl) dX3_init_31 dX3_init_33 (fun q4 H locs hP hD hS => ?_)
  refine lv_aload_n hx hb dX3_init_36 rfl (lv_at hl 0 rfl) ?_
  refine lv_bipush hx hb dX3_init_37 kB_40 ?_
  refine e_npI (ci := 3) (C := RX3) (T := TX3) (N := 10) (ty0 := tyX3) (n := 40) (N' := 40) hC hin hP hD hS hA m58 rfl inlX3 tyX3_ok nmX3 6 (by decide) rfl rfl (by decide +kernel) rfl m199 (by decide) (by decide) (by decide) (Nat.le_of_ble_eq_true rfl) (Nat.le_of_ble_eq_true rfl) dX3_init_39 dX3_init_41 (fun q5 H locs hP hD hS => ?_)
  refine lv_aload_n hx hb dX3_init_44 rfl (lv_at hl 0 rfl) ?_
  refine lv_bipush hx hb dX3_init_45 kB_40 ?_
  refine e_npI (ci := 3) (C := RX3) (T := TX3) (N := 10) (ty0 := tyX3) (n := 40) (N' := 40) hC hin hP hD hS hA m58 rfl inlX3 tyX3_ok nmX3 7 (by decide) rfl rfl (by decide +kernel) rfl m200 (by decide) (by decide) (by decide) (Nat.le_of_ble_eq_true rfl) (Nat.le_of_ble_eq_true rfl) dX3_init_47 dX3_init_49 (fun q6 H locs hP hD hS => ?_)
  refine lv_aload_n hx hb dX3_init_52 rfl (lv_at hl 0 rfl) ?_
  refine lv_bipush hx hb dX3_init_53 kB_8 ?_
  refine e_npI (ci := 3) (C := RX3) (T := TX3) (N := 10) (ty0 := tyX3) (n := 8) (N' := 8) hC hin hP hD hS hA m58 rfl inlX3 tyX3_ok nmX3 8 (by decide) rfl rfl (by decide +kernel) rfl m201 (by decide) (by decide) (by decide) (Nat.le_of_ble_eq_true rfl) (Nat.le_of_ble_eq_true rfl) dX3_init_55 dX3_init_57 (fun q7 H locs hP hD hS => ?_)
  refine lv_aload_n hx hb dX3_init_60 rfl (lv_at hl 0 rfl) ?_
  refine lv_bipush hx hb dX3_init_61 kB_8 ?_
  refine e_npI (ci := 3) (C := RX3) (T := TX3) (N := 10) (ty0 := tyX3) (n := 8) (N' := 8) hC hin hP hD hS hA m58 rfl inlX3 tyX3_ok nmX3 9 (by decide) rfl rfl (by decide +kernel) rfl m202 (by decide) (by decide) (by decide) (Nat.le_of_ble_eq_true rfl) (Nat.le_of_ble_eq_true rfl) dX3_init_63 dX3_init_65 (fun q8 H locs hP hD hS => ?_)
  exact hRt (fun i => ([h0, q1, q2, q3, q4, q5, q6, q7, q8] : List Nat).getD i 0) _ _ _ _ dX3_init_68 trivial hP hD hS
set_option maxHeartbeats 4000000 in
set_option maxRecDepth 100000 in
theorem k_X4_init {l : Launch} {g : Gw} {h0 : Nat} : MtE l yX4_init cX4_init 1 1 1 16 g [(h0, .inr (4, nX4))] [.ref h0] XT (fun _ : Nat → Nat => True) (lX4 g h0 ) := by
  refine e_ent (by decide) rfl (Nat.le_of_ble_eq_true rfl) ?_
  intro p e s m args below meth c A Q ls hAe hC hin hX hRt hP hD hS hA hl
  have hin : meth.name = "<init>" := hin
  have hx := hC.1
  have hb := hC.2.1
  have hl : lv_has ls 1 [(0, .ref h0)] := hl
  refine lv_aload_n hx hb dX4_init_0 rfl (lv_at hl 0 rfl) ?_
  refine e_obj hC hl.1 m216 m10 m11 ⟨(Nat.le_of_ble_eq_true rfl), (Nat.le_of_ble_eq_true rfl)⟩ dX4_init_1 ?_
  refine lv_aload_n hx hb dX4_init_4 rfl (lv_at hl 0 rfl) ?_
  refine lv_bipush hx hb dX4_init_5 kB_16 ?_
  refine e_npI (ci := 4) (C := RX4) (T := TX4) (N := 2) (ty0 := tyX4) (n := 16) (N' := 16) hC hin hP hD hS hA m58 rfl inlX4 tyX4_ok nmX4 0 (by decide) rfl rfl (by decide +kernel) rfl m217 (by decide) (by decide) (by decide) (Nat.le_of_ble_eq_true rfl) (Nat.le_of_ble_eq_true rfl) dX4_init_7 dX4_init_9 (fun q1 H locs hP hD hS => ?_)
  exact hRt (fun i => ([h0, q1] : List Nat).getD i 0) _ _ _ _ dX4_init_12 trivial hP hD hS
set_option maxHeartbeats 4000000 in
set_option maxRecDepth 100000 in
theorem k_X5_init {l : Launch} {g : Gw} {h0 : Nat} : MtE l yX5_init cX5_init 1 1 6 85 g [(h0, .inr (5, nX5))] [.ref h0] XT (fun _ : Nat → Nat => True) (lX5 g h0 ) := by
  refine e_ent (by decide) rfl (Nat.le_of_ble_eq_true rfl) ?_
  intro p e s m args below meth c A Q ls hAe hC hin hX hRt hP hD hS hA hl
  have hin : meth.name = "<init>" := hin
  have hx := hC.1
  have hb := hC.2.1
  have hl : lv_has ls 1 [(0, .ref h0)] := hl
  refine lv_aload_n hx hb dX5_init_0 rfl (lv_at hl 0 rfl) ?_
  refine e_obj hC hl.1 m206 m10 m11 ⟨(Nat.le_of_ble_eq_true rfl), (Nat.le_of_ble_eq_true rfl)⟩ dX5_init_1 ?_
  refine lv_aload_n hx hb dX5_init_4 rfl (lv_at hl 0 rfl) ?_
  refine lv_bipush hx hb dX5_init_5 kB_7 ?_
  refine e_npI (ci := 5) (C := RX5) (T := TX5) (N := 10) (ty0 := tyX5) (n := 7) (N' := 7) hC hin hP hD hS hA m58 rfl inlX5 tyX5_ok nmX5 3 (by decide) rfl rfl (by decide +kernel) rfl m207 (by decide) (by decide) (by decide) (Nat.le_of_ble_eq_true rfl) (Nat.le_of_ble_eq_true rfl) dX5_init_7 dX5_init_9 (fun q1 H locs hP hD hS => ?_)
  refine lv_aload_n hx hb dX5_init_12 rfl (lv_at hl 0 rfl) ?_
  refine lv_bipush hx hb dX5_init_13 kB_7 ?_
  refine e_npI (ci := 5) (C := RX5) (T := TX5) (N := 10) (ty0 := tyX5) (n := 7) (N' := 7) hC hin hP hD hS hA m58 rfl inlX5 tyX5_ok nmX5 4 (by decide) rfl rfl (by decide +kernel) rfl m208 (by decide) (by decide) (by decide) (Nat.le_of_ble_eq_true rfl) (Nat.le_of_ble_eq_true rfl) dX5_init_15 dX5_init_17 (fun q2 H locs hP hD hS => ?_)
  refine lv_aload_n hx hb dX5_init_20 rfl (lv_at hl 0 rfl) ?_
  refine lv_bipush hx hb dX5_init_21 kB_49 ?_
  refine e_npI (ci := 5) (C := RX5) (T := TX5) (N := 10) (ty0 := tyX5) (n := 49) (N' := 49) hC hin hP hD hS hA m58 rfl inlX5 tyX5_ok nmX5 5 (by decide) rfl rfl (by decide +kernel) rfl m209 (by decide) (by decide) (by decide) (Nat.le_of_ble_eq_true rfl) (Nat.le_of_ble_eq_true rfl) dX5_init_23 dX5_init_25 (fun q3 H locs hP hD hS => ?_)
  refine lv_aload_n hx hb dX5_init_28 rfl (lv_at hl 0 rfl) ?_
  refine lv_bipush hx hb dX5_init_29 kB_7 ?_
  refine e_npI (ci := 5) (C := RX5) (T := TX5) (N := 10) (ty0 := tyX5) (n := 7) (N' := 7) hC hin hP hD hS hA m58 rfl inlX5 tyX5_ok nmX5 7 (by decide) rfl rfl (by decide +kernel) rfl m210 (by decide) (by decide) (by decide) (Nat.le_of_ble_eq_true rfl) (Nat.le_of_ble_eq_true rfl) dX5_init_31 dX5_init_33 (fun q4 H locs hP hD hS => ?_)
  refine lv_aload_n hx hb dX5_init_36 rfl (lv_at hl 0 rfl) ?_
  refine lv_bipush hx hb dX5_init_37 kB_8 ?_
  refine e_npI (ci := 5) (C := RX5) (T := TX5) (N := 10) (ty0 := tyX5) (n := 8) (N' := 8) hC hin hP hD hS hA m58 rfl inlX5 tyX5_ok nmX5 8 (by decide) rfl rfl (by decide +kernel) rfl m211 (by decide) (by decide) (by decide) (Nat.le_of_ble_eq_true rfl) (Nat.le_of_ble_eq_true rfl) dX5_init_39 dX5_init_41 (fun q5 H locs hP hD hS => ?_)
  refine lv_aload_n hx hb dX5_init_44 rfl (lv_at hl 0 rfl) ?_
  refine lv_bipush hx hb dX5_init_45 kB_7 ?_
  refine e_npI (ci := 5) (C := RX5) (T := TX5) (N := 10) (ty0 := tyX5) (n := 7) (N' := 7) hC hin hP hD hS hA m58 rfl inlX5 tyX5_ok nmX5 9 (by decide) rfl rfl (by decide +kernel) rfl m212 (by decide) (by decide) (by decide) (Nat.le_of_ble_eq_true rfl) (Nat.le_of_ble_eq_true rfl) dX5_init_47 dX5_init_49 (fun q6 H locs hP hD hS => ?_)
  exact hRt (fun i => ([h0, q1, q2, q3, q4, q5, q6] : List Nat).getD i 0) _ _ _ _ dX5_init_52 trivial hP hD hS
set_option maxHeartbeats 4000000 in
set_option maxRecDepth 100000 in
theorem k_X6_init {l : Launch} {g : Gw} {h0 a1 a2 : Nat} : MtE l yX6_init cX6_init 3 1 0 0 g [(h0, .inr (6, nX6))] [.ref h0, .ref a1, .ref a2] XT (fun _ : Nat → Nat => True) (lX6 g h0 a1 a2) := by
  refine e_ent (by decide) rfl (Nat.le_of_ble_eq_true rfl) ?_
  intro p e s m args below meth c A Q ls hAe hC hin hX hRt hP hD hS hA hl
  have hin : meth.name = "<init>" := hin
  have hx := hC.1
  have hb := hC.2.1
  have hl : lv_has ls 3 [(0, .ref h0), (1, .ref a1), (2, .ref a2)] := hl
  refine lv_aload_n hx hb dX6_init_0 rfl (lv_at hl 0 rfl) ?_
  refine e_obj hC hl.1 m148 m10 m11 ⟨(Nat.le_of_ble_eq_true rfl), (Nat.le_of_ble_eq_true rfl)⟩ dX6_init_1 ?_
  refine lv_aload_n hx hb dX6_init_4 rfl (lv_at hl 0 rfl) ?_
  refine lv_aload_n hx hb dX6_init_5 rfl (lv_at hl 1 rfl) ?_
  refine e_putF (ci := 6) (C := RX6) (T := TX6) (N := 9) (ty0 := tyX6) (ty := (.object "SealCasts$Tokens")) (v := (.ref a1)) hC hin hP hD hS rfl inlX6 tyX6_ok nmX6 0 (by decide) rfl rfl (by decide +kernel) rfl rfl rfl m149 dX6_init_6 (fun H locs hP hD hS => ?_)
  refine lv_aload_n hx hb dX6_init_9 rfl (lv_at hl 0 rfl) ?_
  refine lv_aload_n hx hb dX6_init_10 rfl (lv_at hl 2 rfl) ?_
  refine e_putV (ci := 6) (C := RX6) (T := TX6) (N := 9) (ty0 := tyX6) (ty := (.object "SealCasts$Rules")) (v := (.ref a2)) hC hP hD hS rfl inlX6 tyX6_ok nmX6 1 (by decide) rfl (by decide +kernel) rfl rfl rfl m150 dX6_init_11 (fun H locs hP hD hS => ?_)
  exact hRt (fun i => ([h0] : List Nat).getD i 0) _ _ _ _ dX6_init_14 trivial hP hD hS
set_option maxHeartbeats 4000000 in
set_option maxRecDepth 100000 in
theorem k_X7_init {l : Launch} {g : Gw} {h0 : Nat} : MtE l yX7_init cX7_init 1 1 5 1649 g [(h0, .inr (7, nX7))] [.ref h0] XT (fun _ : Nat → Nat => True) (lX7 g h0 ) := by
  refine e_ent (by decide) rfl (Nat.le_of_ble_eq_true rfl) ?_
  intro p e s m args below meth c A Q ls hAe hC hin hX hRt hP hD hS hA hl
  have hin : meth.name = "<init>" := hin
  have hx := hC.1
  have hb := hC.2.1
  have hl : lv_has ls 1 [(0, .ref h0)] := hl
  refine lv_aload_n hx hb dX7_init_0 rfl (lv_at hl 0 rfl) ?_
  refine e_obj hC hl.1 m127 m10 m11 ⟨(Nat.le_of_ble_eq_true rfl), (Nat.le_of_ble_eq_true rfl)⟩ dX7_init_1 ?_
  refine lv_aload_n hx hb dX7_init_4 rfl (lv_at hl 0 rfl) ?_
  refine lv_iconst hx hb dX7_init_5 kI_4 ?_
  refine e_npJ (ci := 7) (C := RX7) (T := TX7) (N := 13) (ty0 := tyX7) (n := 4) (N' := 4) hC hin hP hD hS hA m67 rfl inlX7 tyX7_ok nmX7 6 (by decide) rfl rfl (by decide +kernel) rfl m128 (by decide) (by decide) (by decide) (Nat.le_of_ble_eq_true rfl) (Nat.le_of_ble_eq_true rfl) dX7_init_6 dX7_init_8 (fun q1 H locs hP hD hS => ?_)
  refine lv_aload_n hx hb dX7_init_11 rfl (lv_at hl 0 rfl) ?_
  refine lv_iconst hx hb dX7_init_12 kI_4 ?_
  refine e_npI (ci := 7) (C := RX7) (T := TX7) (N := 13) (ty0 := tyX7) (n := 4) (N' := 4) hC hin hP hD hS hA m58 rfl inlX7 tyX7_ok nmX7 7 (by decide) rfl rfl (by decide +kernel) rfl m129 (by decide) (by decide) (by decide) (Nat.le_of_ble_eq_true rfl) (Nat.le_of_ble_eq_true rfl) dX7_init_13 dX7_init_15 (fun q2 H locs hP hD hS => ?_)
  refine lv_aload_n hx hb dX7_init_18 rfl (lv_at hl 0 rfl) ?_
  refine lv_sipush hx hb dX7_init_19 kS_1600 ?_
  refine e_npI (ci := 7) (C := RX7) (T := TX7) (N := 13) (ty0 := tyX7) (n := 1600) (N' := 1600) hC hin hP hD hS hA m58 rfl inlX7 tyX7_ok nmX7 8 (by decide) rfl rfl (by decide +kernel) rfl m130 (by decide) (by decide) (by decide) (Nat.le_of_ble_eq_true rfl) (Nat.le_of_ble_eq_true rfl) dX7_init_22 dX7_init_24 (fun q3 H locs hP hD hS => ?_)
  refine lv_aload_n hx hb dX7_init_27 rfl (lv_at hl 0 rfl) ?_
  refine lv_bipush hx hb dX7_init_28 kB_9 ?_
  refine e_npI (ci := 7) (C := RX7) (T := TX7) (N := 13) (ty0 := tyX7) (n := 9) (N' := 9) hC hin hP hD hS hA m58 rfl inlX7 tyX7_ok nmX7 10 (by decide) rfl rfl (by decide +kernel) rfl m131 (by decide) (by decide) (by decide) (Nat.le_of_ble_eq_true rfl) (Nat.le_of_ble_eq_true rfl) dX7_init_30 dX7_init_32 (fun q4 H locs hP hD hS => ?_)
  refine lv_aload_n hx hb dX7_init_35 rfl (lv_at hl 0 rfl) ?_
  refine lv_bipush hx hb dX7_init_36 kB_32 ?_
  refine e_npI (ci := 7) (C := RX7) (T := TX7) (N := 13) (ty0 := tyX7) (n := 32) (N' := 32) hC hin hP hD hS hA m58 rfl inlX7 tyX7_ok nmX7 12 (by decide) rfl rfl (by decide +kernel) rfl m132 (by decide) (by decide) (by decide) (Nat.le_of_ble_eq_true rfl) (Nat.le_of_ble_eq_true rfl) dX7_init_38 dX7_init_40 (fun q5 H locs hP hD hS => ?_)
  refine lv_aload_n hx hb dX7_init_43 rfl (lv_at hl 0 rfl) ?_
  have hP := e_swapP (a := [_]) hP
  have hD := e_swapD (a := [_]) hD
  refine e_callV (As := []) (rest := []) hC hP hD hS hA hl.1 (k_X7_clear (g := g) (h0 := h0) rfl) cwX7_28 yvX7_clear (va_recv (ci := 7) (q0 := 5) hC.2.2.2.2.2.1 hP rfl rfl) rfl rfl (Nat.le_of_ble_eq_true rfl) ⟨⟨(Nat.le_of_ble_eq_true rfl), (Nat.le_of_ble_eq_true rfl)⟩, (Nat.le_of_ble_eq_true rfl), (Nat.le_of_ble_eq_true rfl)⟩ dX7_init_44 (fun u H locs _ hP hD hS => ?_)
  have hP := e_swapP hP
  have hD := e_swapD hD
  exact hRt (fun i => ([h0, q1, q2, q3, q4, q5] : List Nat).getD i 0) _ _ _ _ dX7_init_47 trivial hP hD hS
set_option maxHeartbeats 4000000 in
set_option maxRecDepth 100000 in
theorem k_X9_init {l : Launch} {g : Gw} {h0 a1 a2 : Nat} : MtE l yX9_init cX9_init 3 1 1 12288 g [(h0, .inr (9, nX9))] [.ref h0, .ref a1, .ref a2] XT (fun _ : Nat → Nat => True) (lX9 g h0 a1 a2) := by
  refine e_ent (by decide) rfl (Nat.le_of_ble_eq_true rfl) ?_
  intro p e s m args below meth c A Q ls hAe hC hin hX hRt hP hD hS hA hl
  have hin : meth.name = "<init>" := hin
  have hx := hC.1
  have hb := hC.2.1
  have hl : lv_has ls 3 [(0, .ref h0), (1, .ref a1), (2, .ref a2)] := hl
  refine lv_aload_n hx hb dX9_init_0 rfl (lv_at hl 0 rfl) ?_
  refine e_obj hC hl.1 m187 m10 m11 ⟨(Nat.le_of_ble_eq_true rfl), (Nat.le_of_ble_eq_true rfl)⟩ dX9_init_1 ?_
  refine lv_aload_n hx hb dX9_init_4 rfl (lv_at hl 0 rfl) ?_
  refine lv_aload_n hx hb dX9_init_5 rfl (lv_at hl 1 rfl) ?_
  refine e_putF (ci := 9) (C := RX9) (T := TX9) (N := 6) (ty0 := tyX9) (ty := (.object "SealCasts$Court")) (v := (.ref a1)) hC hin hP hD hS rfl inlX9 tyX9_ok nmX9 0 (by decide) rfl rfl (by decide +kernel) rfl rfl rfl m188 dX9_init_6 (fun H locs hP hD hS => ?_)
  refine lv_aload_n hx hb dX9_init_9 rfl (lv_at hl 0 rfl) ?_
  refine lv_aload_n hx hb dX9_init_10 rfl (lv_at hl 2 rfl) ?_
  refine e_putF (ci := 9) (C := RX9) (T := TX9) (N := 6) (ty0 := tyX9) (ty := (.object "SealCasts$Bench")) (v := (.ref a2)) hC hin hP hD hS rfl inlX9 tyX9_ok nmX9 1 (by decide) rfl rfl (by decide +kernel) rfl rfl rfl m189 dX9_init_11 (fun H locs hP hD hS => ?_)
  refine lv_aload_n hx hb dX9_init_14 rfl (lv_at hl 0 rfl) ?_
  refine lv_sipush hx hb dX9_init_15 kS_12288 ?_
  refine e_npI (ci := 9) (C := RX9) (T := TX9) (N := 6) (ty0 := tyX9) (n := 12288) (N' := 12288) hC hin hP hD hS hA m58 rfl inlX9 tyX9_ok nmX9 2 (by decide) rfl rfl (by decide +kernel) rfl m190 (by decide) (by decide) (by decide) (Nat.le_of_ble_eq_true rfl) (Nat.le_of_ble_eq_true rfl) dX9_init_18 dX9_init_20 (fun q1 H locs hP hD hS => ?_)
  exact hRt (fun i => ([h0, q1] : List Nat).getD i 0) _ _ _ _ dX9_init_23 trivial hP hD hS
