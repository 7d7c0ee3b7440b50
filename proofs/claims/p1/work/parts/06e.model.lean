theorem m12 : (Cond.arrayClass .byte) ∈ wsL_law := rin1 _ (List.mem_of_getElem? (i := 12) (by decide +kernel))
theorem m56 : (Cond.arrayClass .boolean) ∈ wsL_law := rin3 _ (List.mem_of_getElem? (i := 8) (by decide +kernel))
theorem m252 : (Cond.methodLink RX11 1 objectInit) ∈ wsL_law := rin11 _ (List.mem_of_getElem? (i := 12) (by decide +kernel))
theorem m263 : (Cond.fieldLink RX11 42 "SealCastsModel" "ruleFrom" "[I") ∈ wsL_law := rin11 _ (List.mem_of_getElem? (i := 23) (by decide +kernel))
theorem m264 : (Cond.fieldLink RX11 45 "SealCastsModel" "ruleTo" "[I") ∈ wsL_law := rin12 _ (List.mem_of_getElem? (i := 0) (by decide +kernel))
theorem m268 : (Cond.fieldLink RX11 58 "SealCastsModel" "hName" "[J") ∈ wsL_law := rin12 _ (List.mem_of_getElem? (i := 4) (by decide +kernel))
theorem m269 : (Cond.fieldLink RX11 62 "SealCastsModel" "code" "[I") ∈ wsL_law := rin12 _ (List.mem_of_getElem? (i := 5) (by decide +kernel))
theorem m270 : (Cond.fieldLink RX11 65 "SealCastsModel" "codeNumber" "[I") ∈ wsL_law := rin12 _ (List.mem_of_getElem? (i := 6) (by decide +kernel))
theorem m271 : (Cond.fieldLink RX11 68 "SealCastsModel" "eWhat" "[I") ∈ wsL_law := rin12 _ (List.mem_of_getElem? (i := 7) (by decide +kernel))
theorem m272 : (Cond.fieldLink RX11 71 "SealCastsModel" "eSign" "[I") ∈ wsL_law := rin12 _ (List.mem_of_getElem? (i := 8) (by decide +kernel))
theorem m273 : (Cond.fieldLink RX11 74 "SealCastsModel" "pile" "[I") ∈ wsL_law := rin12 _ (List.mem_of_getElem? (i := 9) (by decide +kernel))
theorem m282 : (Cond.constant RX11 101 (65536)) ∈ wsL_law := rin12 _ (List.mem_of_getElem? (i := 18) (by decide +kernel))
theorem kB_60 : (Int8.ofInt 60).toInt32 = (60 : Int32) := by decide
theorem kB_90 : (Int8.ofInt 90).toInt32 = (90 : Int32) := by decide
theorem kS_663 : (Int16.ofInt 663).toInt32 = (663 : Int32) := by decide
theorem kS_1120 : (Int16.ofInt 1120).toInt32 = (1120 : Int32) := by decide
theorem kS_1620 : (Int16.ofInt 1620).toInt32 = (1620 : Int32) := by decide
theorem kS_9061 : (Int16.ofInt 9061).toInt32 = (9061 : Int32) := by decide
theorem kS_20480 : (Int16.ofInt 20480).toInt32 = (20480 : Int32) := by decide
abbrev nX11 : List Value := [.null, .null, .int 0, .int 0, .int 0, .int 0, .int 0, .int 0, .int 0, .int 0, .long 0, .null, .null, .null, .null, .null, .null, .null, .null, .null, .null, .null, .null, .null, .null, .null, .null, .null, .null, .int 0, .int 0, .int 0, .int 0, .int 0, .int 0, .int 0, .int 0, .int 0, .int 0, .int 0, .null, .null, .int 0, .int 0, .null, .null, .null, .null, .int 0, .null, .null, .null, .null, .null, .null, .null, .null, .null, .int 0, .int 0, .null, .null, .null, .int 0, .null, .null, .null, .null, .null]
def lX11 (g : Gw) (u : (Nat → Nat) × Wd) : va_W := wsW tabM (g.1, g.2.1, u.1) u.2
set_option maxHeartbeats 40000000 in
set_option maxRecDepth 100000 in
theorem k_X11_init {l : Launch} {g : Gw} {h0 : Nat} : MtE l yX11_init cX11_init 1 2 43 106266 g [(h0, .inr (11, nX11))] [.ref h0] XT (fun u : (Nat → Nat) × Wd => u.1 300 = h0 ∧ FM u.2) (lX11 g) := by
  refine e_ent (by decide) rfl (Nat.le_of_ble_eq_true rfl) ?_
  intro p e s m args below meth c A Q ls hAe hC hin hX hRt hP hD hS hA hl
  have hin : meth.name = "<init>" := hin
  have hx := hC.1
  have hb := hC.2.1
  have hl : lv_has ls 1 [(0, .ref h0)] := hl
  refine lv_aload_n hx hb dX11_init_0 rfl (lv_at hl 0 rfl) ?_
  refine e_obj hC hl.1 m252 m10 m11 ⟨(Nat.le_of_ble_eq_true rfl), (Nat.le_of_ble_eq_true rfl)⟩ dX11_init_1 ?_
  refine lv_aload_n hx hb dX11_init_4 rfl (lv_at hl 0 rfl) ?_
  refine lv_sipush hx hb dX11_init_5 kS_1620 ?_
  refine e_npB (ci := 11) (C := RX11) (T := TX11) (N := 69) (ty0 := tyX11) (n := 1620) (N' := 1620) hC hin hP hD hS hA m12 rfl inlX11 tyX11_ok nmX11 0 (by decide) rfl rfl (by decide +kernel) (Nat.le_of_ble_eq_true rfl) m253 (by decide) (by decide) (by decide) (Nat.le_of_ble_eq_true rfl) (Nat.le_of_ble_eq_true rfl) dX11_init_8 dX11_init_10 (fun q301 H locs hP hD hS => ?_)
  refine lv_aload_n hx hb dX11_init_13 rfl (lv_at hl 0 rfl) ?_
  refine lv_sipush hx hb dX11_init_14 kS_1600 ?_
  refine e_npB (ci := 11) (C := RX11) (T := TX11) (N := 69) (ty0 := tyX11) (n := 1600) (N' := 1600) hC hin hP hD hS hA m12 rfl inlX11 tyX11_ok nmX11 1 (by decide) rfl rfl (by decide +kernel) (Nat.le_of_ble_eq_true rfl) m254 (by decide) (by decide) (by decide) (Nat.le_of_ble_eq_true rfl) (Nat.le_of_ble_eq_true rfl) dX11_init_17 dX11_init_19 (fun q302 H locs hP hD hS => ?_)
  refine lv_aload_n hx hb dX11_init_22 rfl (lv_at hl 0 rfl) ?_
  refine lv_iconst hx hb dX11_init_23 kI_m1 ?_
  refine e_putV (ci := 11) (C := RX11) (T := TX11) (N := 69) (ty0 := tyX11) (ty := .int) (v := (.int (-1))) hC hP hD hS rfl inlX11 tyX11_ok nmX11 5 (by decide) rfl (by decide +kernel) rfl rfl (Nat.le_of_ble_eq_true rfl) m255 dX11_init_24 (fun H locs hP hD hS => ?_)
  refine lv_aload_n hx hb dX11_init_27 rfl (lv_at hl 0 rfl) ?_
  refine lv_iconst hx hb dX11_init_28 kI_2 ?_
  refine e_npI (ci := 11) (C := RX11) (T := TX11) (N := 69) (ty0 := tyX11) (n := 2) (N' := 2) hC hin hP hD hS hA m58 rfl inlX11 tyX11_ok nmX11 11 (by decide) rfl rfl (by decide +kernel) (Nat.le_of_ble_eq_true rfl) m256 (by decide) (by decide) (by decide) (Nat.le_of_ble_eq_true rfl) (Nat.le_of_ble_eq_true rfl) dX11_init_29 dX11_init_31 (fun q312 H locs hP hD hS => ?_)
  refine lv_aload_n hx hb dX11_init_34 rfl (lv_at hl 0 rfl) ?_
  refine lv_iconst hx hb dX11_init_35 kI_2 ?_
  refine e_npI (ci := 11) (C := RX11) (T := TX11) (N := 69) (ty0 := tyX11) (n := 2) (N' := 2) hC hin hP hD hS hA m58 rfl inlX11 tyX11_ok nmX11 12 (by decide) rfl rfl (by decide +kernel) (Nat.le_of_ble_eq_true rfl) m257 (by decide) (by decide) (by decide) (Nat.le_of_ble_eq_true rfl) (Nat.le_of_ble_eq_true rfl) dX11_init_36 dX11_init_38 (fun q313 H locs hP hD hS => ?_)
  refine lv_aload_n hx hb dX11_init_41 rfl (lv_at hl 0 rfl) ?_
  refine lv_iconst hx hb dX11_init_42 kI_2 ?_
  refine e_npI (ci := 11) (C := RX11) (T := TX11) (N := 69) (ty0 := tyX11) (n := 2) (N' := 2) hC hin hP hD hS hA m58 rfl inlX11 tyX11_ok nmX11 13 (by decide) rfl rfl (by decide +kernel) (Nat.le_of_ble_eq_true rfl) m258 (by decide) (by decide) (by decide) (Nat.le_of_ble_eq_true rfl) (Nat.le_of_ble_eq_true rfl) dX11_init_43 dX11_init_45 (fun q314 H locs hP hD hS => ?_)
  refine lv_aload_n hx hb dX11_init_48 rfl (lv_at hl 0 rfl) ?_
  refine lv_iconst hx hb dX11_init_49 kI_2 ?_
  refine e_npI (ci := 11) (C := RX11) (T := TX11) (N := 69) (ty0 := tyX11) (n := 2) (N' := 2) hC hin hP hD hS hA m58 rfl inlX11 tyX11_ok nmX11 14 (by decide) rfl rfl (by decide +kernel) (Nat.le_of_ble_eq_true rfl) m259 (by decide) (by decide) (by decide) (Nat.le_of_ble_eq_true rfl) (Nat.le_of_ble_eq_true rfl) dX11_init_50 dX11_init_52 (fun q315 H locs hP hD hS => ?_)
  refine lv_aload_n hx hb dX11_init_55 rfl (lv_at hl 0 rfl) ?_
  refine lv_iconst hx hb dX11_init_56 kI_2 ?_
  refine e_npI (ci := 11) (C := RX11) (T := TX11) (N := 69) (ty0 := tyX11) (n := 2) (N' := 2) hC hin hP hD hS hA m58 rfl inlX11 tyX11_ok nmX11 15 (by decide) rfl rfl (by decide +kernel) (Nat.le_of_ble_eq_true rfl) m260 (by decide) (by decide) (by decide) (Nat.le_of_ble_eq_true rfl) (Nat.le_of_ble_eq_true rfl) dX11_init_57 dX11_init_59 (fun q316 H locs hP hD hS => ?_)
  refine lv_aload_n hx hb dX11_init_62 rfl (lv_at hl 0 rfl) ?_
  refine lv_iconst hx hb dX11_init_63 kI_2 ?_
  refine e_npI (ci := 11) (C := RX11) (T := TX11) (N := 69) (ty0 := tyX11) (n := 2) (N' := 2) hC hin hP hD hS hA m58 rfl inlX11 tyX11_ok nmX11 16 (by decide) rfl rfl (by decide +kernel) (Nat.le_of_ble_eq_true rfl) m261 (by decide) (by decide) (by decide) (Nat.le_of_ble_eq_true rfl) (Nat.le_of_ble_eq_true rfl) dX11_init_64 dX11_init_66 (fun q317 H locs hP hD hS => ?_)
  refine lv_aload_n hx hb dX11_init_69 rfl (lv_at hl 0 rfl) ?_
  refine lv_iconst hx hb dX11_init_70 kI_2 ?_
  refine e_npI (ci := 11) (C := RX11) (T := TX11) (N := 69) (ty0 := tyX11) (n := 2) (N' := 2) hC hin hP hD hS hA m58 rfl inlX11 tyX11_ok nmX11 17 (by decide) rfl rfl (by decide +kernel) (Nat.le_of_ble_eq_true rfl) m262 (by decide) (by decide) (by decide) (Nat.le_of_ble_eq_true rfl) (Nat.le_of_ble_eq_true rfl) dX11_init_71 dX11_init_73 (fun q318 H locs hP hD hS => ?_)
  refine lv_aload_n hx hb dX11_init_76 rfl (lv_at hl 0 rfl) ?_
  refine lv_bipush hx hb dX11_init_77 kB_16 ?_
  refine e_npI (ci := 11) (C := RX11) (T := TX11) (N := 69) (ty0 := tyX11) (n := 16) (N' := 16) hC hin hP hD hS hA m58 rfl inlX11 tyX11_ok nmX11 18 (by decide) rfl rfl (by decide +kernel) (Nat.le_of_ble_eq_true rfl) m263 (by decide) (by decide) (by decide) (Nat.le_of_ble_eq_true rfl) (Nat.le_of_ble_eq_true rfl) dX11_init_79 dX11_init_81 (fun q319 H locs hP hD hS => ?_)
  refine lv_aload_n hx hb dX11_init_84 rfl (lv_at hl 0 rfl) ?_
  refine lv_bipush hx hb dX11_init_85 kB_16 ?_
  refine e_npI (ci := 11) (C := RX11) (T := TX11) (N := 69) (ty0 := tyX11) (n := 16) (N' := 16) hC hin hP hD hS hA m58 rfl inlX11 tyX11_ok nmX11 19 (by decide) rfl rfl (by decide +kernel) (Nat.le_of_ble_eq_true rfl) m264 (by decide) (by decide) (by decide) (Nat.le_of_ble_eq_true rfl) (Nat.le_of_ble_eq_true rfl) dX11_init_87 dX11_init_89 (fun q320 H locs hP hD hS => ?_)
  refine lv_aload_n hx hb dX11_init_92 rfl (lv_at hl 0 rfl) ?_
  refine lv_iconst hx hb dX11_init_93 kI_2 ?_
  refine e_npZ (ci := 11) (C := RX11) (T := TX11) (N := 69) (ty0 := tyX11) (n := 2) (N' := 2) hC hin hP hD hS hA m56 rfl inlX11 tyX11_ok nmX11 20 (by decide) rfl rfl (by decide +kernel) (Nat.le_of_ble_eq_true rfl) m265 (by decide) (by decide) (by decide) (Nat.le_of_ble_eq_true rfl) (Nat.le_of_ble_eq_true rfl) dX11_init_94 dX11_init_96 (fun q321 H locs hP hD hS => ?_)
  refine lv_aload_n hx hb dX11_init_99 rfl (lv_at hl 0 rfl) ?_
  refine lv_iconst hx hb dX11_init_100 kI_2 ?_
  refine e_npZ (ci := 11) (C := RX11) (T := TX11) (N := 69) (ty0 := tyX11) (n := 2) (N' := 2) hC hin hP hD hS hA m56 rfl inlX11 tyX11_ok nmX11 21 (by decide) rfl rfl (by decide +kernel) (Nat.le_of_ble_eq_true rfl) m266 (by decide) (by decide) (by decide) (Nat.le_of_ble_eq_true rfl) (Nat.le_of_ble_eq_true rfl) dX11_init_101 dX11_init_103 (fun q322 H locs hP hD hS => ?_)
  refine lv_aload_n hx hb dX11_init_106 rfl (lv_at hl 0 rfl) ?_
  refine lv_iconst hx hb dX11_init_107 kI_2 ?_
  refine e_npZ (ci := 11) (C := RX11) (T := TX11) (N := 69) (ty0 := tyX11) (n := 2) (N' := 2) hC hin hP hD hS hA m56 rfl inlX11 tyX11_ok nmX11 22 (by decide) rfl rfl (by decide +kernel) (Nat.le_of_ble_eq_true rfl) m267 (by decide) (by decide) (by decide) (Nat.le_of_ble_eq_true rfl) (Nat.le_of_ble_eq_true rfl) dX11_init_108 dX11_init_110 (fun q323 H locs hP hD hS => ?_)
  refine lv_aload_n hx hb dX11_init_113 rfl (lv_at hl 0 rfl) ?_
  refine lv_bipush hx hb dX11_init_114 kB_8 ?_
  refine e_npJ (ci := 11) (C := RX11) (T := TX11) (N := 69) (ty0 := tyX11) (n := 8) (N' := 8) hC hin hP hD hS hA m67 rfl inlX11 tyX11_ok nmX11 23 (by decide) rfl rfl (by decide +kernel) (Nat.le_of_ble_eq_true rfl) m268 (by decide) (by decide) (by decide) (Nat.le_of_ble_eq_true rfl) (Nat.le_of_ble_eq_true rfl) dX11_init_116 dX11_init_118 (fun q324 H locs hP hD hS => ?_)
  refine lv_aload_n hx hb dX11_init_121 rfl (lv_at hl 0 rfl) ?_
  refine lv_sipush hx hb dX11_init_122 kS_1120 ?_
  refine e_npI (ci := 11) (C := RX11) (T := TX11) (N := 69) (ty0 := tyX11) (n := 1120) (N' := 1120) hC hin hP hD hS hA m58 rfl inlX11 tyX11_ok nmX11 24 (by decide) rfl rfl (by decide +kernel) (Nat.le_of_ble_eq_true rfl) m269 (by decide) (by decide) (by decide) (Nat.le_of_ble_eq_true rfl) (Nat.le_of_ble_eq_true rfl) dX11_init_125 dX11_init_127 (fun q325 H locs hP hD hS => ?_)
  refine lv_aload_n hx hb dX11_init_130 rfl (lv_at hl 0 rfl) ?_
  refine lv_sipush hx hb dX11_init_131 kS_1120 ?_
  refine e_npI (ci := 11) (C := RX11) (T := TX11) (N := 69) (ty0 := tyX11) (n := 1120) (N' := 1120) hC hin hP hD hS hA m58 rfl inlX11 tyX11_ok nmX11 25 (by decide) rfl rfl (by decide +kernel) (Nat.le_of_ble_eq_true rfl) m270 (by decide) (by decide) (by decide) (Nat.le_of_ble_eq_true rfl) (Nat.le_of_ble_eq_true rfl) dX11_init_134 dX11_init_136 (fun q326 H locs hP hD hS => ?_)
  refine lv_aload_n hx hb dX11_init_139 rfl (lv_at hl 0 rfl) ?_
  refine lv_bipush hx hb dX11_init_140 kB_90 ?_
  refine e_npI (ci := 11) (C := RX11) (T := TX11) (N := 69) (ty0 := tyX11) (n := 90) (N' := 90) hC hin hP hD hS hA m58 rfl inlX11 tyX11_ok nmX11 26 (by decide) rfl rfl (by decide +kernel) (Nat.le_of_ble_eq_true rfl) m271 (by decide) (by decide) (by decide) (Nat.le_of_ble_eq_true rfl) (Nat.le_of_ble_eq_true rfl) dX11_init_142 dX11_init_144 (fun q327 H locs hP hD hS => ?_)
  refine lv_aload_n hx hb dX11_init_147 rfl (lv_at hl 0 rfl) ?_
  refine lv_bipush hx hb dX11_init_148 kB_90 ?_
  refine e_npI (ci := 11) (C := RX11) (T := TX11) (N := 69) (ty0 := tyX11) (n := 90) (N' := 90) hC hin hP hD hS hA m58 rfl inlX11 tyX11_ok nmX11 27 (by decide) rfl rfl (by decide +kernel) (Nat.le_of_ble_eq_true rfl) m272 (by decide) (by decide) (by decide) (Nat.le_of_ble_eq_true rfl) (Nat.le_of_ble_eq_true rfl) dX11_init_150 dX11_init_152 (fun q328 H locs hP hD hS => ?_)
  refine lv_aload_n hx hb dX11_init_155 rfl (lv_at hl 0 rfl) ?_
  refine lv_bipush hx hb dX11_init_156 kB_60 ?_
  refine e_npI (ci := 11) (C := RX11) (T := TX11) (N := 69) (ty0 := tyX11) (n := 60) (N' := 60) hC hin hP hD hS hA m58 rfl inlX11 tyX11_ok nmX11 28 (by decide) rfl rfl (by decide +kernel) (Nat.le_of_ble_eq_true rfl) m273 (by decide) (by decide) (by decide) (Nat.le_of_ble_eq_true rfl) (Nat.le_of_ble_eq_true rfl) dX11_init_158 dX11_init_160 (fun q329 H locs hP hD hS => ?_)
  refine lv_aload_n hx hb dX11_init_163 rfl (lv_at hl 0 rfl) ?_
  refine lv_sipush hx hb dX11_init_164 kS_221 ?_
  refine e_npI (ci := 11) (C := RX11) (T := TX11) (N := 69) (ty0 := tyX11) (n := 221) (N' := 221) hC hin hP hD hS hA m58 rfl inlX11 tyX11_ok nmX11 40 (by decide) rfl rfl (by decide +kernel) (Nat.le_of_ble_eq_true rfl) m274 (by decide) (by decide) (by decide) (Nat.le_of_ble_eq_true rfl) (Nat.le_of_ble_eq_true rfl) dX11_init_167 dX11_init_169 (fun q341 H locs hP hD hS => ?_)
  refine lv_aload_n hx hb dX11_init_172 rfl (lv_at hl 0 rfl) ?_
  refine lv_sipush hx hb dX11_init_173 kS_9061 ?_
  refine e_npI (ci := 11) (C := RX11) (T := TX11) (N := 69) (ty0 := tyX11) (n := 9061) (N' := 9061) hC hin hP hD hS hA m58 rfl inlX11 tyX11_ok nmX11 41 (by decide) rfl rfl (by decide +kernel) (Nat.le_of_ble_eq_true rfl) m275 (by decide) (by decide) (by decide) (Nat.le_of_ble_eq_true rfl) (Nat.le_of_ble_eq_true rfl) dX11_init_176 dX11_init_178 (fun q342 H locs hP hD hS => ?_)
  refine lv_aload_n hx hb dX11_init_181 rfl (lv_at hl 0 rfl) ?_
  refine lv_bipush hx hb dX11_init_182 kB_100 ?_
  refine e_npI (ci := 11) (C := RX11) (T := TX11) (N := 69) (ty0 := tyX11) (n := 100) (N' := 100) hC hin hP hD hS hA m58 rfl inlX11 tyX11_ok nmX11 44 (by decide) rfl rfl (by decide +kernel) (Nat.le_of_ble_eq_true rfl) m276 (by decide) (by decide) (by decide) (Nat.le_of_ble_eq_true rfl) (Nat.le_of_ble_eq_true rfl) dX11_init_184 dX11_init_186 (fun q345 H locs hP hD hS => ?_)
  refine lv_aload_n hx hb dX11_init_189 rfl (lv_at hl 0 rfl) ?_
  refine lv_iconst hx hb dX11_init_190 kI_4 ?_
  refine e_npI (ci := 11) (C := RX11) (T := TX11) (N := 69) (ty0 := tyX11) (n := 4) (N' := 4) hC hin hP hD hS hA m58 rfl inlX11 tyX11_ok nmX11 45 (by decide) rfl rfl (by decide +kernel) (Nat.le_of_ble_eq_true rfl) m277 (by decide) (by decide) (by decide) (Nat.le_of_ble_eq_true rfl) (Nat.le_of_ble_eq_true rfl) dX11_init_191 dX11_init_193 (fun q346 H locs hP hD hS => ?_)
  refine lv_aload_n hx hb dX11_init_196 rfl (lv_at hl 0 rfl) ?_
  refine lv_iconst hx hb dX11_init_197 kI_4 ?_
  refine e_npI (ci := 11) (C := RX11) (T := TX11) (N := 69) (ty0 := tyX11) (n := 4) (N' := 4) hC hin hP hD hS hA m58 rfl inlX11 tyX11_ok nmX11 46 (by decide) rfl rfl (by decide +kernel) (Nat.le_of_ble_eq_true rfl) m278 (by decide) (by decide) (by decide) (Nat.le_of_ble_eq_true rfl) (Nat.le_of_ble_eq_true rfl) dX11_init_198 dX11_init_200 (fun q347 H locs hP hD hS => ?_)
  refine lv_aload_n hx hb dX11_init_203 rfl (lv_at hl 0 rfl) ?_
  refine lv_bipush hx hb dX11_init_204 kB_12 ?_
  refine e_npI (ci := 11) (C := RX11) (T := TX11) (N := 69) (ty0 := tyX11) (n := 12) (N' := 12) hC hin hP hD hS hA m58 rfl inlX11 tyX11_ok nmX11 47 (by decide) rfl rfl (by decide +kernel) (Nat.le_of_ble_eq_true rfl) m279 (by decide) (by decide) (by decide) (Nat.le_of_ble_eq_true rfl) (Nat.le_of_ble_eq_true rfl) dX11_init_206 dX11_init_208 (fun q348 H locs hP hD hS => ?_)
  refine lv_aload_n hx hb dX11_init_211 rfl (lv_at hl 0 rfl) ?_
  refine lv_sipush hx hb dX11_init_212 kS_4096 ?_
  refine e_npI (ci := 11) (C := RX11) (T := TX11) (N := 69) (ty0 := tyX11) (n := 4096) (N' := 4096) hC hin hP hD hS hA m58 rfl inlX11 tyX11_ok nmX11 49 (by decide) rfl rfl (by decide +kernel) (Nat.le_of_ble_eq_true rfl) m280 (by decide) (by decide) (by decide) (Nat.le_of_ble_eq_true rfl) (Nat.le_of_ble_eq_true rfl) dX11_init_215 dX11_init_217 (fun q350 H locs hP hD hS => ?_)
  refine lv_aload_n hx hb dX11_init_220 rfl (lv_at hl 0 rfl) ?_
  refine lv_sipush hx hb dX11_init_221 kS_20480 ?_
  refine e_npI (ci := 11) (C := RX11) (T := TX11) (N := 69) (ty0 := tyX11) (n := 20480) (N' := 20480) hC hin hP hD hS hA m58 rfl inlX11 tyX11_ok nmX11 50 (by decide) rfl rfl (by decide +kernel) (Nat.le_of_ble_eq_true rfl) m281 (by decide) (by decide) (by decide) (Nat.le_of_ble_eq_true rfl) (Nat.le_of_ble_eq_true rfl) dX11_init_224 dX11_init_226 (fun q351 H locs hP hD hS => ?_)
  refine lv_aload_n hx hb dX11_init_229 rfl (lv_at hl 0 rfl) ?_
  refine lv_ldc hx hb hC.2.2.2.1 (hC.2.2.2.2.1 _ m282) dX11_init_230 ?_
  refine e_npI (ci := 11) (C := RX11) (T := TX11) (N := 69) (ty0 := tyX11) (n := 65536) (N' := 65536) hC hin hP hD hS hA m58 rfl inlX11 tyX11_ok nmX11 51 (by decide) rfl rfl (by decide +kernel) (Nat.le_of_ble_eq_true rfl) m283 (by decide) (by decide) (by decide) (Nat.le_of_ble_eq_true rfl) (Nat.le_of_ble_eq_true rfl) dX11_init_232 dX11_init_234 (fun q352 H locs hP hD hS => ?_)
  refine lv_aload_n hx hb dX11_init_237 rfl (lv_at hl 0 rfl) ?_
  refine lv_bipush hx hb dX11_init_238 kB_40 ?_
  refine e_npI (ci := 11) (C := RX11) (T := TX11) (N := 69) (ty0 := tyX11) (n := 40) (N' := 40) hC hin hP hD hS hA m58 rfl inlX11 tyX11_ok nmX11 52 (by decide) rfl rfl (by decide +kernel) (Nat.le_of_ble_eq_true rfl) m284 (by decide) (by decide) (by decide) (Nat.le_of_ble_eq_true rfl) (Nat.le_of_ble_eq_true rfl) dX11_init_240 dX11_init_242 (fun q353 H locs hP hD hS => ?_)
  refine lv_aload_n hx hb dX11_init_245 rfl (lv_at hl 0 rfl) ?_
  refine lv_bipush hx hb dX11_init_246 kB_40 ?_
  refine e_npI (ci := 11) (C := RX11) (T := TX11) (N := 69) (ty0 := tyX11) (n := 40) (N' := 40) hC hin hP hD hS hA m58 rfl inlX11 tyX11_ok nmX11 53 (by decide) rfl rfl (by decide +kernel) (Nat.le_of_ble_eq_true rfl) m285 (by decide) (by decide) (by decide) (Nat.le_of_ble_eq_true rfl) (Nat.le_of_ble_eq_true rfl) dX11_init_248 dX11_init_250 (fun q354 H locs hP hD hS => ?_)
  refine lv_aload_n hx hb dX11_init_253 rfl (lv_at hl 0 rfl) ?_
  refine lv_bipush hx hb dX11_init_254 kB_40 ?_
  refine e_npI (ci := 11) (C := RX11) (T := TX11) (N := 69) (ty0 := tyX11) (n := 40) (N' := 40) hC hin hP hD hS hA m58 rfl inlX11 tyX11_ok nmX11 54 (by decide) rfl rfl (by decide +kernel) (Nat.le_of_ble_eq_true rfl) m286 (by decide) (by decide) (by decide) (Nat.le_of_ble_eq_true rfl) (Nat.le_of_ble_eq_true rfl) dX11_init_256 dX11_init_258 (fun q355 H locs hP hD hS => ?_)
  refine lv_aload_n hx hb dX11_init_261 rfl (lv_at hl 0 rfl) ?_
  refine lv_bipush hx hb dX11_init_262 kB_40 ?_
  refine e_npI (ci := 11) (C := RX11) (T := TX11) (N := 69) (ty0 := tyX11) (n := 40) (N' := 40) hC hin hP hD hS hA m58 rfl inlX11 tyX11_ok nmX11 55 (by decide) rfl rfl (by decide +kernel) (Nat.le_of_ble_eq_true rfl) m287 (by decide) (by decide) (by decide) (Nat.le_of_ble_eq_true rfl) (Nat.le_of_ble_eq_true rfl) dX11_init_264 dX11_init_266 (fun q356 H locs hP hD hS => ?_)
  refine lv_aload_n hx hb dX11_init_269 rfl (lv_at hl 0 rfl) ?_
  refine lv_bipush hx hb dX11_init_270 kB_40 ?_
  refine e_npI (ci := 11) (C := RX11) (T := TX11) (N := 69) (ty0 := tyX11) (n := 40) (N' := 40) hC hin hP hD hS hA m58 rfl inlX11 tyX11_ok nmX11 56 (by decide) rfl rfl (by decide +kernel) (Nat.le_of_ble_eq_true rfl) m288 (by decide) (by decide) (by decide) (Nat.le_of_ble_eq_true rfl) (Nat.le_of_ble_eq_true rfl) dX11_init_272 dX11_init_274 (fun q357 H locs hP hD hS => ?_)
  refine lv_aload_n hx hb dX11_init_277 rfl (lv_at hl 0 rfl) ?_
  refine lv_bipush hx hb dX11_init_278 kB_40 ?_
  refine e_npI (ci := 11) (C := RX11) (T := TX11) (N := 69) (ty0 := tyX11) (n := 40) (N' := 40) hC hin hP hD hS hA m58 rfl inlX11 tyX11_ok nmX11 57 (by decide) rfl rfl (by decide +kernel) (Nat.le_of_ble_eq_true rfl) m289 (by decide) (by decide) (by decide) (Nat.le_of_ble_eq_true rfl) (Nat.le_of_ble_eq_true rfl) dX11_init_280 dX11_init_282 (fun q358 H locs hP hD hS => ?_)
  refine lv_aload_n hx hb dX11_init_285 rfl (lv_at hl 0 rfl) ?_
  refine lv_bipush hx hb dX11_init_286 kB_7 ?_
  refine e_npI (ci := 11) (C := RX11) (T := TX11) (N := 69) (ty0 := tyX11) (n := 7) (N' := 7) hC hin hP hD hS hA m58 rfl inlX11 tyX11_ok nmX11 60 (by decide) rfl rfl (by decide +kernel) (Nat.le_of_ble_eq_true rfl) m290 (by decide) (by decide) (by decide) (Nat.le_of_ble_eq_true rfl) (Nat.le_of_ble_eq_true rfl) dX11_init_288 dX11_init_290 (fun q361 H locs hP hD hS => ?_)
  refine lv_aload_n hx hb dX11_init_293 rfl (lv_at hl 0 rfl) ?_
  refine lv_bipush hx hb dX11_init_294 kB_7 ?_
  refine e_npI (ci := 11) (C := RX11) (T := TX11) (N := 69) (ty0 := tyX11) (n := 7) (N' := 7) hC hin hP hD hS hA m58 rfl inlX11 tyX11_ok nmX11 61 (by decide) rfl rfl (by decide +kernel) (Nat.le_of_ble_eq_true rfl) m291 (by decide) (by decide) (by decide) (Nat.le_of_ble_eq_true rfl) (Nat.le_of_ble_eq_true rfl) dX11_init_296 dX11_init_298 (fun q362 H locs hP hD hS => ?_)
  refine lv_aload_n hx hb dX11_init_301 rfl (lv_at hl 0 rfl) ?_
  refine lv_bipush hx hb dX11_init_302 kB_49 ?_
  refine e_npI (ci := 11) (C := RX11) (T := TX11) (N := 69) (ty0 := tyX11) (n := 49) (N' := 49) hC hin hP hD hS hA m58 rfl inlX11 tyX11_ok nmX11 62 (by decide) rfl rfl (by decide +kernel) (Nat.le_of_ble_eq_true rfl) m292 (by decide) (by decide) (by decide) (Nat.le_of_ble_eq_true rfl) (Nat.le_of_ble_eq_true rfl) dX11_init_304 dX11_init_306 (fun q363 H locs hP hD hS => ?_)
  refine lv_aload_n hx hb dX11_init_309 rfl (lv_at hl 0 rfl) ?_
  refine lv_bipush hx hb dX11_init_310 kB_7 ?_
  refine e_npI (ci := 11) (C := RX11) (T := TX11) (N := 69) (ty0 := tyX11) (n := 7) (N' := 7) hC hin hP hD hS hA m58 rfl inlX11 tyX11_ok nmX11 64 (by decide) rfl rfl (by decide +kernel) (Nat.le_of_ble_eq_true rfl) m293 (by decide) (by decide) (by decide) (Nat.le_of_ble_eq_true rfl) (Nat.le_of_ble_eq_true rfl) dX11_init_312 dX11_init_314 (fun q365 H locs hP hD hS => ?_)
  refine lv_aload_n hx hb dX11_init_317 rfl (lv_at hl 0 rfl) ?_
  refine lv_bipush hx hb dX11_init_318 kB_8 ?_
  refine e_npI (ci := 11) (C := RX11) (T := TX11) (N := 69) (ty0 := tyX11) (n := 8) (N' := 8) hC hin hP hD hS hA m58 rfl inlX11 tyX11_ok nmX11 65 (by decide) rfl rfl (by decide +kernel) (Nat.le_of_ble_eq_true rfl) m294 (by decide) (by decide) (by decide) (Nat.le_of_ble_eq_true rfl) (Nat.le_of_ble_eq_true rfl) dX11_init_320 dX11_init_322 (fun q366 H locs hP hD hS => ?_)
  refine lv_aload_n hx hb dX11_init_325 rfl (lv_at hl 0 rfl) ?_
  refine lv_bipush hx hb dX11_init_326 kB_8 ?_
  refine e_npI (ci := 11) (C := RX11) (T := TX11) (N := 69) (ty0 := tyX11) (n := 8) (N' := 8) hC hin hP hD hS hA m58 rfl inlX11 tyX11_ok nmX11 66 (by decide) rfl rfl (by decide +kernel) (Nat.le_of_ble_eq_true rfl) m295 (by decide) (by decide) (by decide) (Nat.le_of_ble_eq_true rfl) (Nat.le_of_ble_eq_true rfl) dX11_init_328 dX11_init_330 (fun q367 H locs hP hD hS => ?_)
  refine lv_aload_n hx hb dX11_init_333 rfl (lv_at hl 0 rfl) ?_
  refine lv_sipush hx hb dX11_init_334 kS_663 ?_
  refine e_npI (ci := 11) (C := RX11) (T := TX11) (N := 69) (ty0 := tyX11) (n := 663) (N' := 663) hC hin hP hD hS hA m58 rfl inlX11 tyX11_ok nmX11 67 (by decide) rfl rfl (by decide +kernel) (Nat.le_of_ble_eq_true rfl) m296 (by decide) (by decide) (by decide) (Nat.le_of_ble_eq_true rfl) (Nat.le_of_ble_eq_true rfl) dX11_init_337 dX11_init_339 (fun q368 H locs hP hD hS => ?_)
  refine lv_aload_n hx hb dX11_init_342 rfl (lv_at hl 0 rfl) ?_
  refine lv_iconst hx hb dX11_init_343 kI_3 ?_
  refine e_npZ (ci := 11) (C := RX11) (T := TX11) (N := 69) (ty0 := tyX11) (n := 3) (N' := 3) hC hin hP hD hS hA m56 rfl inlX11 tyX11_ok nmX11 68 (by decide) rfl rfl (by decide +kernel) (Nat.le_of_ble_eq_true rfl) m297 (by decide) (by decide) (by decide) (Nat.le_of_ble_eq_true rfl) (Nat.le_of_ble_eq_true rfl) dX11_init_344 dX11_init_346 (fun q369 H locs hP hD hS => ?_)
  refine lv_aload_n hx hb dX11_init_349 rfl (lv_at hl 0 rfl) ?_
  obtain ⟨ad, had⟩ : ∃ ad : Nat → Nat, ad = lk [(300, h0), (301, q301), (302, q302), (312, q312), (313, q313), (314, q314), (315, q315), (316, q316), (317, q317), (318, q318), (319, q319), (320, q320), (321, q321), (322, q322), (323, q323), (324, q324), (325, q325), (326, q326), (327, q327), (328, q328), (329, q329), (341, q341), (342, q342), (345, q345), (346, q346), (347, q347), (348, q348), (350, q350), (351, q351), (352, q352), (353, q353), (354, q354), (355, q355), (356, q356), (357, q357), (358, q358), (361, q361), (362, q362), (363, q363), (365, q365), (366, q366), (367, q367), (368, q368), (369, q369)] := ⟨_, rfl⟩
  have hC : Cx p s m args c cX11_init RX11 1 (g.1, g.2.1, ad) := hC
  have hSt : St tabM A s.heap (g.1, g.2.1, ad) w0M H locs := by
    rw [had]
    exact ⟨hP, hD, hS, hA, tabM_nd⟩
  have h300 : ad 300 = h0 := by rw [had]; rfl
  have hp := clearBank_fresh
  subst h300
  refine q_cvV (As := []) (rest := []) hC hSt hl.1 (rX11_clearBank hp) cwX11_147 yvX11_clearBank (rcv (ci := 11) hC hSt tb_300 rfl) rfl rfl (Nat.le_of_ble_eq_true rfl) ⟨⟨(Nat.le_of_ble_eq_true rfl), (Nat.le_of_ble_eq_true rfl)⟩, (Nat.le_of_ble_eq_true rfl), (Nat.le_of_ble_eq_true rfl)⟩ dX11_init_350 (fun w H locs hp hSt => ?_)
  refine lv_aload_n hx hb dX11_init_353 rfl (lv_at hl 0 rfl) ?_
  refine q_cvV (As := []) (rest := []) hC hSt hl.1 (rX11_startAnew hp) cwX11_150 yvX11_startAnew (rcv (ci := 11) hC hSt tb_300 rfl) rfl rfl (Nat.le_of_ble_eq_true rfl) ⟨⟨(Nat.le_of_ble_eq_true rfl), (Nat.le_of_ble_eq_true rfl)⟩, (Nat.le_of_ble_eq_true rfl), (Nat.le_of_ble_eq_true rfl)⟩ dX11_init_354 (fun w H locs hp hSt => ?_)
  exact hRt (ad, w) _ _ _ _ dX11_init_357 ⟨rfl, hp⟩ hSt.1 hSt.2.1 hSt.2.2.1
