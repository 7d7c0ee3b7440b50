set_option maxHeartbeats 4000000 in
set_option maxRecDepth 100000 in
theorem case4_nearest {p : Program} {l : Launch} {e : Env} {s : State} {m : MethodId} {below : List Frame} {meth : Method} {c : Code} {H : Heap} {locs : List Loc} {Q : State → Prop} {ls : Array Slot} {A : Nat → Prop} {g g2 : Gw} {w w2 : Wd} {b L i : Nat} {xs : Nat → Int32} {JX JM : Wd → Prop} (hLC : LC4 p s m c b L xs A g g2) (hi : i + 6 ≤ L) (hP : va_P g.1 vwCl (wsW tabX g w ++ wsW tabM g2 w2) H) (hD : va_D A (wsW tabX g w ++ wsW tabM g2 w2)) (hS : va_S A s.heap H locs) (hl : lv_has ls 4 (lvL4 b i g g2)) (hpx : pX10_nearest (fun _ w1 => JX w1) (xs (i + 1)) (xs (i + 2)) w) (hpm : pX11_nearest (fun _ w1 => JM w1) (xs (i + 1)) (xs (i + 2)) w2) (hend : ∀ (w1 w3 : Wd) (H : Heap) (locs : List Loc), JX w1 → JM w3 → va_P g.1 vwCl (wsW tabX g w1 ++ wsW tabM g2 w3) H → va_D A (wsW tabX g w1 ++ wsW tabM g2 w3) → va_S A s.heap H locs → W p l e room_1 s m #[.ref b] below meth c H locs 134 142488 Q (F0 m 2075 ls [])) : W p l e room_1 s m #[.ref b] below meth c H locs 134 142488 Q (F0 m 1196 ls []) := by
  obtain ⟨hC, hC2, hgg, hXs, hbl, hbA, hA, hL⟩ := hLC
  have hx := hC.1
  have hb := hC.2.1
  refine lv_aload_n hx hb dL_law_1196 rfl (lv_at hl 1 rfl) ?_
  refine law4_arg (k0 := 0) (k3 := 3) (i := i) (j := 1) hx hb hXs hbl hbA hS hL hl rfl rfl (by omega) (by decide) dL_law_1197 dL_law_1198 dL_law_1199 dL_law_1200 dL_law_1201 ?_
  refine law4_arg (k0 := 0) (k3 := 3) (i := i) (j := 2) hx hb hXs hbl hbA hS hL hl rfl rfl (by omega) (by decide) dL_law_1202 dL_law_1203 dL_law_1204 dL_law_1205 dL_law_1206 ?_
  refine law_cv (As := [.int (xs (i + 1)), .int (xs (i + 2))]) (rest := []) hC hP hD hS hA hl.1 (rX10_nearest hpx) cwL_126 yvX10_nearest (va_recv (ci := 10) (q0 := 0) hC.2.2.2.2.2.1 (law_left hP) rfl (wk_at tb_0)) rfl rfl (Nat.le_of_ble_eq_true rfl) (rmL4 (by decide) (by decide)) dL_law_1207 (fun r1 w1 H locs h1 hP hD hS => ?_)
  refine lv_pop hx hb dL_law_1210 rfl ?_
  refine lv_aload_n hx hb dL_law_1211 rfl (lv_at hl 2 rfl) ?_
  refine law4_arg (k0 := 0) (k3 := 3) (i := i) (j := 1) hx hb hXs hbl hbA hS hL hl rfl rfl (by omega) (by decide) dL_law_1212 dL_law_1213 dL_law_1214 dL_law_1215 dL_law_1216 ?_
  refine law4_arg (k0 := 0) (k3 := 3) (i := i) (j := 2) hx hb hXs hbl hbA hS hL hl rfl rfl (by omega) (by decide) dL_law_1217 dL_law_1218 dL_law_1219 dL_law_1220 dL_law_1221 ?_
  have hP := e_swapP hP
  have hD := e_swapD hD
  rw [← hgg] at hP
  refine law_cv (As := [.int (xs (i + 1)), .int (xs (i + 2))]) (rest := []) hC2 hP hD hS hA hl.1 (rX11_nearest hpm) cwL_129 yvX11_nearest (va_recv (ci := 11) (q0 := 0) hC2.2.2.2.2.2.1 (law_left hP) rfl (wk_at tb_300)) rfl rfl (Nat.le_of_ble_eq_true rfl) (rmL4 (by decide) (by decide)) dL_law_1222 (fun r2 w3 H locs h2 hP hD hS => ?_)
  have hP := e_swapP hP
  have hD := e_swapD hD
  rw [hgg] at hP
  refine lv_pop hx hb dL_law_1225 rfl ?_
  refine lv_goto (tgt := 2075) hx hb dL_law_1226 (by decide) ?_
  exact hend w1 w3 H locs h1 h2 hP hD hS
set_option maxHeartbeats 4000000 in
set_option maxRecDepth 100000 in
theorem case4_common {p : Program} {l : Launch} {e : Env} {s : State} {m : MethodId} {below : List Frame} {meth : Method} {c : Code} {H : Heap} {locs : List Loc} {Q : State → Prop} {ls : Array Slot} {A : Nat → Prop} {g g2 : Gw} {w w2 : Wd} {b L i : Nat} {xs : Nat → Int32} {JX JM : Wd → Prop} (hLC : LC4 p s m c b L xs A g g2) (hi : i + 6 ≤ L) (hP : va_P g.1 vwCl (wsW tabX g w ++ wsW tabM g2 w2) H) (hD : va_D A (wsW tabX g w ++ wsW tabM g2 w2)) (hS : va_S A s.heap H locs) (hl : lv_has ls 4 (lvL4 b i g g2)) (hpx : pX10_common (fun _ w1 => JX w1) (xs (i + 1)) w) (hpm : pX11_common (fun _ w1 => JM w1) (xs (i + 1)) w2) (hend : ∀ (w1 w3 : Wd) (H : Heap) (locs : List Loc), JX w1 → JM w3 → va_P g.1 vwCl (wsW tabX g w1 ++ wsW tabM g2 w3) H → va_D A (wsW tabX g w1 ++ wsW tabM g2 w3) → va_S A s.heap H locs → W p l e room_1 s m #[.ref b] below meth c H locs 134 142488 Q (F0 m 2075 ls [])) : W p l e room_1 s m #[.ref b] below meth c H locs 134 142488 Q (F0 m 1229 ls []) := by
  obtain ⟨hC, hC2, hgg, hXs, hbl, hbA, hA, hL⟩ := hLC
  have hx := hC.1
  have hb := hC.2.1
  refine lv_aload_n hx hb dL_law_1229 rfl (lv_at hl 1 rfl) ?_
  refine law4_arg (k0 := 0) (k3 := 3) (i := i) (j := 1) hx hb hXs hbl hbA hS hL hl rfl rfl (by omega) (by decide) dL_law_1230 dL_law_1231 dL_law_1232 dL_law_1233 dL_law_1234 ?_
  refine law_cv (As := [.int (xs (i + 1))]) (rest := []) hC hP hD hS hA hl.1 (rX10_common hpx) cwL_130 yvX10_common (va_recv (ci := 10) (q0 := 0) hC.2.2.2.2.2.1 (law_left hP) rfl (wk_at tb_0)) rfl rfl (Nat.le_of_ble_eq_true rfl) (rmL4 (by decide) (by decide)) dL_law_1235 (fun r1 w1 H locs h1 hP hD hS => ?_)
  refine lv_pop hx hb dL_law_1238 rfl ?_
  refine lv_aload_n hx hb dL_law_1239 rfl (lv_at hl 2 rfl) ?_
  refine law4_arg (k0 := 0) (k3 := 3) (i := i) (j := 1) hx hb hXs hbl hbA hS hL hl rfl rfl (by omega) (by decide) dL_law_1240 dL_law_1241 dL_law_1242 dL_law_1243 dL_law_1244 ?_
  have hP := e_swapP hP
  have hD := e_swapD hD
  rw [← hgg] at hP
  refine law_cv (As := [.int (xs (i + 1))]) (rest := []) hC2 hP hD hS hA hl.1 (rX11_common hpm) cwL_133 yvX11_common (va_recv (ci := 11) (q0 := 0) hC2.2.2.2.2.2.1 (law_left hP) rfl (wk_at tb_300)) rfl rfl (Nat.le_of_ble_eq_true rfl) (rmL4 (by decide) (by decide)) dL_law_1245 (fun r2 w3 H locs h2 hP hD hS => ?_)
  have hP := e_swapP hP
  have hD := e_swapD hD
  rw [hgg] at hP
  refine lv_pop hx hb dL_law_1248 rfl ?_
  refine lv_goto (tgt := 2075) hx hb dL_law_1249 (by decide) ?_
  exact hend w1 w3 H locs h1 h2 hP hD hS
set_option maxHeartbeats 4000000 in
set_option maxRecDepth 100000 in
theorem case4_alike {p : Program} {l : Launch} {e : Env} {s : State} {m : MethodId} {below : List Frame} {meth : Method} {c : Code} {H : Heap} {locs : List Loc} {Q : State → Prop} {ls : Array Slot} {A : Nat → Prop} {g g2 : Gw} {w w2 : Wd} {b L i : Nat} {xs : Nat → Int32} {JX JM : Wd → Prop} (hLC : LC4 p s m c b L xs A g g2) (hi : i + 6 ≤ L) (hP : va_P g.1 vwCl (wsW tabX g w ++ wsW tabM g2 w2) H) (hD : va_D A (wsW tabX g w ++ wsW tabM g2 w2)) (hS : va_S A s.heap H locs) (hl : lv_has ls 4 (lvL4 b i g g2)) (hpx : pX10_alike (fun _ w1 => JX w1) (xs (i + 1)) (bz (xs (i + 2))) w) (hpm : pX11_alike (fun _ w1 => JM w1) (xs (i + 1)) (bz (xs (i + 2))) w2) (hend : ∀ (w1 w3 : Wd) (H : Heap) (locs : List Loc), JX w1 → JM w3 → va_P g.1 vwCl (wsW tabX g w1 ++ wsW tabM g2 w3) H → va_D A (wsW tabX g w1 ++ wsW tabM g2 w3) → va_S A s.heap H locs → W p l e room_1 s m #[.ref b] below meth c H locs 134 142488 Q (F0 m 2075 ls [])) : W p l e room_1 s m #[.ref b] below meth c H locs 134 142488 Q (F0 m 1252 ls []) := by
  obtain ⟨hC, hC2, hgg, hXs, hbl, hbA, hA, hL⟩ := hLC
  have hx := hC.1
  have hb := hC.2.1
  by_cases hz2 : xs (i + 2) = 0
  · have hb2 : bz (xs (i + 2)) = 0 := if_pos hz2
    rw [hb2] at hpx hpm
    refine lv_aload_n hx hb dL_law_1252 rfl (lv_at hl 1 rfl) ?_
    refine law4_arg (k0 := 0) (k3 := 3) (i := i) (j := 1) hx hb hXs hbl hbA hS hL hl rfl rfl (by omega) (by decide) dL_law_1253 dL_law_1254 dL_law_1255 dL_law_1256 dL_law_1257 ?_
    refine law4_arg (k0 := 0) (k3 := 3) (i := i) (j := 2) hx hb hXs hbl hbA hS hL hl rfl rfl (by omega) (by decide) dL_law_1258 dL_law_1259 dL_law_1260 dL_law_1261 dL_law_1262 ?_
    refine lv_if_eq (tgt := 1270) hx hb dL_law_1263 (by decide) (fun _ => ?_) (fun c_1 => absurd hz2 c_1)
    refine lv_iconst (v := 0) hx hb dL_law_1270 (by decide) ?_
    refine law_cv (As := [.int (xs (i + 1)), .int 0]) (rest := []) hC hP hD hS hA hl.1 (rX10_alike hpx) cwL_134 yvX10_alike (va_recv (ci := 10) (q0 := 0) hC.2.2.2.2.2.1 (law_left hP) rfl (wk_at tb_0)) rfl rfl (Nat.le_of_ble_eq_true rfl) (rmL4 (by decide) (by decide)) dL_law_1271 (fun r1 w1 H locs h1 hP hD hS => ?_)
    refine lv_pop hx hb dL_law_1274 rfl ?_
    refine lv_aload_n hx hb dL_law_1275 rfl (lv_at hl 2 rfl) ?_
    refine law4_arg (k0 := 0) (k3 := 3) (i := i) (j := 1) hx hb hXs hbl hbA hS hL hl rfl rfl (by omega) (by decide) dL_law_1276 dL_law_1277 dL_law_1278 dL_law_1279 dL_law_1280 ?_
    refine law4_arg (k0 := 0) (k3 := 3) (i := i) (j := 2) hx hb hXs hbl hbA hS hL hl rfl rfl (by omega) (by decide) dL_law_1281 dL_law_1282 dL_law_1283 dL_law_1284 dL_law_1285 ?_
    refine lv_if_eq (tgt := 1293) hx hb dL_law_1286 (by decide) (fun _ => ?_) (fun c_1 => absurd hz2 c_1)
    refine lv_iconst (v := 0) hx hb dL_law_1293 (by decide) ?_
    have hP := e_swapP hP
    have hD := e_swapD hD
    rw [← hgg] at hP
    refine law_cv (As := [.int (xs (i + 1)), .int 0]) (rest := []) hC2 hP hD hS hA hl.1 (rX11_alike hpm) cwL_138 yvX11_alike (va_recv (ci := 11) (q0 := 0) hC2.2.2.2.2.2.1 (law_left hP) rfl (wk_at tb_300)) rfl rfl (Nat.le_of_ble_eq_true rfl) (rmL4 (by decide) (by decide)) dL_law_1294 (fun r2 w3 H locs h2 hP hD hS => ?_)
    have hP := e_swapP hP
    have hD := e_swapD hD
    rw [hgg] at hP
    refine lv_pop hx hb dL_law_1297 rfl ?_
    refine lv_goto (tgt := 2075) hx hb dL_law_1298 (by decide) ?_
    exact hend w1 w3 H locs h1 h2 hP hD hS
  · have hb2 : bz (xs (i + 2)) = 1 := if_neg hz2
    rw [hb2] at hpx hpm
    refine lv_aload_n hx hb dL_law_1252 rfl (lv_at hl 1 rfl) ?_
    refine law4_arg (k0 := 0) (k3 := 3) (i := i) (j := 1) hx hb hXs hbl hbA hS hL hl rfl rfl (by omega) (by decide) dL_law_1253 dL_law_1254 dL_law_1255 dL_law_1256 dL_law_1257 ?_
    refine law4_arg (k0 := 0) (k3 := 3) (i := i) (j := 2) hx hb hXs hbl hbA hS hL hl rfl rfl (by omega) (by decide) dL_law_1258 dL_law_1259 dL_law_1260 dL_law_1261 dL_law_1262 ?_
    refine lv_if_eq (tgt := 1270) hx hb dL_law_1263 (by decide) (fun c_1 => absurd c_1 hz2) (fun _ => ?_)
    refine lv_iconst (v := 1) hx hb dL_law_1266 (by decide) ?_
    refine lv_goto (tgt := 1271) hx hb dL_law_1267 (by decide) ?_
    refine law_cv (As := [.int (xs (i + 1)), .int 1]) (rest := []) hC hP hD hS hA hl.1 (rX10_alike hpx) cwL_134 yvX10_alike (va_recv (ci := 10) (q0 := 0) hC.2.2.2.2.2.1 (law_left hP) rfl (wk_at tb_0)) rfl rfl (Nat.le_of_ble_eq_true rfl) (rmL4 (by decide) (by decide)) dL_law_1271 (fun r1 w1 H locs h1 hP hD hS => ?_)
    refine lv_pop hx hb dL_law_1274 rfl ?_
    refine lv_aload_n hx hb dL_law_1275 rfl (lv_at hl 2 rfl) ?_
    refine law4_arg (k0 := 0) (k3 := 3) (i := i) (j := 1) hx hb hXs hbl hbA hS hL hl rfl rfl (by omega) (by decide) dL_law_1276 dL_law_1277 dL_law_1278 dL_law_1279 dL_law_1280 ?_
    refine law4_arg (k0 := 0) (k3 := 3) (i := i) (j := 2) hx hb hXs hbl hbA hS hL hl rfl rfl (by omega) (by decide) dL_law_1281 dL_law_1282 dL_law_1283 dL_law_1284 dL_law_1285 ?_
    refine lv_if_eq (tgt := 1293) hx hb dL_law_1286 (by decide) (fun c_1 => absurd c_1 hz2) (fun _ => ?_)
    refine lv_iconst (v := 1) hx hb dL_law_1289 (by decide) ?_
    refine lv_goto (tgt := 1294) hx hb dL_law_1290 (by decide) ?_
    have hP := e_swapP hP
    have hD := e_swapD hD
    rw [← hgg] at hP
    refine law_cv (As := [.int (xs (i + 1)), .int 1]) (rest := []) hC2 hP hD hS hA hl.1 (rX11_alike hpm) cwL_138 yvX11_alike (va_recv (ci := 11) (q0 := 0) hC2.2.2.2.2.2.1 (law_left hP) rfl (wk_at tb_300)) rfl rfl (Nat.le_of_ble_eq_true rfl) (rmL4 (by decide) (by decide)) dL_law_1294 (fun r2 w3 H locs h2 hP hD hS => ?_)
    have hP := e_swapP hP
    have hD := e_swapD hD
    rw [hgg] at hP
    refine lv_pop hx hb dL_law_1297 rfl ?_
    refine lv_goto (tgt := 2075) hx hb dL_law_1298 (by decide) ?_
    exact hend w1 w3 H locs h1 h2 hP hD hS
set_option maxHeartbeats 4000000 in
set_option maxRecDepth 100000 in
theorem case4_tell {p : Program} {l : Launch} {e : Env} {s : State} {m : MethodId} {below : List Frame} {meth : Method} {c : Code} {H : Heap} {locs : List Loc} {Q : State → Prop} {ls : Array Slot} {A : Nat → Prop} {g g2 : Gw} {w w2 : Wd} {b L i : Nat} {xs : Nat → Int32} {JX JM : Wd → Prop} (hLC : LC4 p s m c b L xs A g g2) (hi : i + 6 ≤ L) (hP : va_P g.1 vwCl (wsW tabX g w ++ wsW tabM g2 w2) H) (hD : va_D A (wsW tabX g w ++ wsW tabM g2 w2)) (hS : va_S A s.heap H locs) (hl : lv_has ls 4 (lvL4 b i g g2)) (hpx : pX10_tell (fun _ w1 => JX w1)  w) (hpm : pX11_tell (fun _ w1 => JM w1)  w2) (hend : ∀ (w1 w3 : Wd) (H : Heap) (locs : List Loc), JX w1 → JM w3 → va_P g.1 vwCl (wsW tabX g w1 ++ wsW tabM g2 w3) H → va_D A (wsW tabX g w1 ++ wsW tabM g2 w3) → va_S A s.heap H locs → W p l e room_1 s m #[.ref b] below meth c H locs 134 142488 Q (F0 m 2075 ls [])) : W p l e room_1 s m #[.ref b] below meth c H locs 134 142488 Q (F0 m 1301 ls []) := by
  obtain ⟨hC, hC2, hgg, hXs, hbl, hbA, hA, hL⟩ := hLC
  have hx := hC.1
  have hb := hC.2.1
  refine lv_aload_n hx hb dL_law_1301 rfl (lv_at hl 1 rfl) ?_
  refine law_cv (As := []) (rest := []) hC hP hD hS hA hl.1 (rX10_tell hpx) cwL_139 yvX10_tell (va_recv (ci := 10) (q0 := 0) hC.2.2.2.2.2.1 (law_left hP) rfl (wk_at tb_0)) rfl rfl (Nat.le_of_ble_eq_true rfl) (rmL4 (by decide) (by decide)) dL_law_1302 (fun r1 w1 H locs h1 hP hD hS => ?_)
  refine lv_pop hx hb dL_law_1305 rfl ?_
  refine lv_aload_n hx hb dL_law_1306 rfl (lv_at hl 2 rfl) ?_
  have hP := e_swapP hP
  have hD := e_swapD hD
  rw [← hgg] at hP
  refine law_cv (As := []) (rest := []) hC2 hP hD hS hA hl.1 (rX11_tell hpm) cwL_142 yvX11_tell (va_recv (ci := 11) (q0 := 0) hC2.2.2.2.2.2.1 (law_left hP) rfl (wk_at tb_300)) rfl rfl (Nat.le_of_ble_eq_true rfl) (rmL4 (by decide) (by decide)) dL_law_1307 (fun r2 w3 H locs h2 hP hD hS => ?_)
  have hP := e_swapP hP
  have hD := e_swapD hD
  rw [hgg] at hP
  refine lv_pop hx hb dL_law_1310 rfl ?_
  refine lv_goto (tgt := 2075) hx hb dL_law_1311 (by decide) ?_
  exact hend w1 w3 H locs h1 h2 hP hD hS
set_option maxHeartbeats 4000000 in
set_option maxRecDepth 100000 in
theorem case4_round {p : Program} {l : Launch} {e : Env} {s : State} {m : MethodId} {below : List Frame} {meth : Method} {c : Code} {H : Heap} {locs : List Loc} {Q : State → Prop} {ls : Array Slot} {A : Nat → Prop} {g g2 : Gw} {w w2 : Wd} {b L i : Nat} {xs : Nat → Int32} {JX JM : Wd → Prop} (hLC : LC4 p s m c b L xs A g g2) (hi : i + 6 ≤ L) (hP : va_P g.1 vwCl (wsW tabX g w ++ wsW tabM g2 w2) H) (hD : va_D A (wsW tabX g w ++ wsW tabM g2 w2)) (hS : va_S A s.heap H locs) (hl : lv_has ls 4 (lvL4 b i g g2)) (hpx : pX10_round (fun _ w1 => JX w1) (xs (i + 1)) (xs (i + 2)) (xs (i + 3)) (xs (i + 4)) w) (hpm : pX11_round (fun _ w1 => JM w1) (xs (i + 1)) (xs (i + 2)) (xs (i + 3)) (xs (i + 4)) w2) (hend : ∀ (w1 w3 : Wd) (H : Heap) (locs : List Loc), JX w1 → JM w3 → va_P g.1 vwCl (wsW tabX g w1 ++ wsW tabM g2 w3) H → va_D A (wsW tabX g w1 ++ wsW tabM g2 w3) → va_S A s.heap H locs → W p l e room_1 s m #[.ref b] below meth c H locs 134 142488 Q (F0 m 2075 ls [])) : W p l e room_1 s m #[.ref b] below meth c H locs 134 142488 Q (F0 m 1314 ls []) := by
  obtain ⟨hC, hC2, hgg, hXs, hbl, hbA, hA, hL⟩ := hLC
  have hx := hC.1
  have hb := hC.2.1
  refine lv_aload_n hx hb dL_law_1314 rfl (lv_at hl 1 rfl) ?_
  refine law4_arg (k0 := 0) (k3 := 3) (i := i) (j := 1) hx hb hXs hbl hbA hS hL hl rfl rfl (by omega) (by decide) dL_law_1315 dL_law_1316 dL_law_1317 dL_law_1318 dL_law_1319 ?_
  refine law4_arg (k0 := 0) (k3 := 3) (i := i) (j := 2) hx hb hXs hbl hbA hS hL hl rfl rfl (by omega) (by decide) dL_law_1320 dL_law_1321 dL_law_1322 dL_law_1323 dL_law_1324 ?_
  refine law4_arg (k0 := 0) (k3 := 3) (i := i) (j := 3) hx hb hXs hbl hbA hS hL hl rfl rfl (by omega) (by decide) dL_law_1325 dL_law_1326 dL_law_1327 dL_law_1328 dL_law_1329 ?_
  refine law4_arg (k0 := 0) (k3 := 3) (i := i) (j := 4) hx hb hXs hbl hbA hS hL hl rfl rfl (by omega) (by decide) dL_law_1330 dL_law_1331 dL_law_1332 dL_law_1333 dL_law_1334 ?_
  refine law_cv (As := [.int (xs (i + 1)), .int (xs (i + 2)), .int (xs (i + 3)), .int (xs (i + 4))]) (rest := []) hC hP hD hS hA hl.1 (rX10_round hpx) cwL_143 yvX10_round (va_recv (ci := 10) (q0 := 0) hC.2.2.2.2.2.1 (law_left hP) rfl (wk_at tb_0)) rfl rfl (Nat.le_of_ble_eq_true rfl) (rmL4 (by decide) (by decide)) dL_law_1335 (fun r1 w1 H locs h1 hP hD hS => ?_)
  refine lv_pop hx hb dL_law_1338 rfl ?_
  refine lv_aload_n hx hb dL_law_1339 rfl (lv_at hl 2 rfl) ?_
  refine law4_arg (k0 := 0) (k3 := 3) (i := i) (j := 1) hx hb hXs hbl hbA hS hL hl rfl rfl (by omega) (by decide) dL_law_1340 dL_law_1341 dL_law_1342 dL_law_1343 dL_law_1344 ?_
  refine law4_arg (k0 := 0) (k3 := 3) (i := i) (j := 2) hx hb hXs hbl hbA hS hL hl rfl rfl (by omega) (by decide) dL_law_1345 dL_law_1346 dL_law_1347 dL_law_1348 dL_law_1349 ?_
  refine law4_arg (k0 := 0) (k3 := 3) (i := i) (j := 3) hx hb hXs hbl hbA hS hL hl rfl rfl (by omega) (by decide) dL_law_1350 dL_law_1351 dL_law_1352 dL_law_1353 dL_law_1354 ?_
  refine law4_arg (k0 := 0) (k3 := 3) (i := i) (j := 4) hx hb hXs hbl hbA hS hL hl rfl rfl (by omega) (by decide) dL_law_1355 dL_law_1356 dL_law_1357 dL_law_1358 dL_law_1359 ?_
  have hP := e_swapP hP
  have hD := e_swapD hD
  rw [← hgg] at hP
  refine law_cv (As := [.int (xs (i + 1)), .int (xs (i + 2)), .int (xs (i + 3)), .int (xs (i + 4))]) (rest := []) hC2 hP hD hS hA hl.1 (rX11_round hpm) cwL_146 yvX11_round (va_recv (ci := 11) (q0 := 0) hC2.2.2.2.2.2.1 (law_left hP) rfl (wk_at tb_300)) rfl rfl (Nat.le_of_ble_eq_true rfl) (rmL4 (by decide) (by decide)) dL_law_1360 (fun r2 w3 H locs h2 hP hD hS => ?_)
  have hP := e_swapP hP
  have hD := e_swapD hD
  rw [hgg] at hP
  refine lv_pop hx hb dL_law_1363 rfl ?_
  refine lv_goto (tgt := 2075) hx hb dL_law_1364 (by decide) ?_
  exact hend w1 w3 H locs h1 h2 hP hD hS
set_option maxHeartbeats 4000000 in
set_option maxRecDepth 100000 in
theorem case4_steady {p : Program} {l : Launch} {e : Env} {s : State} {m : MethodId} {below : List Frame} {meth : Method} {c : Code} {H : Heap} {locs : List Loc} {Q : State → Prop} {ls : Array Slot} {A : Nat → Prop} {g g2 : Gw} {w w2 : Wd} {b L i : Nat} {xs : Nat → Int32} {JX JM : Wd → Prop} (hLC : LC4 p s m c b L xs A g g2) (hi : i + 6 ≤ L) (hP : va_P g.1 vwCl (wsW tabX g w ++ wsW tabM g2 w2) H) (hD : va_D A (wsW tabX g w ++ wsW tabM g2 w2)) (hS : va_S A s.heap H locs) (hl : lv_has ls 4 (lvL4 b i g g2)) (hpx : pX10_steady (fun _ w1 => JX w1) (xs (i + 1)) (xs (i + 2)) (xs (i + 3)) w) (hpm : pX11_steady (fun _ w1 => JM w1) (xs (i + 1)) (xs (i + 2)) (xs (i + 3)) w2) (hend : ∀ (w1 w3 : Wd) (H : Heap) (locs : List Loc), JX w1 → JM w3 → va_P g.1 vwCl (wsW tabX g w1 ++ wsW tabM g2 w3) H → va_D A (wsW tabX g w1 ++ wsW tabM g2 w3) → va_S A s.heap H locs → W p l e room_1 s m #[.ref b] below meth c H locs 134 142488 Q (F0 m 2075 ls [])) : W p l e room_1 s m #[.ref b] below meth c H locs 134 142488 Q (F0 m 1367 ls []) := by
  obtain ⟨hC, hC2, hgg, hXs, hbl, hbA, hA, hL⟩ := hLC
  have hx := hC.1
  have hb := hC.2.1
  refine lv_aload_n hx hb dL_law_1367 rfl (lv_at hl 1 rfl) ?_
  refine law4_arg (k0 := 0) (k3 := 3) (i := i) (j := 1) hx hb hXs hbl hbA hS hL hl rfl rfl (by omega) (by decide) dL_law_1368 dL_law_1369 dL_law_1370 dL_law_1371 dL_law_1372 ?_
  refine law4_arg (k0 := 0) (k3 := 3) (i := i) (j := 2) hx hb hXs hbl hbA hS hL hl rfl rfl (by omega) (by decide) dL_law_1373 dL_law_1374 dL_law_1375 dL_law_1376 dL_law_1377 ?_
  refine law4_arg (k0 := 0) (k3 := 3) (i := i) (j := 3) hx hb hXs hbl hbA hS hL hl rfl rfl (by omega) (by decide) dL_law_1378 dL_law_1379 dL_law_1380 dL_law_1381 dL_law_1382 ?_
  refine law_cv (As := [.int (xs (i + 1)), .int (xs (i + 2)), .int (xs (i + 3))]) (rest := []) hC hP hD hS hA hl.1 (rX10_steady hpx) cwL_147 yvX10_steady (va_recv (ci := 10) (q0 := 0) hC.2.2.2.2.2.1 (law_left hP) rfl (wk_at tb_0)) rfl rfl (Nat.le_of_ble_eq_true rfl) (rmL4 (by decide) (by decide)) dL_law_1383 (fun r1 w1 H locs h1 hP hD hS => ?_)
  refine lv_pop hx hb dL_law_1386 rfl ?_
  refine lv_aload_n hx hb dL_law_1387 rfl (lv_at hl 2 rfl) ?_
  refine law4_arg (k0 := 0) (k3 := 3) (i := i) (j := 1) hx hb hXs hbl hbA hS hL hl rfl rfl (by omega) (by decide) dL_law_1388 dL_law_1389 dL_law_1390 dL_law_1391 dL_law_1392 ?_
  refine law4_arg (k0 := 0) (k3 := 3) (i := i) (j := 2) hx hb hXs hbl hbA hS hL hl rfl rfl (by omega) (by decide) dL_law_1393 dL_law_1394 dL_law_1395 dL_law_1396 dL_law_1397 ?_
  refine law4_arg (k0 := 0) (k3 := 3) (i := i) (j := 3) hx hb hXs hbl hbA hS hL hl rfl rfl (by omega) (by decide) dL_law_1398 dL_law_1399 dL_law_1400 dL_law_1401 dL_law_1402 ?_
  have hP := e_swapP hP
  have hD := e_swapD hD
  rw [← hgg] at hP
  refine law_cv (As := [.int (xs (i + 1)), .int (xs (i + 2)), .int (xs (i + 3))]) (rest := []) hC2 hP hD hS hA hl.1 (rX11_steady hpm) cwL_150 yvX11_steady (va_recv (ci := 11) (q0 := 0) hC2.2.2.2.2.2.1 (law_left hP) rfl (wk_at tb_300)) rfl rfl (Nat.le_of_ble_eq_true rfl) (rmL4 (by decide) (by decide)) dL_law_1403 (fun r2 w3 H locs h2 hP hD hS => ?_)
  have hP := e_swapP hP
  have hD := e_swapD hD
  rw [hgg] at hP
  refine lv_pop hx hb dL_law_1406 rfl ?_
  refine lv_goto (tgt := 2075) hx hb dL_law_1407 (by decide) ?_
  exact hend w1 w3 H locs h1 h2 hP hD hS
set_option maxHeartbeats 4000000 in
set_option maxRecDepth 100000 in
theorem case4_against {p : Program} {l : Launch} {e : Env} {s : State} {m : MethodId} {below : List Frame} {meth : Method} {c : Code} {H : Heap} {locs : List Loc} {Q : State → Prop} {ls : Array Slot} {A : Nat → Prop} {g g2 : Gw} {w w2 : Wd} {b L i : Nat} {xs : Nat → Int32} {JX JM : Wd → Prop} (hLC : LC4 p s m c b L xs A g g2) (hi : i + 6 ≤ L) (hP : va_P g.1 vwCl (wsW tabX g w ++ wsW tabM g2 w2) H) (hD : va_D A (wsW tabX g w ++ wsW tabM g2 w2)) (hS : va_S A s.heap H locs) (hl : lv_has ls 4 (lvL4 b i g g2)) (hpx : pX10_against (fun _ w1 => JX w1) (xs (i + 1)) (xs (i + 2)) (xs (i + 3)) w) (hpm : pX11_against (fun _ w1 => JM w1) (xs (i + 1)) (xs (i + 2)) (xs (i + 3)) w2) (hend : ∀ (w1 w3 : Wd) (H : Heap) (locs : List Loc), JX w1 → JM w3 → va_P g.1 vwCl (wsW tabX g w1 ++ wsW tabM g2 w3) H → va_D A (wsW tabX g w1 ++ wsW tabM g2 w3) → va_S A s.heap H locs → W p l e room_1 s m #[.ref b] below meth c H locs 134 142488 Q (F0 m 2075 ls [])) : W p l e room_1 s m #[.ref b] below meth c H locs 134 142488 Q (F0 m 1410 ls []) := by
  obtain ⟨hC, hC2, hgg, hXs, hbl, hbA, hA, hL⟩ := hLC
  have hx := hC.1
  have hb := hC.2.1
  refine lv_aload_n hx hb dL_law_1410 rfl (lv_at hl 1 rfl) ?_
  refine law4_arg (k0 := 0) (k3 := 3) (i := i) (j := 1) hx hb hXs hbl hbA hS hL hl rfl rfl (by omega) (by decide) dL_law_1411 dL_law_1412 dL_law_1413 dL_law_1414 dL_law_1415 ?_
  refine law4_arg (k0 := 0) (k3 := 3) (i := i) (j := 2) hx hb hXs hbl hbA hS hL hl rfl rfl (by omega) (by decide) dL_law_1416 dL_law_1417 dL_law_1418 dL_law_1419 dL_law_1420 ?_
  refine law4_arg (k0 := 0) (k3 := 3) (i := i) (j := 3) hx hb hXs hbl hbA hS hL hl rfl rfl (by omega) (by decide) dL_law_1421 dL_law_1422 dL_law_1423 dL_law_1424 dL_law_1425 ?_
  refine law_cv (As := [.int (xs (i + 1)), .int (xs (i + 2)), .int (xs (i + 3))]) (rest := []) hC hP hD hS hA hl.1 (rX10_against hpx) cwL_151 yvX10_against (va_recv (ci := 10) (q0 := 0) hC.2.2.2.2.2.1 (law_left hP) rfl (wk_at tb_0)) rfl rfl (Nat.le_of_ble_eq_true rfl) (rmL4 (by decide) (by decide)) dL_law_1426 (fun r1 w1 H locs h1 hP hD hS => ?_)
  refine lv_pop hx hb dL_law_1429 rfl ?_
  refine lv_aload_n hx hb dL_law_1430 rfl (lv_at hl 2 rfl) ?_
  refine law4_arg (k0 := 0) (k3 := 3) (i := i) (j := 1) hx hb hXs hbl hbA hS hL hl rfl rfl (by omega) (by decide) dL_law_1431 dL_law_1432 dL_law_1433 dL_law_1434 dL_law_1435 ?_
  refine law4_arg (k0 := 0) (k3 := 3) (i := i) (j := 2) hx hb hXs hbl hbA hS hL hl rfl rfl (by omega) (by decide) dL_law_1436 dL_law_1437 dL_law_1438 dL_law_1439 dL_law_1440 ?_
  refine law4_arg (k0 := 0) (k3 := 3) (i := i) (j := 3) hx hb hXs hbl hbA hS hL hl rfl rfl (by omega) (by decide) dL_law_1441 dL_law_1442 dL_law_1443 dL_law_1444 dL_law_1445 ?_
  have hP := e_swapP hP
  have hD := e_swapD hD
  rw [← hgg] at hP
  refine law_cv (As := [.int (xs (i + 1)), .int (xs (i + 2)), .int (xs (i + 3))]) (rest := []) hC2 hP hD hS hA hl.1 (rX11_against hpm) cwL_154 yvX11_against (va_recv (ci := 11) (q0 := 0) hC2.2.2.2.2.2.1 (law_left hP) rfl (wk_at tb_300)) rfl rfl (Nat.le_of_ble_eq_true rfl) (rmL4 (by decide) (by decide)) dL_law_1446 (fun r2 w3 H locs h2 hP hD hS => ?_)
  have hP := e_swapP hP
  have hD := e_swapD hD
  rw [hgg] at hP
  refine lv_pop hx hb dL_law_1449 rfl ?_
  refine lv_goto (tgt := 2075) hx hb dL_law_1450 (by decide) ?_
  exact hend w1 w3 H locs h1 h2 hP hD hS
set_option maxHeartbeats 4000000 in
set_option maxRecDepth 100000 in
theorem case4_wax {p : Program} {l : Launch} {e : Env} {s : State} {m : MethodId} {below : List Frame} {meth : Method} {c : Code} {H : Heap} {locs : List Loc} {Q : State → Prop} {ls : Array Slot} {A : Nat → Prop} {g g2 : Gw} {w w2 : Wd} {b L i : Nat} {xs : Nat → Int32} {JX JM : Wd → Prop} (hLC : LC4 p s m c b L xs A g g2) (hi : i + 6 ≤ L) (hP : va_P g.1 vwCl (wsW tabX g w ++ wsW tabM g2 w2) H) (hD : va_D A (wsW tabX g w ++ wsW tabM g2 w2)) (hS : va_S A s.heap H locs) (hl : lv_has ls 4 (lvL4 b i g g2)) (hpx : pX10_wax (fun _ w1 => JX w1) (xs (i + 1)) w) (hpm : pX11_wax (fun _ w1 => JM w1) (xs (i + 1)) w2) (hend : ∀ (w1 w3 : Wd) (H : Heap) (locs : List Loc), JX w1 → JM w3 → va_P g.1 vwCl (wsW tabX g w1 ++ wsW tabM g2 w3) H → va_D A (wsW tabX g w1 ++ wsW tabM g2 w3) → va_S A s.heap H locs → W p l e room_1 s m #[.ref b] below meth c H locs 134 142488 Q (F0 m 2075 ls [])) : W p l e room_1 s m #[.ref b] below meth c H locs 134 142488 Q (F0 m 1453 ls []) := by
  obtain ⟨hC, hC2, hgg, hXs, hbl, hbA, hA, hL⟩ := hLC
  have hx := hC.1
  have hb := hC.2.1
  refine lv_aload_n hx hb dL_law_1453 rfl (lv_at hl 1 rfl) ?_
  refine law4_arg (k0 := 0) (k3 := 3) (i := i) (j := 1) hx hb hXs hbl hbA hS hL hl rfl rfl (by omega) (by decide) dL_law_1454 dL_law_1455 dL_law_1456 dL_law_1457 dL_law_1458 ?_
  refine law_cv (As := [.int (xs (i + 1))]) (rest := []) hC hP hD hS hA hl.1 (rX10_wax hpx) cwL_155 yvX10_wax (va_recv (ci := 10) (q0 := 0) hC.2.2.2.2.2.1 (law_left hP) rfl (wk_at tb_0)) rfl rfl (Nat.le_of_ble_eq_true rfl) (rmL4 (by decide) (by decide)) dL_law_1459 (fun r1 w1 H locs h1 hP hD hS => ?_)
  refine lv_pop hx hb dL_law_1462 rfl ?_
  refine lv_aload_n hx hb dL_law_1463 rfl (lv_at hl 2 rfl) ?_
  refine law4_arg (k0 := 0) (k3 := 3) (i := i) (j := 1) hx hb hXs hbl hbA hS hL hl rfl rfl (by omega) (by decide) dL_law_1464 dL_law_1465 dL_law_1466 dL_law_1467 dL_law_1468 ?_
  have hP := e_swapP hP
  have hD := e_swapD hD
  rw [← hgg] at hP
  refine law_cv (As := [.int (xs (i + 1))]) (rest := []) hC2 hP hD hS hA hl.1 (rX11_wax hpm) cwL_158 yvX11_wax (va_recv (ci := 11) (q0 := 0) hC2.2.2.2.2.2.1 (law_left hP) rfl (wk_at tb_300)) rfl rfl (Nat.le_of_ble_eq_true rfl) (rmL4 (by decide) (by decide)) dL_law_1469 (fun r2 w3 H locs h2 hP hD hS => ?_)
  have hP := e_swapP hP
  have hD := e_swapD hD
  rw [hgg] at hP
  refine lv_pop hx hb dL_law_1472 rfl ?_
  refine lv_goto (tgt := 2075) hx hb dL_law_1473 (by decide) ?_
  exact hend w1 w3 H locs h1 h2 hP hD hS
set_option maxHeartbeats 4000000 in
set_option maxRecDepth 100000 in
theorem case4_sample {p : Program} {l : Launch} {e : Env} {s : State} {m : MethodId} {below : List Frame} {meth : Method} {c : Code} {H : Heap} {locs : List Loc} {Q : State → Prop} {ls : Array Slot} {A : Nat → Prop} {g g2 : Gw} {w w2 : Wd} {b L i : Nat} {xs : Nat → Int32} {JX JM : Wd → Prop} (hLC : LC4 p s m c b L xs A g g2) (hi : i + 6 ≤ L) (hP : va_P g.1 vwCl (wsW tabX g w ++ wsW tabM g2 w2) H) (hD : va_D A (wsW tabX g w ++ wsW tabM g2 w2)) (hS : va_S A s.heap H locs) (hl : lv_has ls 4 (lvL4 b i g g2)) (hpx : pX10_sample (fun _ w1 => JX w1) (xs (i + 1)) (bz (xs (i + 2))) w) (hpm : pX11_sample (fun _ w1 => JM w1) (xs (i + 1)) (bz (xs (i + 2))) w2) (hend : ∀ (w1 w3 : Wd) (H : Heap) (locs : List Loc), JX w1 → JM w3 → va_P g.1 vwCl (wsW tabX g w1 ++ wsW tabM g2 w3) H → va_D A (wsW tabX g w1 ++ wsW tabM g2 w3) → va_S A s.heap H locs → W p l e room_1 s m #[.ref b] below meth c H locs 134 142488 Q (F0 m 2075 ls [])) : W p l e room_1 s m #[.ref b] below meth c H locs 134 142488 Q (F0 m 1476 ls []) := by
  obtain ⟨hC, hC2, hgg, hXs, hbl, hbA, hA, hL⟩ := hLC
  have hx := hC.1
  have hb := hC.2.1
  by_cases hz2 : xs (i + 2) = 0
  · have hb2 : bz (xs (i + 2)) = 0 := if_pos hz2
    rw [hb2] at hpx hpm
    refine lv_aload_n hx hb dL_law_1476 rfl (lv_at hl 1 rfl) ?_
    refine law4_arg (k0 := 0) (k3 := 3) (i := i) (j := 1) hx hb hXs hbl hbA hS hL hl rfl rfl (by omega) (by decide) dL_law_1477 dL_law_1478 dL_law_1479 dL_law_1480 dL_law_1481 ?_
    refine law4_arg (k0 := 0) (k3 := 3) (i := i) (j := 2) hx hb hXs hbl hbA hS hL hl rfl rfl (by omega) (by decide) dL_law_1482 dL_law_1483 dL_law_1484 dL_law_1485 dL_law_1486 ?_
    refine lv_if_eq (tgt := 1494) hx hb dL_law_1487 (by decide) (fun _ => ?_) (fun c_1 => absurd hz2 c_1)
    refine lv_iconst (v := 0) hx hb dL_law_1494 (by decide) ?_
    refine law_cv (As := [.int (xs (i + 1)), .int 0]) (rest := []) hC hP hD hS hA hl.1 (rX10_sample hpx) cwL_159 yvX10_sample (va_recv (ci := 10) (q0 := 0) hC.2.2.2.2.2.1 (law_left hP) rfl (wk_at tb_0)) rfl rfl (Nat.le_of_ble_eq_true rfl) (rmL4 (by decide) (by decide)) dL_law_1495 (fun r1 w1 H locs h1 hP hD hS => ?_)
    refine lv_pop hx hb dL_law_1498 rfl ?_
    refine lv_aload_n hx hb dL_law_1499 rfl (lv_at hl 2 rfl) ?_
    refine law4_arg (k0 := 0) (k3 := 3) (i := i) (j := 1) hx hb hXs hbl hbA hS hL hl rfl rfl (by omega) (by decide) dL_law_1500 dL_law_1501 dL_law_1502 dL_law_1503 dL_law_1504 ?_
    refine law4_arg (k0 := 0) (k3 := 3) (i := i) (j := 2) hx hb hXs hbl hbA hS hL hl rfl rfl (by omega) (by decide) dL_law_1505 dL_law_1506 dL_law_1507 dL_law_1508 dL_law_1509 ?_
    refine lv_if_eq (tgt := 1517) hx hb dL_law_1510 (by decide) (fun _ => ?_) (fun c_1 => absurd hz2 c_1)
    refine lv_iconst (v := 0) hx hb dL_law_1517 (by decide) ?_
    have hP := e_swapP hP
    have hD := e_swapD hD
    rw [← hgg] at hP
    refine law_cv (As := [.int (xs (i + 1)), .int 0]) (rest := []) hC2 hP hD hS hA hl.1 (rX11_sample hpm) cwL_162 yvX11_sample (va_recv (ci := 11) (q0 := 0) hC2.2.2.2.2.2.1 (law_left hP) rfl (wk_at tb_300)) rfl rfl (Nat.le_of_ble_eq_true rfl) (rmL4 (by decide) (by decide)) dL_law_1518 (fun r2 w3 H locs h2 hP hD hS => ?_)
    have hP := e_swapP hP
    have hD := e_swapD hD
    rw [hgg] at hP
    refine lv_pop hx hb dL_law_1521 rfl ?_
    refine lv_goto (tgt := 2075) hx hb dL_law_1522 (by decide) ?_
    exact hend w1 w3 H locs h1 h2 hP hD hS
  · have hb2 : bz (xs (i + 2)) = 1 := if_neg hz2
    rw [hb2] at hpx hpm
    refine lv_aload_n hx hb dL_law_1476 rfl (lv_at hl 1 rfl) ?_
    refine law4_arg (k0 := 0) (k3 := 3) (i := i) (j := 1) hx hb hXs hbl hbA hS hL hl rfl rfl (by omega) (by decide) dL_law_1477 dL_law_1478 dL_law_1479 dL_law_1480 dL_law_1481 ?_
    refine law4_arg (k0 := 0) (k3 := 3) (i := i) (j := 2) hx hb hXs hbl hbA hS hL hl rfl rfl (by omega) (by decide) dL_law_1482 dL_law_1483 dL_law_1484 dL_law_1485 dL_law_1486 ?_
    refine lv_if_eq (tgt := 1494) hx hb dL_law_1487 (by decide) (fun c_1 => absurd c_1 hz2) (fun _ => ?_)
    refine lv_iconst (v := 1) hx hb dL_law_1490 (by decide) ?_
    refine lv_goto (tgt := 1495) hx hb dL_law_1491 (by decide) ?_
    refine law_cv (As := [.int (xs (i + 1)), .int 1]) (rest := []) hC hP hD hS hA hl.1 (rX10_sample hpx) cwL_159 yvX10_sample (va_recv (ci := 10) (q0 := 0) hC.2.2.2.2.2.1 (law_left hP) rfl (wk_at tb_0)) rfl rfl (Nat.le_of_ble_eq_true rfl) (rmL4 (by decide) (by decide)) dL_law_1495 (fun r1 w1 H locs h1 hP hD hS => ?_)
    refine lv_pop hx hb dL_law_1498 rfl ?_
    refine lv_aload_n hx hb dL_law_1499 rfl (lv_at hl 2 rfl) ?_
    refine law4_arg (k0 := 0) (k3 := 3) (i := i) (j := 1) hx hb hXs hbl hbA hS hL hl rfl rfl (by omega) (by decide) dL_law_1500 dL_law_1501 dL_law_1502 dL_law_1503 dL_law_1504 ?_
    refine law4_arg (k0 := 0) (k3 := 3) (i := i) (j := 2) hx hb hXs hbl hbA hS hL hl rfl rfl (by omega) (by decide) dL_law_1505 dL_law_1506 dL_law_1507 dL_law_1508 dL_law_1509 ?_
    refine lv_if_eq (tgt := 1517) hx hb dL_law_1510 (by decide) (fun c_1 => absurd c_1 hz2) (fun _ => ?_)
    refine lv_iconst (v := 1) hx hb dL_law_1513 (by decide) ?_
    refine lv_goto (tgt := 1518) hx hb dL_law_1514 (by decide) ?_
    have hP := e_swapP hP
    have hD := e_swapD hD
    rw [← hgg] at hP
    refine law_cv (As := [.int (xs (i + 1)), .int 1]) (rest := []) hC2 hP hD hS hA hl.1 (rX11_sample hpm) cwL_162 yvX11_sample (va_recv (ci := 11) (q0 := 0) hC2.2.2.2.2.2.1 (law_left hP) rfl (wk_at tb_300)) rfl rfl (Nat.le_of_ble_eq_true rfl) (rmL4 (by decide) (by decide)) dL_law_1518 (fun r2 w3 H locs h2 hP hD hS => ?_)
    have hP := e_swapP hP
    have hD := e_swapD hD
    rw [hgg] at hP
    refine lv_pop hx hb dL_law_1521 rfl ?_
    refine lv_goto (tgt := 2075) hx hb dL_law_1522 (by decide) ?_
    exact hend w1 w3 H locs h1 h2 hP hD hS
set_option maxHeartbeats 4000000 in
set_option maxRecDepth 100000 in
theorem case4_claim {p : Program} {l : Launch} {e : Env} {s : State} {m : MethodId} {below : List Frame} {meth : Method} {c : Code} {H : Heap} {locs : List Loc} {Q : State → Prop} {ls : Array Slot} {A : Nat → Prop} {g g2 : Gw} {w w2 : Wd} {b L i : Nat} {xs : Nat → Int32} {JX JM : Wd → Prop} (hLC : LC4 p s m c b L xs A g g2) (hi : i + 6 ≤ L) (hP : va_P g.1 vwCl (wsW tabX g w ++ wsW tabM g2 w2) H) (hD : va_D A (wsW tabX g w ++ wsW tabM g2 w2)) (hS : va_S A s.heap H locs) (hl : lv_has ls 4 (lvL4 b i g g2)) (hpx : pX10_claim (fun _ w1 => JX w1) (xs (i + 1)) (xs (i + 2)) (xs (i + 3)) w) (hpm : pX11_claim (fun _ w1 => JM w1) (xs (i + 1)) (xs (i + 2)) (xs (i + 3)) w2) (hend : ∀ (w1 w3 : Wd) (H : Heap) (locs : List Loc), JX w1 → JM w3 → va_P g.1 vwCl (wsW tabX g w1 ++ wsW tabM g2 w3) H → va_D A (wsW tabX g w1 ++ wsW tabM g2 w3) → va_S A s.heap H locs → W p l e room_1 s m #[.ref b] below meth c H locs 134 142488 Q (F0 m 2075 ls [])) : W p l e room_1 s m #[.ref b] below meth c H locs 134 142488 Q (F0 m 1525 ls []) := by
  obtain ⟨hC, hC2, hgg, hXs, hbl, hbA, hA, hL⟩ := hLC
  have hx := hC.1
  have hb := hC.2.1
  refine lv_aload_n hx hb dL_law_1525 rfl (lv_at hl 1 rfl) ?_
  refine law4_arg (k0 := 0) (k3 := 3) (i := i) (j := 1) hx hb hXs hbl hbA hS hL hl rfl rfl (by omega) (by decide) dL_law_1526 dL_law_1527 dL_law_1528 dL_law_1529 dL_law_1530 ?_
  refine law4_arg (k0 := 0) (k3 := 3) (i := i) (j := 2) hx hb hXs hbl hbA hS hL hl rfl rfl (by omega) (by decide) dL_law_1531 dL_law_1532 dL_law_1533 dL_law_1534 dL_law_1535 ?_
  refine law4_arg (k0 := 0) (k3 := 3) (i := i) (j := 3) hx hb hXs hbl hbA hS hL hl rfl rfl (by omega) (by decide) dL_law_1536 dL_law_1537 dL_law_1538 dL_law_1539 dL_law_1540 ?_
  refine law_cv (As := [.int (xs (i + 1)), .int (xs (i + 2)), .int (xs (i + 3))]) (rest := []) hC hP hD hS hA hl.1 (rX10_claim hpx) cwL_163 yvX10_claim (va_recv (ci := 10) (q0 := 0) hC.2.2.2.2.2.1 (law_left hP) rfl (wk_at tb_0)) rfl rfl (Nat.le_of_ble_eq_true rfl) (rmL4 (by decide) (by decide)) dL_law_1541 (fun r1 w1 H locs h1 hP hD hS => ?_)
  refine lv_pop hx hb dL_law_1544 rfl ?_
  refine lv_aload_n hx hb dL_law_1545 rfl (lv_at hl 2 rfl) ?_
  refine law4_arg (k0 := 0) (k3 := 3) (i := i) (j := 1) hx hb hXs hbl hbA hS hL hl rfl rfl (by omega) (by decide) dL_law_1546 dL_law_1547 dL_law_1548 dL_law_1549 dL_law_1550 ?_
  refine law4_arg (k0 := 0) (k3 := 3) (i := i) (j := 2) hx hb hXs hbl hbA hS hL hl rfl rfl (by omega) (by decide) dL_law_1551 dL_law_1552 dL_law_1553 dL_law_1554 dL_law_1555 ?_
  refine law4_arg (k0 := 0) (k3 := 3) (i := i) (j := 3) hx hb hXs hbl hbA hS hL hl rfl rfl (by omega) (by decide) dL_law_1556 dL_law_1557 dL_law_1558 dL_law_1559 dL_law_1560 ?_
  have hP := e_swapP hP
  have hD := e_swapD hD
  rw [← hgg] at hP
  refine law_cv (As := [.int (xs (i + 1)), .int (xs (i + 2)), .int (xs (i + 3))]) (rest := []) hC2 hP hD hS hA hl.1 (rX11_claim hpm) cwL_166 yvX11_claim (va_recv (ci := 11) (q0 := 0) hC2.2.2.2.2.2.1 (law_left hP) rfl (wk_at tb_300)) rfl rfl (Nat.le_of_ble_eq_true rfl) (rmL4 (by decide) (by decide)) dL_law_1561 (fun r2 w3 H locs h2 hP hD hS => ?_)
  have hP := e_swapP hP
  have hD := e_swapD hD
  rw [hgg] at hP
  refine lv_pop hx hb dL_law_1564 rfl ?_
  refine lv_goto (tgt := 2075) hx hb dL_law_1565 (by decide) ?_
  exact hend w1 w3 H locs h1 h2 hP hD hS
set_option maxHeartbeats 4000000 in
set_option maxRecDepth 100000 in
theorem case4_saw {p : Program} {l : Launch} {e : Env} {s : State} {m : MethodId} {below : List Frame} {meth : Method} {c : Code} {H : Heap} {locs : List Loc} {Q : State → Prop} {ls : Array Slot} {A : Nat → Prop} {g g2 : Gw} {w w2 : Wd} {b L i : Nat} {xs : Nat → Int32} {JX JM : Wd → Prop} (hLC : LC4 p s m c b L xs A g g2) (hi : i + 6 ≤ L) (hP : va_P g.1 vwCl (wsW tabX g w ++ wsW tabM g2 w2) H) (hD : va_D A (wsW tabX g w ++ wsW tabM g2 w2)) (hS : va_S A s.heap H locs) (hl : lv_has ls 4 (lvL4 b i g g2)) (hpx : pX10_saw (fun _ w1 => JX w1) (xs (i + 1)) (xs (i + 2)) (bz (xs (i + 3))) w) (hpm : pX11_saw (fun _ w1 => JM w1) (xs (i + 1)) (xs (i + 2)) (bz (xs (i + 3))) w2) (hend : ∀ (w1 w3 : Wd) (H : Heap) (locs : List Loc), JX w1 → JM w3 → va_P g.1 vwCl (wsW tabX g w1 ++ wsW tabM g2 w3) H → va_D A (wsW tabX g w1 ++ wsW tabM g2 w3) → va_S A s.heap H locs → W p l e room_1 s m #[.ref b] below meth c H locs 134 142488 Q (F0 m 2075 ls [])) : W p l e room_1 s m #[.ref b] below meth c H locs 134 142488 Q (F0 m 1568 ls []) := by
  obtain ⟨hC, hC2, hgg, hXs, hbl, hbA, hA, hL⟩ := hLC
  have hx := hC.1
  have hb := hC.2.1
  by_cases hz3 : xs (i + 3) = 0
  · have hb3 : bz (xs (i + 3)) = 0 := if_pos hz3
    rw [hb3] at hpx hpm
    refine lv_aload_n hx hb dL_law_1568 rfl (lv_at hl 1 rfl) ?_
    refine law4_arg (k0 := 0) (k3 := 3) (i := i) (j := 1) hx hb hXs hbl hbA hS hL hl rfl rfl (by omega) (by decide) dL_law_1569 dL_law_1570 dL_law_1571 dL_law_1572 dL_law_1573 ?_
    refine law4_arg (k0 := 0) (k3 := 3) (i := i) (j := 2) hx hb hXs hbl hbA hS hL hl rfl rfl (by omega) (by decide) dL_law_1574 dL_law_1575 dL_law_1576 dL_law_1577 dL_law_1578 ?_
    refine law4_arg (k0 := 0) (k3 := 3) (i := i) (j := 3) hx hb hXs hbl hbA hS hL hl rfl rfl (by omega) (by decide) dL_law_1579 dL_law_1580 dL_law_1581 dL_law_1582 dL_law_1583 ?_
    refine lv_if_eq (tgt := 1591) hx hb dL_law_1584 (by decide) (fun _ => ?_) (fun c_1 => absurd hz3 c_1)
    refine lv_iconst (v := 0) hx hb dL_law_1591 (by decide) ?_
    refine law_cv (As := [.int (xs (i + 1)), .int (xs (i + 2)), .int 0]) (rest := []) hC hP hD hS hA hl.1 (rX10_saw hpx) cwL_167 yvX10_saw (va_recv (ci := 10) (q0 := 0) hC.2.2.2.2.2.1 (law_left hP) rfl (wk_at tb_0)) rfl rfl (Nat.le_of_ble_eq_true rfl) (rmL4 (by decide) (by decide)) dL_law_1592 (fun r1 w1 H locs h1 hP hD hS => ?_)
    refine lv_pop hx hb dL_law_1595 rfl ?_
    refine lv_aload_n hx hb dL_law_1596 rfl (lv_at hl 2 rfl) ?_
    refine law4_arg (k0 := 0) (k3 := 3) (i := i) (j := 1) hx hb hXs hbl hbA hS hL hl rfl rfl (by omega) (by decide) dL_law_1597 dL_law_1598 dL_law_1599 dL_law_1600 dL_law_1601 ?_
    refine law4_arg (k0 := 0) (k3 := 3) (i := i) (j := 2) hx hb hXs hbl hbA hS hL hl rfl rfl (by omega) (by decide) dL_law_1602 dL_law_1603 dL_law_1604 dL_law_1605 dL_law_1606 ?_
    refine law4_arg (k0 := 0) (k3 := 3) (i := i) (j := 3) hx hb hXs hbl hbA hS hL hl rfl rfl (by omega) (by decide) dL_law_1607 dL_law_1608 dL_law_1609 dL_law_1610 dL_law_1611 ?_
    refine lv_if_eq (tgt := 1619) hx hb dL_law_1612 (by decide) (fun _ => ?_) (fun c_1 => absurd hz3 c_1)
    refine lv_iconst (v := 0) hx hb dL_law_1619 (by decide) ?_
    have hP := e_swapP hP
    have hD := e_swapD hD
    rw [← hgg] at hP
    refine law_cv (As := [.int (xs (i + 1)), .int (xs (i + 2)), .int 0]) (rest := []) hC2 hP hD hS hA hl.1 (rX11_saw hpm) cwL_170 yvX11_saw (va_recv (ci := 11) (q0 := 0) hC2.2.2.2.2.2.1 (law_left hP) rfl (wk_at tb_300)) rfl rfl (Nat.le_of_ble_eq_true rfl) (rmL4 (by decide) (by decide)) dL_law_1620 (fun r2 w3 H locs h2 hP hD hS => ?_)
    have hP := e_swapP hP
    have hD := e_swapD hD
    rw [hgg] at hP
    refine lv_pop hx hb dL_law_1623 rfl ?_
    refine lv_goto (tgt := 2075) hx hb dL_law_1624 (by decide) ?_
    exact hend w1 w3 H locs h1 h2 hP hD hS
  · have hb3 : bz (xs (i + 3)) = 1 := if_neg hz3
    rw [hb3] at hpx hpm
    refine lv_aload_n hx hb dL_law_1568 rfl (lv_at hl 1 rfl) ?_
    refine law4_arg (k0 := 0) (k3 := 3) (i := i) (j := 1) hx hb hXs hbl hbA hS hL hl rfl rfl (by omega) (by decide) dL_law_1569 dL_law_1570 dL_law_1571 dL_law_1572 dL_law_1573 ?_
    refine law4_arg (k0 := 0) (k3 := 3) (i := i) (j := 2) hx hb hXs hbl hbA hS hL hl rfl rfl (by omega) (by decide) dL_law_1574 dL_law_1575 dL_law_1576 dL_law_1577 dL_law_1578 ?_
    refine law4_arg (k0 := 0) (k3 := 3) (i := i) (j := 3) hx hb hXs hbl hbA hS hL hl rfl rfl (by omega) (by decide) dL_law_1579 dL_law_1580 dL_law_1581 dL_law_1582 dL_law_1583 ?_
    refine lv_if_eq (tgt := 1591) hx hb dL_law_1584 (by decide) (fun c_1 => absurd c_1 hz3) (fun _ => ?_)
    refine lv_iconst (v := 1) hx hb dL_law_1587 (by decide) ?_
    refine lv_goto (tgt := 1592) hx hb dL_law_1588 (by decide) ?_
    refine law_cv (As := [.int (xs (i + 1)), .int (xs (i + 2)), .int 1]) (rest := []) hC hP hD hS hA hl.1 (rX10_saw hpx) cwL_167 yvX10_saw (va_recv (ci := 10) (q0 := 0) hC.2.2.2.2.2.1 (law_left hP) rfl (wk_at tb_0)) rfl rfl (Nat.le_of_ble_eq_true rfl) (rmL4 (by decide) (by decide)) dL_law_1592 (fun r1 w1 H locs h1 hP hD hS => ?_)
    refine lv_pop hx hb dL_law_1595 rfl ?_
    refine lv_aload_n hx hb dL_law_1596 rfl (lv_at hl 2 rfl) ?_
    refine law4_arg (k0 := 0) (k3 := 3) (i := i) (j := 1) hx hb hXs hbl hbA hS hL hl rfl rfl (by omega) (by decide) dL_law_1597 dL_law_1598 dL_law_1599 dL_law_1600 dL_law_1601 ?_
    refine law4_arg (k0 := 0) (k3 := 3) (i := i) (j := 2) hx hb hXs hbl hbA hS hL hl rfl rfl (by omega) (by decide) dL_law_1602 dL_law_1603 dL_law_1604 dL_law_1605 dL_law_1606 ?_
    refine law4_arg (k0 := 0) (k3 := 3) (i := i) (j := 3) hx hb hXs hbl hbA hS hL hl rfl rfl (by omega) (by decide) dL_law_1607 dL_law_1608 dL_law_1609 dL_law_1610 dL_law_1611 ?_
    refine lv_if_eq (tgt := 1619) hx hb dL_law_1612 (by decide) (fun c_1 => absurd c_1 hz3) (fun _ => ?_)
    refine lv_iconst (v := 1) hx hb dL_law_1615 (by decide) ?_
    refine lv_goto (tgt := 1620) hx hb dL_law_1616 (by decide) ?_
    have hP := e_swapP hP
    have hD := e_swapD hD
    rw [← hgg] at hP
    refine law_cv (As := [.int (xs (i + 1)), .int (xs (i + 2)), .int 1]) (rest := []) hC2 hP hD hS hA hl.1 (rX11_saw hpm) cwL_170 yvX11_saw (va_recv (ci := 11) (q0 := 0) hC2.2.2.2.2.2.1 (law_left hP) rfl (wk_at tb_300)) rfl rfl (Nat.le_of_ble_eq_true rfl) (rmL4 (by decide) (by decide)) dL_law_1620 (fun r2 w3 H locs h2 hP hD hS => ?_)
    have hP := e_swapP hP
    have hD := e_swapD hD
    rw [hgg] at hP
    refine lv_pop hx hb dL_law_1623 rfl ?_
    refine lv_goto (tgt := 2075) hx hb dL_law_1624 (by decide) ?_
    exact hend w1 w3 H locs h1 h2 hP hD hS
set_option maxHeartbeats 4000000 in
set_option maxRecDepth 100000 in
theorem case4_link {p : Program} {l : Launch} {e : Env} {s : State} {m : MethodId} {below : List Frame} {meth : Method} {c : Code} {H : Heap} {locs : List Loc} {Q : State → Prop} {ls : Array Slot} {A : Nat → Prop} {g g2 : Gw} {w w2 : Wd} {b L i : Nat} {xs : Nat → Int32} {JX JM : Wd → Prop} (hLC : LC4 p s m c b L xs A g g2) (hi : i + 6 ≤ L) (hP : va_P g.1 vwCl (wsW tabX g w ++ wsW tabM g2 w2) H) (hD : va_D A (wsW tabX g w ++ wsW tabM g2 w2)) (hS : va_S A s.heap H locs) (hl : lv_has ls 4 (lvL4 b i g g2)) (hpx : pX10_link (fun _ w1 => JX w1) (xs (i + 1)) (xs (i + 2)) (bz (xs (i + 3))) w) (hpm : pX11_link (fun _ w1 => JM w1) (xs (i + 1)) (xs (i + 2)) (bz (xs (i + 3))) w2) (hend : ∀ (w1 w3 : Wd) (H : Heap) (locs : List Loc), JX w1 → JM w3 → va_P g.1 vwCl (wsW tabX g w1 ++ wsW tabM g2 w3) H → va_D A (wsW tabX g w1 ++ wsW tabM g2 w3) → va_S A s.heap H locs → W p l e room_1 s m #[.ref b] below meth c H locs 134 142488 Q (F0 m 2075 ls [])) : W p l e room_1 s m #[.ref b] below meth c H locs 134 142488 Q (F0 m 1627 ls []) := by
  obtain ⟨hC, hC2, hgg, hXs, hbl, hbA, hA, hL⟩ := hLC
  have hx := hC.1
  have hb := hC.2.1
  by_cases hz3 : xs (i + 3) = 0
  · have hb3 : bz (xs (i + 3)) = 0 := if_pos hz3
    rw [hb3] at hpx hpm
    refine lv_aload_n hx hb dL_law_1627 rfl (lv_at hl 1 rfl) ?_
    refine law4_arg (k0 := 0) (k3 := 3) (i := i) (j := 1) hx hb hXs hbl hbA hS hL hl rfl rfl (by omega) (by decide) dL_law_1628 dL_law_1629 dL_law_1630 dL_law_1631 dL_law_1632 ?_
    refine law4_arg (k0 := 0) (k3 := 3) (i := i) (j := 2) hx hb hXs hbl hbA hS hL hl rfl rfl (by omega) (by decide) dL_law_1633 dL_law_1634 dL_law_1635 dL_law_1636 dL_law_1637 ?_
    refine law4_arg (k0 := 0) (k3 := 3) (i := i) (j := 3) hx hb hXs hbl hbA hS hL hl rfl rfl (by omega) (by decide) dL_law_1638 dL_law_1639 dL_law_1640 dL_law_1641 dL_law_1642 ?_
    refine lv_if_eq (tgt := 1650) hx hb dL_law_1643 (by decide) (fun _ => ?_) (fun c_1 => absurd hz3 c_1)
    refine lv_iconst (v := 0) hx hb dL_law_1650 (by decide) ?_
    refine law_cv (As := [.int (xs (i + 1)), .int (xs (i + 2)), .int 0]) (rest := []) hC hP hD hS hA hl.1 (rX10_link hpx) cwL_171 yvX10_link (va_recv (ci := 10) (q0 := 0) hC.2.2.2.2.2.1 (law_left hP) rfl (wk_at tb_0)) rfl rfl (Nat.le_of_ble_eq_true rfl) (rmL4 (by decide) (by decide)) dL_law_1651 (fun r1 w1 H locs h1 hP hD hS => ?_)
    refine lv_pop hx hb dL_law_1654 rfl ?_
    refine lv_aload_n hx hb dL_law_1655 rfl (lv_at hl 2 rfl) ?_
    refine law4_arg (k0 := 0) (k3 := 3) (i := i) (j := 1) hx hb hXs hbl hbA hS hL hl rfl rfl (by omega) (by decide) dL_law_1656 dL_law_1657 dL_law_1658 dL_law_1659 dL_law_1660 ?_
    refine law4_arg (k0 := 0) (k3 := 3) (i := i) (j := 2) hx hb hXs hbl hbA hS hL hl rfl rfl (by omega) (by decide) dL_law_1661 dL_law_1662 dL_law_1663 dL_law_1664 dL_law_1665 ?_
    refine law4_arg (k0 := 0) (k3 := 3) (i := i) (j := 3) hx hb hXs hbl hbA hS hL hl rfl rfl (by omega) (by decide) dL_law_1666 dL_law_1667 dL_law_1668 dL_law_1669 dL_law_1670 ?_
    refine lv_if_eq (tgt := 1678) hx hb dL_law_1671 (by decide) (fun _ => ?_) (fun c_1 => absurd hz3 c_1)
    refine lv_iconst (v := 0) hx hb dL_law_1678 (by decide) ?_
    have hP := e_swapP hP
    have hD := e_swapD hD
    rw [← hgg] at hP
    refine law_cv (As := [.int (xs (i + 1)), .int (xs (i + 2)), .int 0]) (rest := []) hC2 hP hD hS hA hl.1 (rX11_link hpm) cwL_174 yvX11_link (va_recv (ci := 11) (q0 := 0) hC2.2.2.2.2.2.1 (law_left hP) rfl (wk_at tb_300)) rfl rfl (Nat.le_of_ble_eq_true rfl) (rmL4 (by decide) (by decide)) dL_law_1679 (fun r2 w3 H locs h2 hP hD hS => ?_)
    have hP := e_swapP hP
    have hD := e_swapD hD
    rw [hgg] at hP
    refine lv_pop hx hb dL_law_1682 rfl ?_
    refine lv_goto (tgt := 2075) hx hb dL_law_1683 (by decide) ?_
    exact hend w1 w3 H locs h1 h2 hP hD hS
  · have hb3 : bz (xs (i + 3)) = 1 := if_neg hz3
    rw [hb3] at hpx hpm
    refine lv_aload_n hx hb dL_law_1627 rfl (lv_at hl 1 rfl) ?_
    refine law4_arg (k0 := 0) (k3 := 3) (i := i) (j := 1) hx hb hXs hbl hbA hS hL hl rfl rfl (by omega) (by decide) dL_law_1628 dL_law_1629 dL_law_1630 dL_law_1631 dL_law_1632 ?_
    refine law4_arg (k0 := 0) (k3 := 3) (i := i) (j := 2) hx hb hXs hbl hbA hS hL hl rfl rfl (by omega) (by decide) dL_law_1633 dL_law_1634 dL_law_1635 dL_law_1636 dL_law_1637 ?_
    refine law4_arg (k0 := 0) (k3 := 3) (i := i) (j := 3) hx hb hXs hbl hbA hS hL hl rfl rfl (by omega) (by decide) dL_law_1638 dL_law_1639 dL_law_1640 dL_law_1641 dL_law_1642 ?_
    refine lv_if_eq (tgt := 1650) hx hb dL_law_1643 (by decide) (fun c_1 => absurd c_1 hz3) (fun _ => ?_)
    refine lv_iconst (v := 1) hx hb dL_law_1646 (by decide) ?_
    refine lv_goto (tgt := 1651) hx hb dL_law_1647 (by decide) ?_
    refine law_cv (As := [.int (xs (i + 1)), .int (xs (i + 2)), .int 1]) (rest := []) hC hP hD hS hA hl.1 (rX10_link hpx) cwL_171 yvX10_link (va_recv (ci := 10) (q0 := 0) hC.2.2.2.2.2.1 (law_left hP) rfl (wk_at tb_0)) rfl rfl (Nat.le_of_ble_eq_true rfl) (rmL4 (by decide) (by decide)) dL_law_1651 (fun r1 w1 H locs h1 hP hD hS => ?_)
    refine lv_pop hx hb dL_law_1654 rfl ?_
    refine lv_aload_n hx hb dL_law_1655 rfl (lv_at hl 2 rfl) ?_
    refine law4_arg (k0 := 0) (k3 := 3) (i := i) (j := 1) hx hb hXs hbl hbA hS hL hl rfl rfl (by omega) (by decide) dL_law_1656 dL_law_1657 dL_law_1658 dL_law_1659 dL_law_1660 ?_
    refine law4_arg (k0 := 0) (k3 := 3) (i := i) (j := 2) hx hb hXs hbl hbA hS hL hl rfl rfl (by omega) (by decide) dL_law_1661 dL_law_1662 dL_law_1663 dL_law_1664 dL_law_1665 ?_
    refine law4_arg (k0 := 0) (k3 := 3) (i := i) (j := 3) hx hb hXs hbl hbA hS hL hl rfl rfl (by omega) (by decide) dL_law_1666 dL_law_1667 dL_law_1668 dL_law_1669 dL_law_1670 ?_
    refine lv_if_eq (tgt := 1678) hx hb dL_law_1671 (by decide) (fun c_1 => absurd c_1 hz3) (fun _ => ?_)
    refine lv_iconst (v := 1) hx hb dL_law_1674 (by decide) ?_
    refine lv_goto (tgt := 1679) hx hb dL_law_1675 (by decide) ?_
    have hP := e_swapP hP
    have hD := e_swapD hD
    rw [← hgg] at hP
    refine law_cv (As := [.int (xs (i + 1)), .int (xs (i + 2)), .int 1]) (rest := []) hC2 hP hD hS hA hl.1 (rX11_link hpm) cwL_174 yvX11_link (va_recv (ci := 11) (q0 := 0) hC2.2.2.2.2.2.1 (law_left hP) rfl (wk_at tb_300)) rfl rfl (Nat.le_of_ble_eq_true rfl) (rmL4 (by decide) (by decide)) dL_law_1679 (fun r2 w3 H locs h2 hP hD hS => ?_)
    have hP := e_swapP hP
    have hD := e_swapD hD
    rw [hgg] at hP
    refine lv_pop hx hb dL_law_1682 rfl ?_
    refine lv_goto (tgt := 2075) hx hb dL_law_1683 (by decide) ?_
    exact hend w1 w3 H locs h1 h2 hP hD hS
set_option maxHeartbeats 4000000 in
set_option maxRecDepth 100000 in
theorem case4_untell {p : Program} {l : Launch} {e : Env} {s : State} {m : MethodId} {below : List Frame} {meth : Method} {c : Code} {H : Heap} {locs : List Loc} {Q : State → Prop} {ls : Array Slot} {A : Nat → Prop} {g g2 : Gw} {w w2 : Wd} {b L i : Nat} {xs : Nat → Int32} {JX JM : Wd → Prop} (hLC : LC4 p s m c b L xs A g g2) (hi : i + 6 ≤ L) (hP : va_P g.1 vwCl (wsW tabX g w ++ wsW tabM g2 w2) H) (hD : va_D A (wsW tabX g w ++ wsW tabM g2 w2)) (hS : va_S A s.heap H locs) (hl : lv_has ls 4 (lvL4 b i g g2)) (hpx : pX10_untell (fun _ w1 => JX w1) (xs (i + 1)) w) (hpm : pX11_untell (fun _ w1 => JM w1) (xs (i + 1)) w2) (hend : ∀ (w1 w3 : Wd) (H : Heap) (locs : List Loc), JX w1 → JM w3 → va_P g.1 vwCl (wsW tabX g w1 ++ wsW tabM g2 w3) H → va_D A (wsW tabX g w1 ++ wsW tabM g2 w3) → va_S A s.heap H locs → W p l e room_1 s m #[.ref b] below meth c H locs 134 142488 Q (F0 m 2075 ls [])) : W p l e room_1 s m #[.ref b] below meth c H locs 134 142488 Q (F0 m 1686 ls []) := by
  obtain ⟨hC, hC2, hgg, hXs, hbl, hbA, hA, hL⟩ := hLC
  have hx := hC.1
  have hb := hC.2.1
  refine lv_aload_n hx hb dL_law_1686 rfl (lv_at hl 1 rfl) ?_
  refine law4_arg (k0 := 0) (k3 := 3) (i := i) (j := 1) hx hb hXs hbl hbA hS hL hl rfl rfl (by omega) (by decide) dL_law_1687 dL_law_1688 dL_law_1689 dL_law_1690 dL_law_1691 ?_
  refine law_cv (As := [.int (xs (i + 1))]) (rest := []) hC hP hD hS hA hl.1 (rX10_untell hpx) cwL_175 yvX10_untell (va_recv (ci := 10) (q0 := 0) hC.2.2.2.2.2.1 (law_left hP) rfl (wk_at tb_0)) rfl rfl (Nat.le_of_ble_eq_true rfl) (rmL4 (by decide) (by decide)) dL_law_1692 (fun r1 w1 H locs h1 hP hD hS => ?_)
  refine lv_pop hx hb dL_law_1695 rfl ?_
  refine lv_aload_n hx hb dL_law_1696 rfl (lv_at hl 2 rfl) ?_
  refine law4_arg (k0 := 0) (k3 := 3) (i := i) (j := 1) hx hb hXs hbl hbA hS hL hl rfl rfl (by omega) (by decide) dL_law_1697 dL_law_1698 dL_law_1699 dL_law_1700 dL_law_1701 ?_
  have hP := e_swapP hP
  have hD := e_swapD hD
  rw [← hgg] at hP
  refine law_cv (As := [.int (xs (i + 1))]) (rest := []) hC2 hP hD hS hA hl.1 (rX11_untell hpm) cwL_179 yvX11_untell (va_recv (ci := 11) (q0 := 0) hC2.2.2.2.2.2.1 (law_left hP) rfl (wk_at tb_300)) rfl rfl (Nat.le_of_ble_eq_true rfl) (rmL4 (by decide) (by decide)) dL_law_1702 (fun r2 w3 H locs h2 hP hD hS => ?_)
  have hP := e_swapP hP
  have hD := e_swapD hD
  rw [hgg] at hP
  refine lv_pop hx hb dL_law_1705 rfl ?_
  refine lv_goto (tgt := 2075) hx hb dL_law_1706 (by decide) ?_
  exact hend w1 w3 H locs h1 h2 hP hD hS
set_option maxHeartbeats 4000000 in
set_option maxRecDepth 100000 in
theorem case4_later {p : Program} {l : Launch} {e : Env} {s : State} {m : MethodId} {below : List Frame} {meth : Method} {c : Code} {H : Heap} {locs : List Loc} {Q : State → Prop} {ls : Array Slot} {A : Nat → Prop} {g g2 : Gw} {w w2 : Wd} {b L i : Nat} {xs : Nat → Int32} {JX JM : Wd → Prop} (hLC : LC4 p s m c b L xs A g g2) (hi : i + 6 ≤ L) (hP : va_P g.1 vwCl (wsW tabX g w ++ wsW tabM g2 w2) H) (hD : va_D A (wsW tabX g w ++ wsW tabM g2 w2)) (hS : va_S A s.heap H locs) (hl : lv_has ls 4 (lvL4 b i g g2)) (hpx : pX10_later (fun r w1 => pX11_later (fun r2 w3 => r2 = r ∧ JX w1 ∧ JM w3) (xs (i + 1)) w2) (xs (i + 1)) w) (hend : ∀ (w1 w3 : Wd) (H : Heap) (locs : List Loc), JX w1 → JM w3 → va_P g.1 vwCl (wsW tabX g w1 ++ wsW tabM g2 w3) H → va_D A (wsW tabX g w1 ++ wsW tabM g2 w3) → va_S A s.heap H locs → W p l e room_1 s m #[.ref b] below meth c H locs 134 142488 Q (F0 m 2075 ls [])) : W p l e room_1 s m #[.ref b] below meth c H locs 134 142488 Q (F0 m 1709 ls []) := by
  obtain ⟨hC, hC2, hgg, hXs, hbl, hbA, hA, hL⟩ := hLC
  have hx := hC.1
  have hb := hC.2.1
  refine lv_aload_n hx hb dL_law_1709 rfl (lv_at hl 1 rfl) ?_
  refine law4_arg (k0 := 0) (k3 := 3) (i := i) (j := 1) hx hb hXs hbl hbA hS hL hl rfl rfl (by omega) (by decide) dL_law_1710 dL_law_1711 dL_law_1712 dL_law_1713 dL_law_1714 ?_
  refine law_cv (As := [.int (xs (i + 1))]) (rest := []) hC hP hD hS hA hl.1 (rX10_later hpx) cwL_180 yvX10_later (va_recv (ci := 10) (q0 := 0) hC.2.2.2.2.2.1 (law_left hP) rfl (wk_at tb_0)) rfl rfl (Nat.le_of_ble_eq_true rfl) (rmL4 (by decide) (by decide)) dL_law_1715 (fun r1 w1 H locs h1 hP hD hS => ?_)
  refine lv_aload_n hx hb dL_law_1718 rfl (lv_at hl 2 rfl) ?_
  refine law4_arg (k0 := 0) (k3 := 3) (i := i) (j := 1) hx hb hXs hbl hbA hS hL hl rfl rfl (by omega) (by decide) dL_law_1719 dL_law_1720 dL_law_1721 dL_law_1722 dL_law_1723 ?_
  have hP := e_swapP hP
  have hD := e_swapD hD
  rw [← hgg] at hP
  refine law_cv (As := [.int (xs (i + 1))]) (rest := [.int r1]) hC2 hP hD hS hA hl.1 (rX11_later h1) cwL_183 yvX11_later (va_recv (ci := 11) (q0 := 0) hC2.2.2.2.2.2.1 (law_left hP) rfl (wk_at tb_300)) rfl rfl (Nat.le_of_ble_eq_true rfl) (rmL4 (by decide) (by decide)) dL_law_1724 (fun r2 w3 H locs h2 hP hD hS => ?_)
  have hP := e_swapP hP
  have hD := e_swapD hD
  rw [hgg] at hP
  refine lv_icmp_eq (tgt := 2075) hx hb dL_law_1727 (by decide) (fun _ => hend w1 w3 H locs h2.2.1 h2.2.2 hP hD hS) (fun c_1 => absurd h2.1.symm c_1)
set_option maxHeartbeats 4000000 in
set_option maxRecDepth 100000 in
theorem case4_tree {p : Program} {l : Launch} {e : Env} {s : State} {m : MethodId} {below : List Frame} {meth : Method} {c : Code} {H : Heap} {locs : List Loc} {Q : State → Prop} {ls : Array Slot} {A : Nat → Prop} {g g2 : Gw} {w w2 : Wd} {b L i : Nat} {xs : Nat → Int32} {JX JM : Wd → Prop} (hLC : LC4 p s m c b L xs A g g2) (hi : i + 6 ≤ L) (hP : va_P g.1 vwCl (wsW tabX g w ++ wsW tabM g2 w2) H) (hD : va_D A (wsW tabX g w ++ wsW tabM g2 w2)) (hS : va_S A s.heap H locs) (hl : lv_has ls 4 (lvL4 b i g g2)) (hpx : pX10_tree (fun _ w1 => JX w1) (xs (i + 1)) (xs (i + 2)) (xs (i + 3)) w) (hpm : pX11_tree (fun _ w1 => JM w1) (xs (i + 1)) (xs (i + 2)) (xs (i + 3)) w2) (hend : ∀ (w1 w3 : Wd) (H : Heap) (locs : List Loc), JX w1 → JM w3 → va_P g.1 vwCl (wsW tabX g w1 ++ wsW tabM g2 w3) H → va_D A (wsW tabX g w1 ++ wsW tabM g2 w3) → va_S A s.heap H locs → W p l e room_1 s m #[.ref b] below meth c H locs 134 142488 Q (F0 m 2075 ls [])) : W p l e room_1 s m #[.ref b] below meth c H locs 134 142488 Q (F0 m 1732 ls []) := by
  obtain ⟨hC, hC2, hgg, hXs, hbl, hbA, hA, hL⟩ := hLC
  have hx := hC.1
  have hb := hC.2.1
  refine lv_aload_n hx hb dL_law_1732 rfl (lv_at hl 1 rfl) ?_
  refine law4_arg (k0 := 0) (k3 := 3) (i := i) (j := 1) hx hb hXs hbl hbA hS hL hl rfl rfl (by omega) (by decide) dL_law_1733 dL_law_1734 dL_law_1735 dL_law_1736 dL_law_1737 ?_
  refine law4_arg (k0 := 0) (k3 := 3) (i := i) (j := 2) hx hb hXs hbl hbA hS hL hl rfl rfl (by omega) (by decide) dL_law_1738 dL_law_1739 dL_law_1740 dL_law_1741 dL_law_1742 ?_
  refine law4_arg (k0 := 0) (k3 := 3) (i := i) (j := 3) hx hb hXs hbl hbA hS hL hl rfl rfl (by omega) (by decide) dL_law_1743 dL_law_1744 dL_law_1745 dL_law_1746 dL_law_1747 ?_
  refine law_cv (As := [.int (xs (i + 1)), .int (xs (i + 2)), .int (xs (i + 3))]) (rest := []) hC hP hD hS hA hl.1 (rX10_tree hpx) cwL_184 yvX10_tree (va_recv (ci := 10) (q0 := 0) hC.2.2.2.2.2.1 (law_left hP) rfl (wk_at tb_0)) rfl rfl (Nat.le_of_ble_eq_true rfl) (rmL4 (by decide) (by decide)) dL_law_1748 (fun r1 w1 H locs h1 hP hD hS => ?_)
  refine lv_pop hx hb dL_law_1751 rfl ?_
  refine lv_aload_n hx hb dL_law_1752 rfl (lv_at hl 2 rfl) ?_
  refine law4_arg (k0 := 0) (k3 := 3) (i := i) (j := 1) hx hb hXs hbl hbA hS hL hl rfl rfl (by omega) (by decide) dL_law_1753 dL_law_1754 dL_law_1755 dL_law_1756 dL_law_1757 ?_
  refine law4_arg (k0 := 0) (k3 := 3) (i := i) (j := 2) hx hb hXs hbl hbA hS hL hl rfl rfl (by omega) (by decide) dL_law_1758 dL_law_1759 dL_law_1760 dL_law_1761 dL_law_1762 ?_
  refine law4_arg (k0 := 0) (k3 := 3) (i := i) (j := 3) hx hb hXs hbl hbA hS hL hl rfl rfl (by omega) (by decide) dL_law_1763 dL_law_1764 dL_law_1765 dL_law_1766 dL_law_1767 ?_
  have hP := e_swapP hP
  have hD := e_swapD hD
  rw [← hgg] at hP
  refine law_cv (As := [.int (xs (i + 1)), .int (xs (i + 2)), .int (xs (i + 3))]) (rest := []) hC2 hP hD hS hA hl.1 (rX11_tree hpm) cwL_187 yvX11_tree (va_recv (ci := 11) (q0 := 0) hC2.2.2.2.2.2.1 (law_left hP) rfl (wk_at tb_300)) rfl rfl (Nat.le_of_ble_eq_true rfl) (rmL4 (by decide) (by decide)) dL_law_1768 (fun r2 w3 H locs h2 hP hD hS => ?_)
  have hP := e_swapP hP
  have hD := e_swapD hD
  rw [hgg] at hP
  refine lv_pop hx hb dL_law_1771 rfl ?_
  refine lv_goto (tgt := 2075) hx hb dL_law_1772 (by decide) ?_
  exact hend w1 w3 H locs h1 h2 hP hD hS
set_option maxHeartbeats 4000000 in
set_option maxRecDepth 100000 in
theorem case4_centre {p : Program} {l : Launch} {e : Env} {s : State} {m : MethodId} {below : List Frame} {meth : Method} {c : Code} {H : Heap} {locs : List Loc} {Q : State → Prop} {ls : Array Slot} {A : Nat → Prop} {g g2 : Gw} {w w2 : Wd} {b L i : Nat} {xs : Nat → Int32} {JX JM : Wd → Prop} (hLC : LC4 p s m c b L xs A g g2) (hi : i + 6 ≤ L) (hP : va_P g.1 vwCl (wsW tabX g w ++ wsW tabM g2 w2) H) (hD : va_D A (wsW tabX g w ++ wsW tabM g2 w2)) (hS : va_S A s.heap H locs) (hl : lv_has ls 4 (lvL4 b i g g2)) (hpx : pX10_centre (fun _ w1 => JX w1) (xs (i + 1)) (xs (i + 2)) w) (hpm : pX11_centre (fun _ w1 => JM w1) (xs (i + 1)) (xs (i + 2)) w2) (hend : ∀ (w1 w3 : Wd) (H : Heap) (locs : List Loc), JX w1 → JM w3 → va_P g.1 vwCl (wsW tabX g w1 ++ wsW tabM g2 w3) H → va_D A (wsW tabX g w1 ++ wsW tabM g2 w3) → va_S A s.heap H locs → W p l e room_1 s m #[.ref b] below meth c H locs 134 142488 Q (F0 m 2075 ls [])) : W p l e room_1 s m #[.ref b] below meth c H locs 134 142488 Q (F0 m 1775 ls []) := by
  obtain ⟨hC, hC2, hgg, hXs, hbl, hbA, hA, hL⟩ := hLC
  have hx := hC.1
  have hb := hC.2.1
  refine lv_aload_n hx hb dL_law_1775 rfl (lv_at hl 1 rfl) ?_
  refine law4_arg (k0 := 0) (k3 := 3) (i := i) (j := 1) hx hb hXs hbl hbA hS hL hl rfl rfl (by omega) (by decide) dL_law_1776 dL_law_1777 dL_law_1778 dL_law_1779 dL_law_1780 ?_
  refine law4_arg (k0 := 0) (k3 := 3) (i := i) (j := 2) hx hb hXs hbl hbA hS hL hl rfl rfl (by omega) (by decide) dL_law_1781 dL_law_1782 dL_law_1783 dL_law_1784 dL_law_1785 ?_
  refine law_cv (As := [.int (xs (i + 1)), .int (xs (i + 2))]) (rest := []) hC hP hD hS hA hl.1 (rX10_centre hpx) cwL_188 yvX10_centre (va_recv (ci := 10) (q0 := 0) hC.2.2.2.2.2.1 (law_left hP) rfl (wk_at tb_0)) rfl rfl (Nat.le_of_ble_eq_true rfl) (rmL4 (by decide) (by decide)) dL_law_1786 (fun r1 w1 H locs h1 hP hD hS => ?_)
  refine lv_pop hx hb dL_law_1789 rfl ?_
  refine lv_aload_n hx hb dL_law_1790 rfl (lv_at hl 2 rfl) ?_
  refine law4_arg (k0 := 0) (k3 := 3) (i := i) (j := 1) hx hb hXs hbl hbA hS hL hl rfl rfl (by omega) (by decide) dL_law_1791 dL_law_1792 dL_law_1793 dL_law_1794 dL_law_1795 ?_
  refine law4_arg (k0 := 0) (k3 := 3) (i := i) (j := 2) hx hb hXs hbl hbA hS hL hl rfl rfl (by omega) (by decide) dL_law_1796 dL_law_1797 dL_law_1798 dL_law_1799 dL_law_1800 ?_
  have hP := e_swapP hP
  have hD := e_swapD hD
  rw [← hgg] at hP
  refine law_cv (As := [.int (xs (i + 1)), .int (xs (i + 2))]) (rest := []) hC2 hP hD hS hA hl.1 (rX11_centre hpm) cwL_191 yvX11_centre (va_recv (ci := 11) (q0 := 0) hC2.2.2.2.2.2.1 (law_left hP) rfl (wk_at tb_300)) rfl rfl (Nat.le_of_ble_eq_true rfl) (rmL4 (by decide) (by decide)) dL_law_1801 (fun r2 w3 H locs h2 hP hD hS => ?_)
  have hP := e_swapP hP
  have hD := e_swapD hD
  rw [hgg] at hP
  refine lv_pop hx hb dL_law_1804 rfl ?_
  refine lv_goto (tgt := 2075) hx hb dL_law_1805 (by decide) ?_
  exact hend w1 w3 H locs h1 h2 hP hD hS
set_option maxHeartbeats 4000000 in
set_option maxRecDepth 100000 in
theorem case4_clans {p : Program} {l : Launch} {e : Env} {s : State} {m : MethodId} {below : List Frame} {meth : Method} {c : Code} {H : Heap} {locs : List Loc} {Q : State → Prop} {ls : Array Slot} {A : Nat → Prop} {g g2 : Gw} {w w2 : Wd} {b L i : Nat} {xs : Nat → Int32} {JX JM : Wd → Prop} (hLC : LC4 p s m c b L xs A g g2) (hi : i + 6 ≤ L) (hP : va_P g.1 vwCl (wsW tabX g w ++ wsW tabM g2 w2) H) (hD : va_D A (wsW tabX g w ++ wsW tabM g2 w2)) (hS : va_S A s.heap H locs) (hl : lv_has ls 4 (lvL4 b i g g2)) (hpx : pX10_clans (fun _ w1 => JX w1) (xs (i + 1)) (xs (i + 2)) (xs (i + 3)) w) (hpm : pX11_clans (fun _ w1 => JM w1) (xs (i + 1)) (xs (i + 2)) (xs (i + 3)) w2) (hend : ∀ (w1 w3 : Wd) (H : Heap) (locs : List Loc), JX w1 → JM w3 → va_P g.1 vwCl (wsW tabX g w1 ++ wsW tabM g2 w3) H → va_D A (wsW tabX g w1 ++ wsW tabM g2 w3) → va_S A s.heap H locs → W p l e room_1 s m #[.ref b] below meth c H locs 134 142488 Q (F0 m 2075 ls [])) : W p l e room_1 s m #[.ref b] below meth c H locs 134 142488 Q (F0 m 1808 ls []) := by
  obtain ⟨hC, hC2, hgg, hXs, hbl, hbA, hA, hL⟩ := hLC
  have hx := hC.1
  have hb := hC.2.1
  refine lv_aload_n hx hb dL_law_1808 rfl (lv_at hl 1 rfl) ?_
  refine law4_arg (k0 := 0) (k3 := 3) (i := i) (j := 1) hx hb hXs hbl hbA hS hL hl rfl rfl (by omega) (by decide) dL_law_1809 dL_law_1810 dL_law_1811 dL_law_1812 dL_law_1813 ?_
  refine law4_arg (k0 := 0) (k3 := 3) (i := i) (j := 2) hx hb hXs hbl hbA hS hL hl rfl rfl (by omega) (by decide) dL_law_1814 dL_law_1815 dL_law_1816 dL_law_1817 dL_law_1818 ?_
  refine law4_arg (k0 := 0) (k3 := 3) (i := i) (j := 3) hx hb hXs hbl hbA hS hL hl rfl rfl (by omega) (by decide) dL_law_1819 dL_law_1820 dL_law_1821 dL_law_1822 dL_law_1823 ?_
  refine law_cv (As := [.int (xs (i + 1)), .int (xs (i + 2)), .int (xs (i + 3))]) (rest := []) hC hP hD hS hA hl.1 (rX10_clans hpx) cwL_192 yvX10_clans (va_recv (ci := 10) (q0 := 0) hC.2.2.2.2.2.1 (law_left hP) rfl (wk_at tb_0)) rfl rfl (Nat.le_of_ble_eq_true rfl) (rmL4 (by decide) (by decide)) dL_law_1824 (fun r1 w1 H locs h1 hP hD hS => ?_)
  refine lv_pop hx hb dL_law_1827 rfl ?_
  refine lv_aload_n hx hb dL_law_1828 rfl (lv_at hl 2 rfl) ?_
  refine law4_arg (k0 := 0) (k3 := 3) (i := i) (j := 1) hx hb hXs hbl hbA hS hL hl rfl rfl (by omega) (by decide) dL_law_1829 dL_law_1830 dL_law_1831 dL_law_1832 dL_law_1833 ?_
  refine law4_arg (k0 := 0) (k3 := 3) (i := i) (j := 2) hx hb hXs hbl hbA hS hL hl rfl rfl (by omega) (by decide) dL_law_1834 dL_law_1835 dL_law_1836 dL_law_1837 dL_law_1838 ?_
  refine law4_arg (k0 := 0) (k3 := 3) (i := i) (j := 3) hx hb hXs hbl hbA hS hL hl rfl rfl (by omega) (by decide) dL_law_1839 dL_law_1840 dL_law_1841 dL_law_1842 dL_law_1843 ?_
  have hP := e_swapP hP
  have hD := e_swapD hD
  rw [← hgg] at hP
  refine law_cv (As := [.int (xs (i + 1)), .int (xs (i + 2)), .int (xs (i + 3))]) (rest := []) hC2 hP hD hS hA hl.1 (rX11_clans hpm) cwL_195 yvX11_clans (va_recv (ci := 11) (q0 := 0) hC2.2.2.2.2.2.1 (law_left hP) rfl (wk_at tb_300)) rfl rfl (Nat.le_of_ble_eq_true rfl) (rmL4 (by decide) (by decide)) dL_law_1844 (fun r2 w3 H locs h2 hP hD hS => ?_)
  have hP := e_swapP hP
  have hD := e_swapD hD
  rw [hgg] at hP
  refine lv_pop hx hb dL_law_1847 rfl ?_
  refine lv_goto (tgt := 2075) hx hb dL_law_1848 (by decide) ?_
  exact hend w1 w3 H locs h1 h2 hP hD hS
set_option maxHeartbeats 4000000 in
set_option maxRecDepth 100000 in
theorem case4_origin {p : Program} {l : Launch} {e : Env} {s : State} {m : MethodId} {below : List Frame} {meth : Method} {c : Code} {H : Heap} {locs : List Loc} {Q : State → Prop} {ls : Array Slot} {A : Nat → Prop} {g g2 : Gw} {w w2 : Wd} {b L i : Nat} {xs : Nat → Int32} {JX JM : Wd → Prop} (hLC : LC4 p s m c b L xs A g g2) (hi : i + 6 ≤ L) (hP : va_P g.1 vwCl (wsW tabX g w ++ wsW tabM g2 w2) H) (hD : va_D A (wsW tabX g w ++ wsW tabM g2 w2)) (hS : va_S A s.heap H locs) (hl : lv_has ls 4 (lvL4 b i g g2)) (hpx : pX10_origin (fun _ w1 => JX w1) (xs (i + 1)) (xs (i + 2)) w) (hpm : pX11_origin (fun _ w1 => JM w1) (xs (i + 1)) (xs (i + 2)) w2) (hend : ∀ (w1 w3 : Wd) (H : Heap) (locs : List Loc), JX w1 → JM w3 → va_P g.1 vwCl (wsW tabX g w1 ++ wsW tabM g2 w3) H → va_D A (wsW tabX g w1 ++ wsW tabM g2 w3) → va_S A s.heap H locs → W p l e room_1 s m #[.ref b] below meth c H locs 134 142488 Q (F0 m 2075 ls [])) : W p l e room_1 s m #[.ref b] below meth c H locs 134 142488 Q (F0 m 1851 ls []) := by
  obtain ⟨hC, hC2, hgg, hXs, hbl, hbA, hA, hL⟩ := hLC
  have hx := hC.1
  have hb := hC.2.1
  refine lv_aload_n hx hb dL_law_1851 rfl (lv_at hl 1 rfl) ?_
  refine law4_arg (k0 := 0) (k3 := 3) (i := i) (j := 1) hx hb hXs hbl hbA hS hL hl rfl rfl (by omega) (by decide) dL_law_1852 dL_law_1853 dL_law_1854 dL_law_1855 dL_law_1856 ?_
  refine law4_arg (k0 := 0) (k3 := 3) (i := i) (j := 2) hx hb hXs hbl hbA hS hL hl rfl rfl (by omega) (by decide) dL_law_1857 dL_law_1858 dL_law_1859 dL_law_1860 dL_law_1861 ?_
  refine law_cv (As := [.int (xs (i + 1)), .int (xs (i + 2))]) (rest := []) hC hP hD hS hA hl.1 (rX10_origin hpx) cwL_196 yvX10_origin (va_recv (ci := 10) (q0 := 0) hC.2.2.2.2.2.1 (law_left hP) rfl (wk_at tb_0)) rfl rfl (Nat.le_of_ble_eq_true rfl) (rmL4 (by decide) (by decide)) dL_law_1862 (fun r1 w1 H locs h1 hP hD hS => ?_)
  refine lv_pop hx hb dL_law_1865 rfl ?_
  refine lv_aload_n hx hb dL_law_1866 rfl (lv_at hl 2 rfl) ?_
  refine law4_arg (k0 := 0) (k3 := 3) (i := i) (j := 1) hx hb hXs hbl hbA hS hL hl rfl rfl (by omega) (by decide) dL_law_1867 dL_law_1868 dL_law_1869 dL_law_1870 dL_law_1871 ?_
  refine law4_arg (k0 := 0) (k3 := 3) (i := i) (j := 2) hx hb hXs hbl hbA hS hL hl rfl rfl (by omega) (by decide) dL_law_1872 dL_law_1873 dL_law_1874 dL_law_1875 dL_law_1876 ?_
  have hP := e_swapP hP
  have hD := e_swapD hD
  rw [← hgg] at hP
  refine law_cv (As := [.int (xs (i + 1)), .int (xs (i + 2))]) (rest := []) hC2 hP hD hS hA hl.1 (rX11_origin hpm) cwL_199 yvX11_origin (va_recv (ci := 11) (q0 := 0) hC2.2.2.2.2.2.1 (law_left hP) rfl (wk_at tb_300)) rfl rfl (Nat.le_of_ble_eq_true rfl) (rmL4 (by decide) (by decide)) dL_law_1877 (fun r2 w3 H locs h2 hP hD hS => ?_)
  have hP := e_swapP hP
  have hD := e_swapD hD
  rw [hgg] at hP
  refine lv_pop hx hb dL_law_1880 rfl ?_
  refine lv_goto (tgt := 2075) hx hb dL_law_1881 (by decide) ?_
  exact hend w1 w3 H locs h1 h2 hP hD hS
set_option maxHeartbeats 4000000 in
set_option maxRecDepth 100000 in
theorem case4_falses {p : Program} {l : Launch} {e : Env} {s : State} {m : MethodId} {below : List Frame} {meth : Method} {c : Code} {H : Heap} {locs : List Loc} {Q : State → Prop} {ls : Array Slot} {A : Nat → Prop} {g g2 : Gw} {w w2 : Wd} {b L i : Nat} {xs : Nat → Int32} {JX JM : Wd → Prop} (hLC : LC4 p s m c b L xs A g g2) (hi : i + 6 ≤ L) (hP : va_P g.1 vwCl (wsW tabX g w ++ wsW tabM g2 w2) H) (hD : va_D A (wsW tabX g w ++ wsW tabM g2 w2)) (hS : va_S A s.heap H locs) (hl : lv_has ls 4 (lvL4 b i g g2)) (hpx : pX10_falses (fun _ w1 => JX w1) (xs (i + 1)) w) (hpm : pX11_falses (fun _ w1 => JM w1) (xs (i + 1)) w2) (hend : ∀ (w1 w3 : Wd) (H : Heap) (locs : List Loc), JX w1 → JM w3 → va_P g.1 vwCl (wsW tabX g w1 ++ wsW tabM g2 w3) H → va_D A (wsW tabX g w1 ++ wsW tabM g2 w3) → va_S A s.heap H locs → W p l e room_1 s m #[.ref b] below meth c H locs 134 142488 Q (F0 m 2075 ls [])) : W p l e room_1 s m #[.ref b] below meth c H locs 134 142488 Q (F0 m 1884 ls []) := by
  obtain ⟨hC, hC2, hgg, hXs, hbl, hbA, hA, hL⟩ := hLC
  have hx := hC.1
  have hb := hC.2.1
  refine lv_aload_n hx hb dL_law_1884 rfl (lv_at hl 1 rfl) ?_
  refine law4_arg (k0 := 0) (k3 := 3) (i := i) (j := 1) hx hb hXs hbl hbA hS hL hl rfl rfl (by omega) (by decide) dL_law_1885 dL_law_1886 dL_law_1887 dL_law_1888 dL_law_1889 ?_
  refine law_cv (As := [.int (xs (i + 1))]) (rest := []) hC hP hD hS hA hl.1 (rX10_falses hpx) cwL_200 yvX10_falses (va_recv (ci := 10) (q0 := 0) hC.2.2.2.2.2.1 (law_left hP) rfl (wk_at tb_0)) rfl rfl (Nat.le_of_ble_eq_true rfl) (rmL4 (by decide) (by decide)) dL_law_1890 (fun r1 w1 H locs h1 hP hD hS => ?_)
  refine lv_pop hx hb dL_law_1893 rfl ?_
  refine lv_aload_n hx hb dL_law_1894 rfl (lv_at hl 2 rfl) ?_
  refine law4_arg (k0 := 0) (k3 := 3) (i := i) (j := 1) hx hb hXs hbl hbA hS hL hl rfl rfl (by omega) (by decide) dL_law_1895 dL_law_1896 dL_law_1897 dL_law_1898 dL_law_1899 ?_
  have hP := e_swapP hP
  have hD := e_swapD hD
  rw [← hgg] at hP
  refine law_cv (As := [.int (xs (i + 1))]) (rest := []) hC2 hP hD hS hA hl.1 (rX11_falses hpm) cwL_203 yvX11_falses (va_recv (ci := 11) (q0 := 0) hC2.2.2.2.2.2.1 (law_left hP) rfl (wk_at tb_300)) rfl rfl (Nat.le_of_ble_eq_true rfl) (rmL4 (by decide) (by decide)) dL_law_1900 (fun r2 w3 H locs h2 hP hD hS => ?_)
  have hP := e_swapP hP
  have hD := e_swapD hD
  rw [hgg] at hP
  refine lv_pop hx hb dL_law_1903 rfl ?_
  refine lv_goto (tgt := 2075) hx hb dL_law_1904 (by decide) ?_
  exact hend w1 w3 H locs h1 h2 hP hD hS
set_option maxHeartbeats 4000000 in
set_option maxRecDepth 100000 in
theorem case4_span {p : Program} {l : Launch} {e : Env} {s : State} {m : MethodId} {below : List Frame} {meth : Method} {c : Code} {H : Heap} {locs : List Loc} {Q : State → Prop} {ls : Array Slot} {A : Nat → Prop} {g g2 : Gw} {w w2 : Wd} {b L i : Nat} {xs : Nat → Int32} {JX JM : Wd → Prop} (hLC : LC4 p s m c b L xs A g g2) (hi : i + 6 ≤ L) (hP : va_P g.1 vwCl (wsW tabX g w ++ wsW tabM g2 w2) H) (hD : va_D A (wsW tabX g w ++ wsW tabM g2 w2)) (hS : va_S A s.heap H locs) (hl : lv_has ls 4 (lvL4 b i g g2)) (hpx : pX10_span (fun _ w1 => JX w1) (xs (i + 1)) (xs (i + 2)) (xs (i + 3)) w) (hpm : pX11_span (fun _ w1 => JM w1) (xs (i + 1)) (xs (i + 2)) (xs (i + 3)) w2) (hend : ∀ (w1 w3 : Wd) (H : Heap) (locs : List Loc), JX w1 → JM w3 → va_P g.1 vwCl (wsW tabX g w1 ++ wsW tabM g2 w3) H → va_D A (wsW tabX g w1 ++ wsW tabM g2 w3) → va_S A s.heap H locs → W p l e room_1 s m #[.ref b] below meth c H locs 134 142488 Q (F0 m 2075 ls [])) : W p l e room_1 s m #[.ref b] below meth c H locs 134 142488 Q (F0 m 1907 ls []) := by
  obtain ⟨hC, hC2, hgg, hXs, hbl, hbA, hA, hL⟩ := hLC
  have hx := hC.1
  have hb := hC.2.1
  refine lv_aload_n hx hb dL_law_1907 rfl (lv_at hl 1 rfl) ?_
  refine law4_arg (k0 := 0) (k3 := 3) (i := i) (j := 1) hx hb hXs hbl hbA hS hL hl rfl rfl (by omega) (by decide) dL_law_1908 dL_law_1909 dL_law_1910 dL_law_1911 dL_law_1912 ?_
  refine law4_arg (k0 := 0) (k3 := 3) (i := i) (j := 2) hx hb hXs hbl hbA hS hL hl rfl rfl (by omega) (by decide) dL_law_1913 dL_law_1914 dL_law_1915 dL_law_1916 dL_law_1917 ?_
  refine law4_arg (k0 := 0) (k3 := 3) (i := i) (j := 3) hx hb hXs hbl hbA hS hL hl rfl rfl (by omega) (by decide) dL_law_1918 dL_law_1919 dL_law_1920 dL_law_1921 dL_law_1922 ?_
  refine law_cv (As := [.int (xs (i + 1)), .int (xs (i + 2)), .int (xs (i + 3))]) (rest := []) hC hP hD hS hA hl.1 (rX10_span hpx) cwL_204 yvX10_span (va_recv (ci := 10) (q0 := 0) hC.2.2.2.2.2.1 (law_left hP) rfl (wk_at tb_0)) rfl rfl (Nat.le_of_ble_eq_true rfl) (rmL4 (by decide) (by decide)) dL_law_1923 (fun r1 w1 H locs h1 hP hD hS => ?_)
  refine lv_pop hx hb dL_law_1926 rfl ?_
  refine lv_aload_n hx hb dL_law_1927 rfl (lv_at hl 2 rfl) ?_
  refine law4_arg (k0 := 0) (k3 := 3) (i := i) (j := 1) hx hb hXs hbl hbA hS hL hl rfl rfl (by omega) (by decide) dL_law_1928 dL_law_1929 dL_law_1930 dL_law_1931 dL_law_1932 ?_
  refine law4_arg (k0 := 0) (k3 := 3) (i := i) (j := 2) hx hb hXs hbl hbA hS hL hl rfl rfl (by omega) (by decide) dL_law_1933 dL_law_1934 dL_law_1935 dL_law_1936 dL_law_1937 ?_
  refine law4_arg (k0 := 0) (k3 := 3) (i := i) (j := 3) hx hb hXs hbl hbA hS hL hl rfl rfl (by omega) (by decide) dL_law_1938 dL_law_1939 dL_law_1940 dL_law_1941 dL_law_1942 ?_
  have hP := e_swapP hP
  have hD := e_swapD hD
  rw [← hgg] at hP
  refine law_cv (As := [.int (xs (i + 1)), .int (xs (i + 2)), .int (xs (i + 3))]) (rest := []) hC2 hP hD hS hA hl.1 (rX11_span hpm) cwL_207 yvX11_span (va_recv (ci := 11) (q0 := 0) hC2.2.2.2.2.2.1 (law_left hP) rfl (wk_at tb_300)) rfl rfl (Nat.le_of_ble_eq_true rfl) (rmL4 (by decide) (by decide)) dL_law_1943 (fun r2 w3 H locs h2 hP hD hS => ?_)
  have hP := e_swapP hP
  have hD := e_swapD hD
  rw [hgg] at hP
  refine lv_pop hx hb dL_law_1946 rfl ?_
  refine lv_goto (tgt := 2075) hx hb dL_law_1947 (by decide) ?_
  exact hend w1 w3 H locs h1 h2 hP hD hS
set_option maxHeartbeats 4000000 in
set_option maxRecDepth 100000 in
theorem case4_backward {p : Program} {l : Launch} {e : Env} {s : State} {m : MethodId} {below : List Frame} {meth : Method} {c : Code} {H : Heap} {locs : List Loc} {Q : State → Prop} {ls : Array Slot} {A : Nat → Prop} {g g2 : Gw} {w w2 : Wd} {b L i : Nat} {xs : Nat → Int32} {JX JM : Wd → Prop} (hLC : LC4 p s m c b L xs A g g2) (hi : i + 6 ≤ L) (hP : va_P g.1 vwCl (wsW tabX g w ++ wsW tabM g2 w2) H) (hD : va_D A (wsW tabX g w ++ wsW tabM g2 w2)) (hS : va_S A s.heap H locs) (hl : lv_has ls 4 (lvL4 b i g g2)) (hpx : pX10_backward (fun _ w1 => JX w1) (xs (i + 1)) (xs (i + 2)) w) (hpm : pX11_backward (fun _ w1 => JM w1) (xs (i + 1)) (xs (i + 2)) w2) (hend : ∀ (w1 w3 : Wd) (H : Heap) (locs : List Loc), JX w1 → JM w3 → va_P g.1 vwCl (wsW tabX g w1 ++ wsW tabM g2 w3) H → va_D A (wsW tabX g w1 ++ wsW tabM g2 w3) → va_S A s.heap H locs → W p l e room_1 s m #[.ref b] below meth c H locs 134 142488 Q (F0 m 2075 ls [])) : W p l e room_1 s m #[.ref b] below meth c H locs 134 142488 Q (F0 m 1950 ls []) := by
  obtain ⟨hC, hC2, hgg, hXs, hbl, hbA, hA, hL⟩ := hLC
  have hx := hC.1
  have hb := hC.2.1
  refine lv_aload_n hx hb dL_law_1950 rfl (lv_at hl 1 rfl) ?_
  refine law4_arg (k0 := 0) (k3 := 3) (i := i) (j := 1) hx hb hXs hbl hbA hS hL hl rfl rfl (by omega) (by decide) dL_law_1951 dL_law_1952 dL_law_1953 dL_law_1954 dL_law_1955 ?_
  refine law4_arg (k0 := 0) (k3 := 3) (i := i) (j := 2) hx hb hXs hbl hbA hS hL hl rfl rfl (by omega) (by decide) dL_law_1956 dL_law_1957 dL_law_1958 dL_law_1959 dL_law_1960 ?_
  refine law_cv (As := [.int (xs (i + 1)), .int (xs (i + 2))]) (rest := []) hC hP hD hS hA hl.1 (rX10_backward hpx) cwL_208 yvX10_backward (va_recv (ci := 10) (q0 := 0) hC.2.2.2.2.2.1 (law_left hP) rfl (wk_at tb_0)) rfl rfl (Nat.le_of_ble_eq_true rfl) (rmL4 (by decide) (by decide)) dL_law_1961 (fun r1 w1 H locs h1 hP hD hS => ?_)
  refine lv_pop hx hb dL_law_1964 rfl ?_
  refine lv_aload_n hx hb dL_law_1965 rfl (lv_at hl 2 rfl) ?_
  refine law4_arg (k0 := 0) (k3 := 3) (i := i) (j := 1) hx hb hXs hbl hbA hS hL hl rfl rfl (by omega) (by decide) dL_law_1966 dL_law_1967 dL_law_1968 dL_law_1969 dL_law_1970 ?_
  refine law4_arg (k0 := 0) (k3 := 3) (i := i) (j := 2) hx hb hXs hbl hbA hS hL hl rfl rfl (by omega) (by decide) dL_law_1971 dL_law_1972 dL_law_1973 dL_law_1974 dL_law_1975 ?_
  have hP := e_swapP hP
  have hD := e_swapD hD
  rw [← hgg] at hP
  refine law_cv (As := [.int (xs (i + 1)), .int (xs (i + 2))]) (rest := []) hC2 hP hD hS hA hl.1 (rX11_backward hpm) cwL_211 yvX11_backward (va_recv (ci := 11) (q0 := 0) hC2.2.2.2.2.2.1 (law_left hP) rfl (wk_at tb_300)) rfl rfl (Nat.le_of_ble_eq_true rfl) (rmL4 (by decide) (by decide)) dL_law_1976 (fun r2 w3 H locs h2 hP hD hS => ?_)
  have hP := e_swapP hP
  have hD := e_swapD hD
  rw [hgg] at hP
  refine lv_pop hx hb dL_law_1979 rfl ?_
  refine lv_goto (tgt := 2075) hx hb dL_law_1980 (by decide) ?_
  exact hend w1 w3 H locs h1 h2 hP hD hS
set_option maxHeartbeats 4000000 in
set_option maxRecDepth 100000 in
theorem case4_lies {p : Program} {l : Launch} {e : Env} {s : State} {m : MethodId} {below : List Frame} {meth : Method} {c : Code} {H : Heap} {locs : List Loc} {Q : State → Prop} {ls : Array Slot} {A : Nat → Prop} {g g2 : Gw} {w w2 : Wd} {b L i : Nat} {xs : Nat → Int32} {JX JM : Wd → Prop} (hLC : LC4 p s m c b L xs A g g2) (hi : i + 6 ≤ L) (hP : va_P g.1 vwCl (wsW tabX g w ++ wsW tabM g2 w2) H) (hD : va_D A (wsW tabX g w ++ wsW tabM g2 w2)) (hS : va_S A s.heap H locs) (hl : lv_has ls 4 (lvL4 b i g g2)) (hpx : pX10_lies (fun _ w1 => JX w1) (xs (i + 1)) w) (hpm : pX11_lies (fun _ w1 => JM w1) (xs (i + 1)) w2) (hend : ∀ (w1 w3 : Wd) (H : Heap) (locs : List Loc), JX w1 → JM w3 → va_P g.1 vwCl (wsW tabX g w1 ++ wsW tabM g2 w3) H → va_D A (wsW tabX g w1 ++ wsW tabM g2 w3) → va_S A s.heap H locs → W p l e room_1 s m #[.ref b] below meth c H locs 134 142488 Q (F0 m 2075 ls [])) : W p l e room_1 s m #[.ref b] below meth c H locs 134 142488 Q (F0 m 1983 ls []) := by
  obtain ⟨hC, hC2, hgg, hXs, hbl, hbA, hA, hL⟩ := hLC
  have hx := hC.1
  have hb := hC.2.1
  refine lv_aload_n hx hb dL_law_1983 rfl (lv_at hl 1 rfl) ?_
  refine law4_arg (k0 := 0) (k3 := 3) (i := i) (j := 1) hx hb hXs hbl hbA hS hL hl rfl rfl (by omega) (by decide) dL_law_1984 dL_law_1985 dL_law_1986 dL_law_1987 dL_law_1988 ?_
  refine law_cv (As := [.int (xs (i + 1))]) (rest := []) hC hP hD hS hA hl.1 (rX10_lies hpx) cwL_212 yvX10_lies (va_recv (ci := 10) (q0 := 0) hC.2.2.2.2.2.1 (law_left hP) rfl (wk_at tb_0)) rfl rfl (Nat.le_of_ble_eq_true rfl) (rmL4 (by decide) (by decide)) dL_law_1989 (fun r1 w1 H locs h1 hP hD hS => ?_)
  refine lv_pop hx hb dL_law_1992 rfl ?_
  refine lv_aload_n hx hb dL_law_1993 rfl (lv_at hl 2 rfl) ?_
  refine law4_arg (k0 := 0) (k3 := 3) (i := i) (j := 1) hx hb hXs hbl hbA hS hL hl rfl rfl (by omega) (by decide) dL_law_1994 dL_law_1995 dL_law_1996 dL_law_1997 dL_law_1998 ?_
  have hP := e_swapP hP
  have hD := e_swapD hD
  rw [← hgg] at hP
  refine law_cv (As := [.int (xs (i + 1))]) (rest := []) hC2 hP hD hS hA hl.1 (rX11_lies hpm) cwL_215 yvX11_lies (va_recv (ci := 11) (q0 := 0) hC2.2.2.2.2.2.1 (law_left hP) rfl (wk_at tb_300)) rfl rfl (Nat.le_of_ble_eq_true rfl) (rmL4 (by decide) (by decide)) dL_law_1999 (fun r2 w3 H locs h2 hP hD hS => ?_)
  have hP := e_swapP hP
  have hD := e_swapD hD
  rw [hgg] at hP
  refine lv_pop hx hb dL_law_2002 rfl ?_
  refine lv_goto (tgt := 2075) hx hb dL_law_2003 (by decide) ?_
  exact hend w1 w3 H locs h1 h2 hP hD hS
set_option maxHeartbeats 4000000 in
set_option maxRecDepth 100000 in
theorem case4_image {p : Program} {l : Launch} {e : Env} {s : State} {m : MethodId} {below : List Frame} {meth : Method} {c : Code} {H : Heap} {locs : List Loc} {Q : State → Prop} {ls : Array Slot} {A : Nat → Prop} {g g2 : Gw} {w w2 : Wd} {b L i : Nat} {xs : Nat → Int32} {JX JM : Wd → Prop} (hLC : LC4 p s m c b L xs A g g2) (hi : i + 6 ≤ L) (hP : va_P g.1 vwCl (wsW tabX g w ++ wsW tabM g2 w2) H) (hD : va_D A (wsW tabX g w ++ wsW tabM g2 w2)) (hS : va_S A s.heap H locs) (hl : lv_has ls 4 (lvL4 b i g g2)) (hpx : pX10_image (fun _ w1 => JX w1) (xs (i + 1)) w) (hpm : pX11_image (fun _ w1 => JM w1) (xs (i + 1)) w2) (hend : ∀ (w1 w3 : Wd) (H : Heap) (locs : List Loc), JX w1 → JM w3 → va_P g.1 vwCl (wsW tabX g w1 ++ wsW tabM g2 w3) H → va_D A (wsW tabX g w1 ++ wsW tabM g2 w3) → va_S A s.heap H locs → W p l e room_1 s m #[.ref b] below meth c H locs 134 142488 Q (F0 m 2075 ls [])) : W p l e room_1 s m #[.ref b] below meth c H locs 134 142488 Q (F0 m 2006 ls []) := by
  obtain ⟨hC, hC2, hgg, hXs, hbl, hbA, hA, hL⟩ := hLC
  have hx := hC.1
  have hb := hC.2.1
  refine lv_aload_n hx hb dL_law_2006 rfl (lv_at hl 1 rfl) ?_
  refine law4_arg (k0 := 0) (k3 := 3) (i := i) (j := 1) hx hb hXs hbl hbA hS hL hl rfl rfl (by omega) (by decide) dL_law_2007 dL_law_2008 dL_law_2009 dL_law_2010 dL_law_2011 ?_
  refine law_cv (As := [.int (xs (i + 1))]) (rest := []) hC hP hD hS hA hl.1 (rX10_image hpx) cwL_216 yvX10_image (va_recv (ci := 10) (q0 := 0) hC.2.2.2.2.2.1 (law_left hP) rfl (wk_at tb_0)) rfl rfl (Nat.le_of_ble_eq_true rfl) (rmL4 (by decide) (by decide)) dL_law_2012 (fun r1 w1 H locs h1 hP hD hS => ?_)
  refine lv_pop hx hb dL_law_2015 rfl ?_
  refine lv_aload_n hx hb dL_law_2016 rfl (lv_at hl 2 rfl) ?_
  refine law4_arg (k0 := 0) (k3 := 3) (i := i) (j := 1) hx hb hXs hbl hbA hS hL hl rfl rfl (by omega) (by decide) dL_law_2017 dL_law_2018 dL_law_2019 dL_law_2020 dL_law_2021 ?_
  have hP := e_swapP hP
  have hD := e_swapD hD
  rw [← hgg] at hP
  refine law_cv (As := [.int (xs (i + 1))]) (rest := []) hC2 hP hD hS hA hl.1 (rX11_image hpm) cwL_219 yvX11_image (va_recv (ci := 11) (q0 := 0) hC2.2.2.2.2.2.1 (law_left hP) rfl (wk_at tb_300)) rfl rfl (Nat.le_of_ble_eq_true rfl) (rmL4 (by decide) (by decide)) dL_law_2022 (fun r2 w3 H locs h2 hP hD hS => ?_)
  have hP := e_swapP hP
  have hD := e_swapD hD
  rw [hgg] at hP
  refine lv_pop hx hb dL_law_2025 rfl ?_
  refine lv_goto (tgt := 2075) hx hb dL_law_2026 (by decide) ?_
  exact hend w1 w3 H locs h1 h2 hP hD hS
set_option maxHeartbeats 4000000 in
set_option maxRecDepth 100000 in
theorem case4_back {p : Program} {l : Launch} {e : Env} {s : State} {m : MethodId} {below : List Frame} {meth : Method} {c : Code} {H : Heap} {locs : List Loc} {Q : State → Prop} {ls : Array Slot} {A : Nat → Prop} {g g2 : Gw} {w w2 : Wd} {b L i : Nat} {xs : Nat → Int32} {JX JM : Wd → Prop} (hLC : LC4 p s m c b L xs A g g2) (hi : i + 6 ≤ L) (hP : va_P g.1 vwCl (wsW tabX g w ++ wsW tabM g2 w2) H) (hD : va_D A (wsW tabX g w ++ wsW tabM g2 w2)) (hS : va_S A s.heap H locs) (hl : lv_has ls 4 (lvL4 b i g g2)) (hpx : pX10_back (fun _ w1 => JX w1) (xs (i + 1)) w) (hpm : pX11_back (fun _ w1 => JM w1) (xs (i + 1)) w2) (hend : ∀ (w1 w3 : Wd) (H : Heap) (locs : List Loc), JX w1 → JM w3 → va_P g.1 vwCl (wsW tabX g w1 ++ wsW tabM g2 w3) H → va_D A (wsW tabX g w1 ++ wsW tabM g2 w3) → va_S A s.heap H locs → W p l e room_1 s m #[.ref b] below meth c H locs 134 142488 Q (F0 m 2075 ls [])) : W p l e room_1 s m #[.ref b] below meth c H locs 134 142488 Q (F0 m 2029 ls []) := by
  obtain ⟨hC, hC2, hgg, hXs, hbl, hbA, hA, hL⟩ := hLC
  have hx := hC.1
  have hb := hC.2.1
  refine lv_aload_n hx hb dL_law_2029 rfl (lv_at hl 1 rfl) ?_
  refine law4_arg (k0 := 0) (k3 := 3) (i := i) (j := 1) hx hb hXs hbl hbA hS hL hl rfl rfl (by omega) (by decide) dL_law_2030 dL_law_2031 dL_law_2032 dL_law_2033 dL_law_2034 ?_
  refine law_cv (As := [.int (xs (i + 1))]) (rest := []) hC hP hD hS hA hl.1 (rX10_back hpx) cwL_220 yvX10_back (va_recv (ci := 10) (q0 := 0) hC.2.2.2.2.2.1 (law_left hP) rfl (wk_at tb_0)) rfl rfl (Nat.le_of_ble_eq_true rfl) (rmL4 (by decide) (by decide)) dL_law_2035 (fun r1 w1 H locs h1 hP hD hS => ?_)
  refine lv_pop hx hb dL_law_2038 rfl ?_
  refine lv_aload_n hx hb dL_law_2039 rfl (lv_at hl 2 rfl) ?_
  refine law4_arg (k0 := 0) (k3 := 3) (i := i) (j := 1) hx hb hXs hbl hbA hS hL hl rfl rfl (by omega) (by decide) dL_law_2040 dL_law_2041 dL_law_2042 dL_law_2043 dL_law_2044 ?_
  have hP := e_swapP hP
  have hD := e_swapD hD
  rw [← hgg] at hP
  refine law_cv (As := [.int (xs (i + 1))]) (rest := []) hC2 hP hD hS hA hl.1 (rX11_back hpm) cwL_223 yvX11_back (va_recv (ci := 11) (q0 := 0) hC2.2.2.2.2.2.1 (law_left hP) rfl (wk_at tb_300)) rfl rfl (Nat.le_of_ble_eq_true rfl) (rmL4 (by decide) (by decide)) dL_law_2045 (fun r2 w3 H locs h2 hP hD hS => ?_)
  have hP := e_swapP hP
  have hD := e_swapD hD
  rw [hgg] at hP
  refine lv_pop hx hb dL_law_2048 rfl ?_
  refine lv_goto (tgt := 2075) hx hb dL_law_2049 (by decide) ?_
  exact hend w1 w3 H locs h1 h2 hP hD hS
set_option maxHeartbeats 4000000 in
set_option maxRecDepth 100000 in
theorem case4_about {p : Program} {l : Launch} {e : Env} {s : State} {m : MethodId} {below : List Frame} {meth : Method} {c : Code} {H : Heap} {locs : List Loc} {Q : State → Prop} {ls : Array Slot} {A : Nat → Prop} {g g2 : Gw} {w w2 : Wd} {b L i : Nat} {xs : Nat → Int32} {JX JM : Wd → Prop} (hLC : LC4 p s m c b L xs A g g2) (hi : i + 6 ≤ L) (hP : va_P g.1 vwCl (wsW tabX g w ++ wsW tabM g2 w2) H) (hD : va_D A (wsW tabX g w ++ wsW tabM g2 w2)) (hS : va_S A s.heap H locs) (hl : lv_has ls 4 (lvL4 b i g g2)) (hpx : pX10_about (fun _ w1 => JX w1) (xs (i + 1)) w) (hpm : pX11_about (fun _ w1 => JM w1) (xs (i + 1)) w2) (hend : ∀ (w1 w3 : Wd) (H : Heap) (locs : List Loc), JX w1 → JM w3 → va_P g.1 vwCl (wsW tabX g w1 ++ wsW tabM g2 w3) H → va_D A (wsW tabX g w1 ++ wsW tabM g2 w3) → va_S A s.heap H locs → W p l e room_1 s m #[.ref b] below meth c H locs 134 142488 Q (F0 m 2075 ls [])) : W p l e room_1 s m #[.ref b] below meth c H locs 134 142488 Q (F0 m 2052 ls []) := by
  obtain ⟨hC, hC2, hgg, hXs, hbl, hbA, hA, hL⟩ := hLC
  have hx := hC.1
  have hb := hC.2.1
  refine lv_aload_n hx hb dL_law_2052 rfl (lv_at hl 1 rfl) ?_
  refine law4_arg (k0 := 0) (k3 := 3) (i := i) (j := 1) hx hb hXs hbl hbA hS hL hl rfl rfl (by omega) (by decide) dL_law_2053 dL_law_2054 dL_law_2055 dL_law_2056 dL_law_2057 ?_
  refine law_cv (As := [.int (xs (i + 1))]) (rest := []) hC hP hD hS hA hl.1 (rX10_about hpx) cwL_224 yvX10_about (va_recv (ci := 10) (q0 := 0) hC.2.2.2.2.2.1 (law_left hP) rfl (wk_at tb_0)) rfl rfl (Nat.le_of_ble_eq_true rfl) (rmL4 (by decide) (by decide)) dL_law_2058 (fun r1 w1 H locs h1 hP hD hS => ?_)
  refine lv_pop hx hb dL_law_2061 rfl ?_
  refine lv_aload_n hx hb dL_law_2062 rfl (lv_at hl 2 rfl) ?_
  refine law4_arg (k0 := 0) (k3 := 3) (i := i) (j := 1) hx hb hXs hbl hbA hS hL hl rfl rfl (by omega) (by decide) dL_law_2063 dL_law_2064 dL_law_2065 dL_law_2066 dL_law_2067 ?_
  have hP := e_swapP hP
  have hD := e_swapD hD
  rw [← hgg] at hP
  refine law_cv (As := [.int (xs (i + 1))]) (rest := []) hC2 hP hD hS hA hl.1 (rX11_about hpm) cwL_227 yvX11_about (va_recv (ci := 11) (q0 := 0) hC2.2.2.2.2.2.1 (law_left hP) rfl (wk_at tb_300)) rfl rfl (Nat.le_of_ble_eq_true rfl) (rmL4 (by decide) (by decide)) dL_law_2068 (fun r2 w3 H locs h2 hP hD hS => ?_)
  have hP := e_swapP hP
  have hD := e_swapD hD
  rw [hgg] at hP
  refine lv_pop hx hb dL_law_2071 rfl ?_
  refine lv_goto (tgt := 2075) hx hb dL_law_2072 (by decide) ?_
  exact hend w1 w3 H locs h1 h2 hP hD hS
