theorem nfX10 : ∀ j, j < 18 → defaultValue (tyX10 j) = vp_V nX10 j := by
  intro j hj
  match j, hj with
  | 0, _ => rfl
  | 1, _ => rfl
  | 2, _ => rfl
  | 3, _ => rfl
  | 4, _ => rfl
  | 5, _ => rfl
  | 6, _ => rfl
  | 7, _ => rfl
  | 8, _ => rfl
  | 9, _ => rfl
  | 10, _ => rfl
  | 11, _ => rfl
  | 12, _ => rfl
  | 13, _ => rfl
  | 14, _ => rfl
  | 15, _ => rfl
  | 16, _ => rfl
  | 17, _ => rfl
  | j + 18, h => exact absurd h (by omega)
theorem nfX11 : ∀ j, j < 69 → defaultValue (tyX11 j) = vp_V nX11 j := by
  intro j hj
  match j, hj with
  | 0, _ => rfl
  | 1, _ => rfl
  | 2, _ => rfl
  | 3, _ => rfl
  | 4, _ => rfl
  | 5, _ => rfl
  | 6, _ => rfl
  | 7, _ => rfl
  | 8, _ => rfl
  | 9, _ => rfl
  | 10, _ => rfl
  | 11, _ => rfl
  | 12, _ => rfl
  | 13, _ => rfl
  | 14, _ => rfl
  | 15, _ => rfl
  | 16, _ => rfl
  | 17, _ => rfl
  | 18, _ => rfl
  | 19, _ => rfl
  | 20, _ => rfl
  | 21, _ => rfl
  | 22, _ => rfl
  | 23, _ => rfl
  | 24, _ => rfl
  | 25, _ => rfl
  | 26, _ => rfl
  | 27, _ => rfl
  | 28, _ => rfl
  | 29, _ => rfl
  | 30, _ => rfl
  | 31, _ => rfl
  | 32, _ => rfl
  | 33, _ => rfl
  | 34, _ => rfl
  | 35, _ => rfl
  | 36, _ => rfl
  | 37, _ => rfl
  | 38, _ => rfl
  | 39, _ => rfl
  | 40, _ => rfl
  | 41, _ => rfl
  | 42, _ => rfl
  | 43, _ => rfl
  | 44, _ => rfl
  | 45, _ => rfl
  | 46, _ => rfl
  | 47, _ => rfl
  | 48, _ => rfl
  | 49, _ => rfl
  | 50, _ => rfl
  | 51, _ => rfl
  | 52, _ => rfl
  | 53, _ => rfl
  | 54, _ => rfl
  | 55, _ => rfl
  | 56, _ => rfl
  | 57, _ => rfl
  | 58, _ => rfl
  | 59, _ => rfl
  | 60, _ => rfl
  | 61, _ => rfl
  | 62, _ => rfl
  | 63, _ => rfl
  | 64, _ => rfl
  | 65, _ => rfl
  | 66, _ => rfl
  | 67, _ => rfl
  | 68, _ => rfl
  | j + 69, h => exact absurd h (by omega)
set_option maxHeartbeats 1000000 in
set_option maxRecDepth 100000 in
theorem whole_start {p : Program} {e : Env} {s : State} {m : MethodId} {below : List Frame} {meth : Method} {c : Code} (l : Launch) {b L : Nat} {xs : Nat → Int32} (hL : L ≤ 3072) (C0 : lw_At p s m meth c b L xs) : W p l e room_1 s m #[Value.ref b] below meth c s.heap [] 0 0 (lw_Z below #[Value.ref b] s) (entryFrame m ([Value.ref b] : List Value).toArray 4) := by
  obtain ⟨hx, hb, hr, hml, hown, hts, hX, hbl, hlocks, hgv⟩ := id C0
  have hwl : ∀ w ∈ wsL_law, w.before #[Value.ref b] s = true := fun w h => hts w (wsL_law_in w h)
  obtain ⟨g, hKW⟩ := law_g hts
  have hA : ∀ q : Nat, s.heap.size ≤ q → (fun q : Nat => s.heap.size ≤ q) q := fun _ h => h
  have hbA : ¬ (fun q : Nat => s.heap.size ≤ q) b := Nat.not_le.mpr hbl
  obtain ⟨q, v, hXs, hZ⟩ := law_str (A := fun q : Nat => s.heap.size ≤ q) hts hgv (fun a ha => Nat.not_le.mpr ha)
  have hao : va_AO "SealCasts$Court" s := va_AO.of (hts _ tq_ao)
  have hC : Cx p s m #[Value.ref b] c cL_law RL 4 g := ⟨hx, hb, hml, hown, hwl, hKW⟩
  have hS : va_S (fun q : Nat => s.heap.size ≤ q) s.heap s.heap [] := va_S.rf
  have hP : va_P g.1 vwCl [] s.heap := fun k q h => by simp at h
  have hD : va_D (fun q : Nat => s.heap.size ≤ q) [] := ⟨fun i j p q h => by simp at h, fun k q h => by simp at h⟩
  have hl := lv_entry ([.ref b]) (n := 4) (Nat.le_of_ble_eq_true rfl)
  rw [lg_entry_eq]
  generalize (lg_sl ([.ref b]) ++ List.replicate (4 - (lg_sl ([.ref b])).length) Slot.unset).toArray = ls at hl ⊢
  have hl : lv_has ls 4 [(0, .ref b)] := hl
  refine e_new (ci := 10) (C := RX10) (T := TX10) (N := 18) (ty0 := tyX10) (fs0 := nX10) hC hP hD hS hA rfl inlX10 tyX10_ok m0 m1 m2 nfX10 (Nat.le_of_ble_eq_true rfl) (Nat.le_of_ble_eq_true rfl) dL_law_0 (fun q0 H hP hD hS => ?_)
  refine lv_dup hx hb dL_law_3 rfl ?_
  refine e_callI (As := []) (rest := [.ref q0]) hC hP hD hS hA hl.1 (k_X10_init (g := g) (h0 := q0) (q := q) (v := v)) (fun U gg mk a h => ⟨Sx.moved (u := U) (U := U.calling gg mk a) (Vm.Alike.refl U.vm) h.1, vk_R.same (u := U) (U := U.calling gg mk a) rfl h.2.1, va_AO.moved (u := U) (U := U.calling gg mk a) (Vm.Alike.refl U.vm) h.2.2⟩) (fun U hU hW => ⟨by rw [hU]; exact ((hXs.kept hS.2.1).narrow (e_free hD hS hA)).moved hW.alike, vk_R.warm hW hZ, va_AO.moved hW.alike hao⟩) m2 m6 m7 m8 rfl ysX10_init rfl rfl (Nat.le_of_ble_eq_true rfl) ⟨⟨(Nat.le_of_ble_eq_true rfl), (Nat.le_of_ble_eq_true rfl)⟩, (Nat.le_of_ble_eq_true rfl), (Nat.le_of_ble_eq_true rfl)⟩ dL_law_4 (fun u10 H locs hu hP hD hS => ?_)
  refine lv_astore_n (lv' := [(1, .ref q0), (0, .ref b)]) hx hb dL_law_7 rfl hl (by decide) rfl (fun ls hl => ?_)
  have hP : va_P g.1 vwCl (lX10 g u10) H := hP
  have hD : va_D (fun q : Nat => s.heap.size ≤ q) (lX10 g u10) := hD
  refine e_new (ci := 11) (C := RX11) (T := TX11) (N := 69) (ty0 := tyX11) (fs0 := nX11) hC hP hD hS hA rfl inlX11 tyX11_ok m3 m4 m5 nfX11 (Nat.le_of_ble_eq_true rfl) (Nat.le_of_ble_eq_true rfl) dL_law_8 (fun q1 H hP hD hS => ?_)
  refine lv_dup hx hb dL_law_11 rfl ?_
  refine e_callI (As := []) (rest := [.ref q1]) hC hP hD hS hA hl.1 (k_X11_init (g := g) (h0 := q1)) (fun _ _ _ _ h => h) (fun _ _ _ => trivial) m5 m249 m250 m251 rfl ysX11_init rfl rfl (Nat.le_of_ble_eq_true rfl) ⟨⟨(Nat.le_of_ble_eq_true rfl), (Nat.le_of_ble_eq_true rfl)⟩, (Nat.le_of_ble_eq_true rfl), (Nat.le_of_ble_eq_true rfl)⟩ dL_law_12 (fun u11 H locs hu2 hP hD hS => ?_)
  refine lv_astore_n (lv' := [(2, .ref q1), (1, .ref q0), (0, .ref b)]) hx hb dL_law_15 rfl hl (by decide) rfl (fun ls hl => ?_)
  refine lv_iconst (v := nI 0) hx hb dL_law_16 (by decide) ?_
  refine lv_istore_n (lv' := [(3, .int (nI 0)), (2, .ref q1), (1, .ref q0), (0, .ref b)]) hx hb dL_law_17 rfl hl (by decide) rfl (fun ls hl => ?_)
  exact law4_go hL hr hlocks hC hX hbl hP hD hu hu2 hS hl (Nat.le_of_ble_eq_true rfl) (Nat.le_of_ble_eq_true rfl)
