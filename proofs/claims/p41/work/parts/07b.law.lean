/-! ===== the law: its script, its two objects ===== -/
def bz (v : Int32) : Int32 := if v = 0 then 0 else 1
section LW
variable {p : Program} {l : Launch} {e : Env} {R : Room} {s : State} {m : MethodId} {args : Array Value} {below : List Frame} {meth : Method} {c : Code} {H : Heap} {locs : List Loc} {cells slots : Nat} {Q : State → Prop} {cc : ByteArray} {pc : Nat} {ls : Array Slot} {rest st : List Value} {A : Nat → Prop} {g : Gw} {w : Wd} {own C : String} {nL : Nat} {t : List (Nat × Ds)} {Z : va_W} {y : MethodName} {bs : ByteArray} {maxL k1 index n b : Nat} {ret : Option FieldType} {As : List Value}
/-- the j-th int behind i = 0 -/
theorem law_arg {z : Int} {j : Nat} {xs : Nat → Int32} {lv : List (Nat × Value)} {k0 k3 : Nat} (hx : p.tables.exec = Jvm.exec) (hb : c.code = cc) (hX : va_X b 6 xs s s.heap) (hbl : b < s.heap.size) (hbA : ¬ A b) (hS : va_S A s.heap H locs) (hl : lv_has ls nL lv) (h0 : lv[k0]? = some (0, .ref b)) (h3 : lv[k3]? = some (3, .int (nI 0))) (hj : j < 6) (hv : Int32.ofInt z = nI j) (d1 : decode cc pc = .ok (.aload_n 0, 1)) (d2 : decode cc (pc + 1) = .ok (.iload_n 3, 1)) (d3 : decode cc (pc + 1 + 1) = .ok (.iconst z, 1)) (d4 : decode cc (pc + 1 + 1 + 1) = .ok (.iadd, 1)) (d5 : decode cc (pc + 1 + 1 + 1 + 1) = .ok (.iaload, 1))
    (kk : W p l e R s m args below meth c H locs cells slots Q (F0 m (pc + 1 + 1 + 1 + 1 + 1) ls (.int (xs j) :: rest))) : W p l e R s m args below meth c H locs cells slots Q (F0 m pc ls rest) := by
  refine lv_aload_n hx hb d1 rfl (lv_at hl k0 h0) ?_
  refine lv_iload_n hx hb d2 rfl (lv_at hl k3 h3) ?_
  refine lv_iconst hx hb d3 hv ?_
  refine lv_iadd hx hb d4 ?_
  rw [nI_add, Nat.zero_add]
  refine va_sld hx hb hX hbl hbA hS (vp_in_nI hj (by decide)) d5 ?_
  rw [nI_clamp (by omega)]
  exact kk
theorem law_free (hD : va_D A (wsW t g w ++ Z)) (hS : va_S A s.heap H locs) (hA : ∀ q, s.heap.size ≤ q → A q) : ∀ q, va_A (wsW t g w) H.size q → A q := by
  intro q h
  rcases h with ⟨k, e, h⟩ | h
  · exact hD.2 k (q, e) (by rw [List.getElem?_append_left (List.getElem?_eq_some_iff.mp h).1]; exact h)
  · exact hA q (Nat.le_trans hS.1 h)
theorem law_left {D : va_G} {cl : List vw_C} {X : va_W} (hP : va_P D cl (X ++ Z) H) : va_P D cl X H := fun k q h => hP k q (by rw [List.getElem?_append_left (List.getElem?_eq_some_iff.mp h).1]; exact h)
theorem law_leftD {X : va_W} (hD : va_D A (X ++ Z)) : va_D A X := ⟨fun i j p q h1 h2 h3 => hD.1 i j p q (by rw [List.getElem?_append_left (List.getElem?_eq_some_iff.mp h1).1]; exact h1) (by rw [List.getElem?_append_left (List.getElem?_eq_some_iff.mp h2).1]; exact h2) h3, fun k q h => hD.2 k q (by rw [List.getElem?_append_left (List.getElem?_eq_some_iff.mp h).1]; exact h)⟩
/-- a call on one of the worlds; the other one stays -/
theorem law_cv {post : Int32 → Wd → Prop} (hC : Cx p s m args c cc own nL g) (hP : va_P g.1 vwCl (wsW t g w ++ Z) H) (hD : va_D A (wsW t g w ++ Z)) (hS : va_S A s.heap H locs) (hA : ∀ q, s.heap.size ≤ q → A q) (hls : ls.size = nL) (hM : MtI t l y bs maxL ret k1 g w (.ref b :: As) post) (hG : GoodIn wsL_law (wsV own index C y (.code y bs maxL ret :: wsL_law))) (hy : Yv y C n) (hr : Rc s H C b) (hn : As.length = n) (hst : st = As.reverse ++ .ref b :: rest) (hw : (rest.map fun v => v.category).sum ≤ 8) (hR : Rm R k1 maxL cells slots) (hd : decode cc pc = .ok (.invokevirtual index, 3))
    (kk : ∀ (r : Int32) (w1 : Wd) (H1 : Heap) (locs1 : List Loc), post r w1 → va_P g.1 vwCl (wsW t g w1 ++ Z) H1 → va_D A (wsW t g w1 ++ Z) → va_S A s.heap H1 locs1 → W p l e R s m args below meth c H1 locs1 cells slots Q (F0 m (pc + 3) ls (.int r :: rest))) : W p l e R s m args below meth c H locs cells slots Q (F0 m pc ls st) := by
  obtain ⟨hx, hb, hml, hown, hts, hK⟩ := hC
  subst hst
  have hF := law_free hD hS hA
  refine va_calli (va_runV (As := As) (rest := rest) ⟨hx, hb, hml, hown, hts⟩ (hM H.size) (cwV n hts hG rfl rfl rfl hy hR.1) ⟨blindW, hr, fun U hU hW => ⟨rfl, by rw [hU], by rw [hU]; exact law_left hP, KW.warm hW hK, (law_leftD hD).weaken (fun _ _ _ _ => trivial)⟩⟩ rfl hn hls rfl (lv_room hw) hd hR.2) hS (fun q _ h => hF q h) hF (fun r w1 t9 H1 locs1 ht hvm hp hB hz hk hS1 => ?_)
  obtain ⟨hP1, hD1⟩ := hB
  rw [ht] at hP1
  obtain ⟨hP2, hD2⟩ := e_join (e_swapP hP) (e_swapD hD) hk hF hP1 hD1
  exact kk r w1 H1 locs1 hp (e_swapP hP2) (e_swapD hD2) hS1
end LW
theorem rmL {k1 maxL : Nat} (h : k1 ≤ 20) (hm : maxL ≤ 41) : Rm room_1 k1 maxL 134 142488 := ⟨⟨by show k1 + 1 ≤ 2048; omega, by show _ ≤ 84000; omega⟩, by show 134 ≤ 600000; decide, by show 142488 ≤ 7302249; decide⟩
/-- what every case begins with -/
def LC (p : Program) (s : State) (m : MethodId) (c : Code) (b : Nat) (xs : Nat → Int32) (A : Nat → Prop) (g : Gw) (g2 : Gw) : Prop := Cx p s m #[.ref b] c cL_law RL 4 g ∧ Cx p s m #[.ref b] c cL_law RL 4 g2 ∧ g2.1 = g.1 ∧ va_X b 6 xs s s.heap ∧ b < s.heap.size ∧ ¬ A b ∧ (∀ q, s.heap.size ≤ q → A q)
abbrev lvL (b : Nat) (g g2 : Gw) : List (Nat × Value) := [(0, .ref b), (1, .ref (g.2.2 0)), (2, .ref (g2.2.2 300)), (3, .int (nI 0))]
/-! ===== the law of p41: every call returns; later's answers are one another's ===== -/
section LW4
variable {p : Program} {l : Launch} {e : Env} {R : Room} {s : State} {m : MethodId} {args : Array Value} {below : List Frame} {meth : Method} {c : Code} {H : Heap} {locs : List Loc} {cells slots : Nat} {Q : State → Prop} {cc : ByteArray} {pc : Nat} {ls : Array Slot} {rest : List Value} {A : Nat → Prop} {nL b L : Nat}
/-- the z-th int behind i -/
theorem law4_arg {z : Int} {i j : Nat} {xs : Nat → Int32} {lv : List (Nat × Value)} {k0 k3 : Nat} (hx : p.tables.exec = Jvm.exec) (hb : c.code = cc) (hX : va_X b L xs s s.heap) (hbl : b < s.heap.size) (hbA : ¬ A b) (hS : va_S A s.heap H locs) (hL : L ≤ 3072) (hl : lv_has ls nL lv) (h0 : lv[k0]? = some (0, .ref b)) (h3 : lv[k3]? = some (3, .int (nI i))) (hj : i + j < L) (hv : Int32.ofInt z = nI j) (d1 : decode cc pc = .ok (.aload_n 0, 1)) (d2 : decode cc (pc + 1) = .ok (.iload_n 3, 1)) (d3 : decode cc (pc + 1 + 1) = .ok (.iconst z, 1)) (d4 : decode cc (pc + 1 + 1 + 1) = .ok (.iadd, 1)) (d5 : decode cc (pc + 1 + 1 + 1 + 1) = .ok (.iaload, 1))
    (kk : W p l e R s m args below meth c H locs cells slots Q (F0 m (pc + 1 + 1 + 1 + 1 + 1) ls (.int (xs (i + j)) :: rest))) : W p l e R s m args below meth c H locs cells slots Q (F0 m pc ls rest) := by
  refine lv_aload_n hx hb d1 rfl (lv_at hl k0 h0) ?_
  refine lv_iload_n hx hb d2 rfl (lv_at hl k3 h3) ?_
  refine lv_iconst hx hb d3 hv ?_
  refine lv_iadd hx hb d4 ?_
  rw [nI_add]
  refine va_sld hx hb hX hbl hbA hS (vp_in_nI hj (by omega)) d5 ?_
  rw [nI_clamp (by omega)]
  exact kk
end LW4
theorem rmL4 {k1 maxL : Nat} (h : k1 ≤ 200) (hm : maxL ≤ 41) : Rm room_1 k1 maxL 134 142488 := ⟨⟨by show k1 + 1 ≤ 2048; omega, by show _ ≤ 84000; omega⟩, by show 134 ≤ 600000; decide, by show 142488 ≤ 7302249; decide⟩
def LC4 (p : Program) (s : State) (m : MethodId) (c : Code) (b L : Nat) (xs : Nat → Int32) (A : Nat → Prop) (g : Gw) (g2 : Gw) : Prop := Cx p s m #[.ref b] c cL_law RL 4 g ∧ Cx p s m #[.ref b] c cL_law RL 4 g2 ∧ g2.1 = g.1 ∧ va_X b L xs s s.heap ∧ b < s.heap.size ∧ ¬ A b ∧ (∀ q, s.heap.size ≤ q → A q) ∧ L ≤ 3072
abbrev lvL4 (b i : Nat) (g g2 : Gw) : List (Nat × Value) := [(0, .ref b), (1, .ref (g.2.2 0)), (2, .ref (g2.2.2 300)), (3, .int (nI i))]
theorem m313 : (Cond.methodLink RL 13 yX10_feed) ∈ wsL_law := rin14 _ (List.mem_of_getElem? (i := 1) (by decide +kernel))
theorem m314 : (Cond.instanceMethod yX10_feed) ∈ wsL_law := rin14 _ (List.mem_of_getElem? (i := 2) (by decide +kernel))
theorem m315 : (Cond.selects RX10 yX10_feed yX10_feed) ∈ wsL_law := rin14 _ (List.mem_of_getElem? (i := 3) (by decide +kernel))
theorem m316 : (Cond.code yX10_feed cX10_feed 6 (some .int)) ∈ wsL_law := rin14 _ (List.mem_of_getElem? (i := 4) (by decide +kernel))
theorem m321 : (Cond.methodLink RL 17 yX11_feed) ∈ wsL_law := rin14 _ (List.mem_of_getElem? (i := 9) (by decide +kernel))
theorem m322 : (Cond.instanceMethod yX11_feed) ∈ wsL_law := rin14 _ (List.mem_of_getElem? (i := 10) (by decide +kernel))
theorem m323 : (Cond.selects RX11 yX11_feed yX11_feed) ∈ wsL_law := rin14 _ (List.mem_of_getElem? (i := 11) (by decide +kernel))
theorem m324 : (Cond.code yX11_feed cX11_feed 8 (some .int)) ∈ wsL_law := rin14 _ (List.mem_of_getElem? (i := 12) (by decide +kernel))
theorem m326 : (Cond.methodLink RL 18 yX10_end) ∈ wsL_law := rin14 _ (List.mem_of_getElem? (i := 14) (by decide +kernel))
theorem m327 : (Cond.instanceMethod yX10_end) ∈ wsL_law := rin14 _ (List.mem_of_getElem? (i := 15) (by decide +kernel))
theorem m328 : (Cond.selects RX10 yX10_end yX10_end) ∈ wsL_law := rin14 _ (List.mem_of_getElem? (i := 16) (by decide +kernel))
theorem m329 : (Cond.code yX10_end cX10_end 2 (some .int)) ∈ wsL_law := rin14 _ (List.mem_of_getElem? (i := 17) (by decide +kernel))
theorem m330 : (Cond.methodLink RL 22 yX11_end) ∈ wsL_law := rin14 _ (List.mem_of_getElem? (i := 18) (by decide +kernel))
theorem m331 : (Cond.instanceMethod yX11_end) ∈ wsL_law := rin14 _ (List.mem_of_getElem? (i := 19) (by decide +kernel))
theorem m332 : (Cond.selects RX11 yX11_end yX11_end) ∈ wsL_law := rin14 _ (List.mem_of_getElem? (i := 20) (by decide +kernel))
theorem m333 : (Cond.code yX11_end cX11_end 2 (some .int)) ∈ wsL_law := rin14 _ (List.mem_of_getElem? (i := 21) (by decide +kernel))
theorem m334 : (Cond.methodLink RL 23 yX10_chancery) ∈ wsL_law := rin14 _ (List.mem_of_getElem? (i := 22) (by decide +kernel))
theorem m335 : (Cond.instanceMethod yX10_chancery) ∈ wsL_law := rin14 _ (List.mem_of_getElem? (i := 23) (by decide +kernel))
theorem m336 : (Cond.selects RX10 yX10_chancery yX10_chancery) ∈ wsL_law := rin15 _ (List.mem_of_getElem? (i := 0) (by decide +kernel))
theorem m337 : (Cond.code yX10_chancery cX10_chancery 2 (some .int)) ∈ wsL_law := rin15 _ (List.mem_of_getElem? (i := 1) (by decide +kernel))
theorem m466 : (Cond.methodLink RL 27 yX11_chancery) ∈ wsL_law := rin20 _ (List.mem_of_getElem? (i := 10) (by decide +kernel))
theorem m467 : (Cond.instanceMethod yX11_chancery) ∈ wsL_law := rin20 _ (List.mem_of_getElem? (i := 11) (by decide +kernel))
theorem m468 : (Cond.selects RX11 yX11_chancery yX11_chancery) ∈ wsL_law := rin20 _ (List.mem_of_getElem? (i := 12) (by decide +kernel))
theorem m469 : (Cond.code yX11_chancery cX11_chancery 2 (some .int)) ∈ wsL_law := rin20 _ (List.mem_of_getElem? (i := 13) (by decide +kernel))
theorem m601 : (Cond.methodLink RL 28 yX10_fault) ∈ wsL_law := rin26 _ (List.mem_of_getElem? (i := 1) (by decide +kernel))
theorem m602 : (Cond.instanceMethod yX10_fault) ∈ wsL_law := rin26 _ (List.mem_of_getElem? (i := 2) (by decide +kernel))
theorem m603 : (Cond.selects RX10 yX10_fault yX10_fault) ∈ wsL_law := rin26 _ (List.mem_of_getElem? (i := 3) (by decide +kernel))
theorem m604 : (Cond.code yX10_fault cX10_fault 2 (some .int)) ∈ wsL_law := rin26 _ (List.mem_of_getElem? (i := 4) (by decide +kernel))
theorem m605 : (Cond.methodLink RL 31 yX11_fault) ∈ wsL_law := rin26 _ (List.mem_of_getElem? (i := 5) (by decide +kernel))
theorem m606 : (Cond.instanceMethod yX11_fault) ∈ wsL_law := rin26 _ (List.mem_of_getElem? (i := 6) (by decide +kernel))
theorem m607 : (Cond.selects RX11 yX11_fault yX11_fault) ∈ wsL_law := rin26 _ (List.mem_of_getElem? (i := 7) (by decide +kernel))
theorem m608 : (Cond.code yX11_fault cX11_fault 2 (some .int)) ∈ wsL_law := rin26 _ (List.mem_of_getElem? (i := 8) (by decide +kernel))
theorem m609 : (Cond.methodLink RL 32 yX10_seal) ∈ wsL_law := rin26 _ (List.mem_of_getElem? (i := 9) (by decide +kernel))
theorem m610 : (Cond.instanceMethod yX10_seal) ∈ wsL_law := rin26 _ (List.mem_of_getElem? (i := 10) (by decide +kernel))
theorem m611 : (Cond.selects RX10 yX10_seal yX10_seal) ∈ wsL_law := rin26 _ (List.mem_of_getElem? (i := 11) (by decide +kernel))
theorem m612 : (Cond.code yX10_seal cX10_seal 3 (some .int)) ∈ wsL_law := rin26 _ (List.mem_of_getElem? (i := 12) (by decide +kernel))
theorem m623 : (Cond.methodLink RL 36 yX11_seal) ∈ wsL_law := rin26 _ (List.mem_of_getElem? (i := 23) (by decide +kernel))
theorem m624 : (Cond.instanceMethod yX11_seal) ∈ wsL_law := rin27 _ (List.mem_of_getElem? (i := 0) (by decide +kernel))
theorem m625 : (Cond.selects RX11 yX11_seal yX11_seal) ∈ wsL_law := rin27 _ (List.mem_of_getElem? (i := 1) (by decide +kernel))
theorem m626 : (Cond.code yX11_seal cX11_seal 3 (some .int)) ∈ wsL_law := rin27 _ (List.mem_of_getElem? (i := 2) (by decide +kernel))
theorem m638 : (Cond.methodLink RL 37 yX10_shown) ∈ wsL_law := rin27 _ (List.mem_of_getElem? (i := 14) (by decide +kernel))
theorem m639 : (Cond.instanceMethod yX10_shown) ∈ wsL_law := rin27 _ (List.mem_of_getElem? (i := 15) (by decide +kernel))
theorem m640 : (Cond.selects RX10 yX10_shown yX10_shown) ∈ wsL_law := rin27 _ (List.mem_of_getElem? (i := 16) (by decide +kernel))
theorem m641 : (Cond.code yX10_shown cX10_shown 3 (some .int)) ∈ wsL_law := rin27 _ (List.mem_of_getElem? (i := 17) (by decide +kernel))
theorem m646 : (Cond.methodLink RL 40 yX11_shown) ∈ wsL_law := rin27 _ (List.mem_of_getElem? (i := 22) (by decide +kernel))
theorem m647 : (Cond.instanceMethod yX11_shown) ∈ wsL_law := rin27 _ (List.mem_of_getElem? (i := 23) (by decide +kernel))
theorem m648 : (Cond.selects RX11 yX11_shown yX11_shown) ∈ wsL_law := rin28 _ (List.mem_of_getElem? (i := 0) (by decide +kernel))
theorem m649 : (Cond.code yX11_shown cX11_shown 3 (some .int)) ∈ wsL_law := rin28 _ (List.mem_of_getElem? (i := 1) (by decide +kernel))
theorem m650 : (Cond.methodLink RL 41 yX10_prints) ∈ wsL_law := rin28 _ (List.mem_of_getElem? (i := 2) (by decide +kernel))
theorem m651 : (Cond.instanceMethod yX10_prints) ∈ wsL_law := rin28 _ (List.mem_of_getElem? (i := 3) (by decide +kernel))
theorem m652 : (Cond.selects RX10 yX10_prints yX10_prints) ∈ wsL_law := rin28 _ (List.mem_of_getElem? (i := 4) (by decide +kernel))
theorem m653 : (Cond.code yX10_prints cX10_prints 7 (some .int)) ∈ wsL_law := rin28 _ (List.mem_of_getElem? (i := 5) (by decide +kernel))
theorem m662 : (Cond.methodLink RL 44 yX11_prints) ∈ wsL_law := rin28 _ (List.mem_of_getElem? (i := 14) (by decide +kernel))
theorem m663 : (Cond.instanceMethod yX11_prints) ∈ wsL_law := rin28 _ (List.mem_of_getElem? (i := 15) (by decide +kernel))
theorem m664 : (Cond.selects RX11 yX11_prints yX11_prints) ∈ wsL_law := rin28 _ (List.mem_of_getElem? (i := 16) (by decide +kernel))
theorem m665 : (Cond.code yX11_prints cX11_prints 7 (some .int)) ∈ wsL_law := rin28 _ (List.mem_of_getElem? (i := 17) (by decide +kernel))
theorem m674 : (Cond.methodLink RL 45 yX10_turned) ∈ wsL_law := rin29 _ (List.mem_of_getElem? (i := 2) (by decide +kernel))
theorem m675 : (Cond.instanceMethod yX10_turned) ∈ wsL_law := rin29 _ (List.mem_of_getElem? (i := 3) (by decide +kernel))
theorem m676 : (Cond.selects RX10 yX10_turned yX10_turned) ∈ wsL_law := rin29 _ (List.mem_of_getElem? (i := 4) (by decide +kernel))
theorem m677 : (Cond.code yX10_turned cX10_turned 2 (some .int)) ∈ wsL_law := rin29 _ (List.mem_of_getElem? (i := 5) (by decide +kernel))
theorem m682 : (Cond.methodLink RL 48 yX11_turned) ∈ wsL_law := rin29 _ (List.mem_of_getElem? (i := 10) (by decide +kernel))
theorem m683 : (Cond.instanceMethod yX11_turned) ∈ wsL_law := rin29 _ (List.mem_of_getElem? (i := 11) (by decide +kernel))
theorem m684 : (Cond.selects RX11 yX11_turned yX11_turned) ∈ wsL_law := rin29 _ (List.mem_of_getElem? (i := 12) (by decide +kernel))
theorem m685 : (Cond.code yX11_turned cX11_turned 2 (some .int)) ∈ wsL_law := rin29 _ (List.mem_of_getElem? (i := 13) (by decide +kernel))
theorem m690 : (Cond.methodLink RL 49 yX10_would) ∈ wsL_law := rin29 _ (List.mem_of_getElem? (i := 18) (by decide +kernel))
theorem m691 : (Cond.instanceMethod yX10_would) ∈ wsL_law := rin29 _ (List.mem_of_getElem? (i := 19) (by decide +kernel))
theorem m692 : (Cond.selects RX10 yX10_would yX10_would) ∈ wsL_law := rin29 _ (List.mem_of_getElem? (i := 20) (by decide +kernel))
theorem m693 : (Cond.code yX10_would cX10_would 5 (some .int)) ∈ wsL_law := rin29 _ (List.mem_of_getElem? (i := 21) (by decide +kernel))
theorem m743 : (Cond.methodLink RL 53 yX11_would) ∈ wsL_law := rin31 _ (List.mem_of_getElem? (i := 23) (by decide +kernel))
theorem m744 : (Cond.instanceMethod yX11_would) ∈ wsL_law := rin32 _ (List.mem_of_getElem? (i := 0) (by decide +kernel))
theorem m745 : (Cond.selects RX11 yX11_would yX11_would) ∈ wsL_law := rin32 _ (List.mem_of_getElem? (i := 1) (by decide +kernel))
theorem m746 : (Cond.code yX11_would cX11_would 5 (some .int)) ∈ wsL_law := rin32 _ (List.mem_of_getElem? (i := 2) (by decide +kernel))
theorem m777 : (Cond.methodLink RL 54 yX10_cast) ∈ wsL_law := rin33 _ (List.mem_of_getElem? (i := 9) (by decide +kernel))
theorem m778 : (Cond.instanceMethod yX10_cast) ∈ wsL_law := rin33 _ (List.mem_of_getElem? (i := 10) (by decide +kernel))
theorem m779 : (Cond.selects RX10 yX10_cast yX10_cast) ∈ wsL_law := rin33 _ (List.mem_of_getElem? (i := 11) (by decide +kernel))
theorem m780 : (Cond.code yX10_cast cX10_cast 4 (some .int)) ∈ wsL_law := rin33 _ (List.mem_of_getElem? (i := 12) (by decide +kernel))
theorem m824 : (Cond.methodLink RL 58 yX11_cast) ∈ wsL_law := rin35 _ (List.mem_of_getElem? (i := 8) (by decide +kernel))
theorem m825 : (Cond.instanceMethod yX11_cast) ∈ wsL_law := rin35 _ (List.mem_of_getElem? (i := 9) (by decide +kernel))
theorem m826 : (Cond.selects RX11 yX11_cast yX11_cast) ∈ wsL_law := rin35 _ (List.mem_of_getElem? (i := 10) (by decide +kernel))
theorem m827 : (Cond.code yX11_cast cX11_cast 5 (some .int)) ∈ wsL_law := rin35 _ (List.mem_of_getElem? (i := 11) (by decide +kernel))
theorem m836 : (Cond.methodLink RL 59 yX10_print) ∈ wsL_law := rin35 _ (List.mem_of_getElem? (i := 20) (by decide +kernel))
theorem m837 : (Cond.instanceMethod yX10_print) ∈ wsL_law := rin35 _ (List.mem_of_getElem? (i := 21) (by decide +kernel))
theorem m838 : (Cond.selects RX10 yX10_print yX10_print) ∈ wsL_law := rin35 _ (List.mem_of_getElem? (i := 22) (by decide +kernel))
theorem m839 : (Cond.code yX10_print cX10_print 2 (some .int)) ∈ wsL_law := rin35 _ (List.mem_of_getElem? (i := 23) (by decide +kernel))
theorem m840 : (Cond.methodLink RL 62 yX11_print) ∈ wsL_law := rin36 _ (List.mem_of_getElem? (i := 0) (by decide +kernel))
theorem m841 : (Cond.instanceMethod yX11_print) ∈ wsL_law := rin36 _ (List.mem_of_getElem? (i := 1) (by decide +kernel))
theorem m842 : (Cond.selects RX11 yX11_print yX11_print) ∈ wsL_law := rin36 _ (List.mem_of_getElem? (i := 2) (by decide +kernel))
theorem m843 : (Cond.code yX11_print cX11_print 3 (some .int)) ∈ wsL_law := rin36 _ (List.mem_of_getElem? (i := 3) (by decide +kernel))
theorem m844 : (Cond.methodLink RL 63 yX10_crack) ∈ wsL_law := rin36 _ (List.mem_of_getElem? (i := 4) (by decide +kernel))
theorem m845 : (Cond.instanceMethod yX10_crack) ∈ wsL_law := rin36 _ (List.mem_of_getElem? (i := 5) (by decide +kernel))
theorem m846 : (Cond.selects RX10 yX10_crack yX10_crack) ∈ wsL_law := rin36 _ (List.mem_of_getElem? (i := 6) (by decide +kernel))
theorem m847 : (Cond.code yX10_crack cX10_crack 3 (some .boolean)) ∈ wsL_law := rin36 _ (List.mem_of_getElem? (i := 7) (by decide +kernel))
theorem m856 : (Cond.methodLink RL 67 yX11_crack) ∈ wsL_law := rin36 _ (List.mem_of_getElem? (i := 16) (by decide +kernel))
theorem m857 : (Cond.instanceMethod yX11_crack) ∈ wsL_law := rin36 _ (List.mem_of_getElem? (i := 17) (by decide +kernel))
theorem m858 : (Cond.selects RX11 yX11_crack yX11_crack) ∈ wsL_law := rin36 _ (List.mem_of_getElem? (i := 18) (by decide +kernel))
theorem m859 : (Cond.code yX11_crack cX11_crack 3 (some .boolean)) ∈ wsL_law := rin36 _ (List.mem_of_getElem? (i := 19) (by decide +kernel))
theorem m860 : (Cond.methodLink RL 68 yX10_year) ∈ wsL_law := rin36 _ (List.mem_of_getElem? (i := 20) (by decide +kernel))
theorem m861 : (Cond.instanceMethod yX10_year) ∈ wsL_law := rin36 _ (List.mem_of_getElem? (i := 21) (by decide +kernel))
theorem m862 : (Cond.selects RX10 yX10_year yX10_year) ∈ wsL_law := rin36 _ (List.mem_of_getElem? (i := 22) (by decide +kernel))
theorem m863 : (Cond.code yX10_year cX10_year 1 (some .int)) ∈ wsL_law := rin36 _ (List.mem_of_getElem? (i := 23) (by decide +kernel))
theorem m865 : (Cond.methodLink RL 71 yX11_year) ∈ wsL_law := rin37 _ (List.mem_of_getElem? (i := 1) (by decide +kernel))
theorem m866 : (Cond.instanceMethod yX11_year) ∈ wsL_law := rin37 _ (List.mem_of_getElem? (i := 2) (by decide +kernel))
theorem m867 : (Cond.selects RX11 yX11_year yX11_year) ∈ wsL_law := rin37 _ (List.mem_of_getElem? (i := 3) (by decide +kernel))
theorem m868 : (Cond.code yX11_year cX11_year 1 (some .int)) ∈ wsL_law := rin37 _ (List.mem_of_getElem? (i := 4) (by decide +kernel))
theorem m869 : (Cond.methodLink RL 72 yX10_undo) ∈ wsL_law := rin37 _ (List.mem_of_getElem? (i := 5) (by decide +kernel))
theorem m870 : (Cond.instanceMethod yX10_undo) ∈ wsL_law := rin37 _ (List.mem_of_getElem? (i := 6) (by decide +kernel))
theorem m871 : (Cond.selects RX10 yX10_undo yX10_undo) ∈ wsL_law := rin37 _ (List.mem_of_getElem? (i := 7) (by decide +kernel))
theorem m872 : (Cond.code yX10_undo cX10_undo 1 (some .boolean)) ∈ wsL_law := rin37 _ (List.mem_of_getElem? (i := 8) (by decide +kernel))
theorem m882 : (Cond.methodLink RL 76 yX11_undo) ∈ wsL_law := rin37 _ (List.mem_of_getElem? (i := 18) (by decide +kernel))
theorem m883 : (Cond.instanceMethod yX11_undo) ∈ wsL_law := rin37 _ (List.mem_of_getElem? (i := 19) (by decide +kernel))
theorem m884 : (Cond.selects RX11 yX11_undo yX11_undo) ∈ wsL_law := rin37 _ (List.mem_of_getElem? (i := 20) (by decide +kernel))
theorem m885 : (Cond.code yX11_undo cX11_undo 1 (some .boolean)) ∈ wsL_law := rin37 _ (List.mem_of_getElem? (i := 21) (by decide +kernel))
theorem m890 : (Cond.methodLink RL 77 yX10_redo) ∈ wsL_law := rin38 _ (List.mem_of_getElem? (i := 2) (by decide +kernel))
theorem m891 : (Cond.instanceMethod yX10_redo) ∈ wsL_law := rin38 _ (List.mem_of_getElem? (i := 3) (by decide +kernel))
theorem m892 : (Cond.selects RX10 yX10_redo yX10_redo) ∈ wsL_law := rin38 _ (List.mem_of_getElem? (i := 4) (by decide +kernel))
theorem m893 : (Cond.code yX10_redo cX10_redo 1 (some .boolean)) ∈ wsL_law := rin38 _ (List.mem_of_getElem? (i := 5) (by decide +kernel))
theorem m898 : (Cond.methodLink RL 80 yX11_redo) ∈ wsL_law := rin38 _ (List.mem_of_getElem? (i := 10) (by decide +kernel))
theorem m899 : (Cond.instanceMethod yX11_redo) ∈ wsL_law := rin38 _ (List.mem_of_getElem? (i := 11) (by decide +kernel))
theorem m900 : (Cond.selects RX11 yX11_redo yX11_redo) ∈ wsL_law := rin38 _ (List.mem_of_getElem? (i := 12) (by decide +kernel))
theorem m901 : (Cond.code yX11_redo cX11_redo 1 (some .boolean)) ∈ wsL_law := rin38 _ (List.mem_of_getElem? (i := 13) (by decide +kernel))
theorem m902 : (Cond.methodLink RL 81 yX10_whose) ∈ wsL_law := rin38 _ (List.mem_of_getElem? (i := 14) (by decide +kernel))
theorem m903 : (Cond.instanceMethod yX10_whose) ∈ wsL_law := rin38 _ (List.mem_of_getElem? (i := 15) (by decide +kernel))
theorem m904 : (Cond.selects RX10 yX10_whose yX10_whose) ∈ wsL_law := rin38 _ (List.mem_of_getElem? (i := 16) (by decide +kernel))
theorem m905 : (Cond.code yX10_whose cX10_whose 6 (some .int)) ∈ wsL_law := rin38 _ (List.mem_of_getElem? (i := 17) (by decide +kernel))
theorem m906 : (Cond.methodLink RL 84 yX11_whose) ∈ wsL_law := rin38 _ (List.mem_of_getElem? (i := 18) (by decide +kernel))
theorem m907 : (Cond.instanceMethod yX11_whose) ∈ wsL_law := rin38 _ (List.mem_of_getElem? (i := 19) (by decide +kernel))
theorem m908 : (Cond.selects RX11 yX11_whose yX11_whose) ∈ wsL_law := rin38 _ (List.mem_of_getElem? (i := 20) (by decide +kernel))
theorem m909 : (Cond.code yX11_whose cX11_whose 6 (some .int)) ∈ wsL_law := rin38 _ (List.mem_of_getElem? (i := 21) (by decide +kernel))
theorem m910 : (Cond.methodLink RL 85 yX10_made) ∈ wsL_law := rin38 _ (List.mem_of_getElem? (i := 22) (by decide +kernel))
theorem m911 : (Cond.instanceMethod yX10_made) ∈ wsL_law := rin38 _ (List.mem_of_getElem? (i := 23) (by decide +kernel))
theorem m912 : (Cond.selects RX10 yX10_made yX10_made) ∈ wsL_law := rin39 _ (List.mem_of_getElem? (i := 0) (by decide +kernel))
theorem m913 : (Cond.code yX10_made cX10_made 6 (some .int)) ∈ wsL_law := rin39 _ (List.mem_of_getElem? (i := 1) (by decide +kernel))
theorem m919 : (Cond.methodLink RL 88 yX11_made) ∈ wsL_law := rin39 _ (List.mem_of_getElem? (i := 7) (by decide +kernel))
theorem m920 : (Cond.instanceMethod yX11_made) ∈ wsL_law := rin39 _ (List.mem_of_getElem? (i := 8) (by decide +kernel))
theorem m921 : (Cond.selects RX11 yX11_made yX11_made) ∈ wsL_law := rin39 _ (List.mem_of_getElem? (i := 9) (by decide +kernel))
theorem m922 : (Cond.code yX11_made cX11_made 6 (some .int)) ∈ wsL_law := rin39 _ (List.mem_of_getElem? (i := 10) (by decide +kernel))
theorem m923 : (Cond.methodLink RL 89 yX10_apart) ∈ wsL_law := rin39 _ (List.mem_of_getElem? (i := 11) (by decide +kernel))
theorem m924 : (Cond.instanceMethod yX10_apart) ∈ wsL_law := rin39 _ (List.mem_of_getElem? (i := 12) (by decide +kernel))
theorem m925 : (Cond.selects RX10 yX10_apart yX10_apart) ∈ wsL_law := rin39 _ (List.mem_of_getElem? (i := 13) (by decide +kernel))
theorem m926 : (Cond.code yX10_apart cX10_apart 5 (some .int)) ∈ wsL_law := rin39 _ (List.mem_of_getElem? (i := 14) (by decide +kernel))
theorem m927 : (Cond.methodLink RL 93 yX11_apart) ∈ wsL_law := rin39 _ (List.mem_of_getElem? (i := 15) (by decide +kernel))
theorem m928 : (Cond.instanceMethod yX11_apart) ∈ wsL_law := rin39 _ (List.mem_of_getElem? (i := 16) (by decide +kernel))
theorem m929 : (Cond.selects RX11 yX11_apart yX11_apart) ∈ wsL_law := rin39 _ (List.mem_of_getElem? (i := 17) (by decide +kernel))
theorem m930 : (Cond.code yX11_apart cX11_apart 4 (some .int)) ∈ wsL_law := rin39 _ (List.mem_of_getElem? (i := 18) (by decide +kernel))
theorem m931 : (Cond.methodLink RL 94 yX10_heats) ∈ wsL_law := rin39 _ (List.mem_of_getElem? (i := 19) (by decide +kernel))
theorem m932 : (Cond.instanceMethod yX10_heats) ∈ wsL_law := rin39 _ (List.mem_of_getElem? (i := 20) (by decide +kernel))
theorem m933 : (Cond.selects RX10 yX10_heats yX10_heats) ∈ wsL_law := rin39 _ (List.mem_of_getElem? (i := 21) (by decide +kernel))
theorem m934 : (Cond.code yX10_heats cX10_heats 6 (some .int)) ∈ wsL_law := rin39 _ (List.mem_of_getElem? (i := 22) (by decide +kernel))
theorem m935 : (Cond.methodLink RL 97 yX11_heats) ∈ wsL_law := rin39 _ (List.mem_of_getElem? (i := 23) (by decide +kernel))
theorem m936 : (Cond.instanceMethod yX11_heats) ∈ wsL_law := rin40 _ (List.mem_of_getElem? (i := 0) (by decide +kernel))
theorem m937 : (Cond.selects RX11 yX11_heats yX11_heats) ∈ wsL_law := rin40 _ (List.mem_of_getElem? (i := 1) (by decide +kernel))
theorem m938 : (Cond.code yX11_heats cX11_heats 6 (some .int)) ∈ wsL_law := rin40 _ (List.mem_of_getElem? (i := 2) (by decide +kernel))
theorem m939 : (Cond.methodLink RL 98 yX10_luck) ∈ wsL_law := rin40 _ (List.mem_of_getElem? (i := 3) (by decide +kernel))
theorem m940 : (Cond.instanceMethod yX10_luck) ∈ wsL_law := rin40 _ (List.mem_of_getElem? (i := 4) (by decide +kernel))
theorem m941 : (Cond.selects RX10 yX10_luck yX10_luck) ∈ wsL_law := rin40 _ (List.mem_of_getElem? (i := 5) (by decide +kernel))
theorem m942 : (Cond.code yX10_luck cX10_luck 7 (some .int)) ∈ wsL_law := rin40 _ (List.mem_of_getElem? (i := 6) (by decide +kernel))
theorem m943 : (Cond.methodLink RL 101 yX11_luck) ∈ wsL_law := rin40 _ (List.mem_of_getElem? (i := 7) (by decide +kernel))
theorem m944 : (Cond.instanceMethod yX11_luck) ∈ wsL_law := rin40 _ (List.mem_of_getElem? (i := 8) (by decide +kernel))
theorem m945 : (Cond.selects RX11 yX11_luck yX11_luck) ∈ wsL_law := rin40 _ (List.mem_of_getElem? (i := 9) (by decide +kernel))
theorem m946 : (Cond.code yX11_luck cX11_luck 5 (some .int)) ∈ wsL_law := rin40 _ (List.mem_of_getElem? (i := 10) (by decide +kernel))
theorem m955 : (Cond.methodLink RL 102 yX10_likely) ∈ wsL_law := rin40 _ (List.mem_of_getElem? (i := 19) (by decide +kernel))
theorem m956 : (Cond.instanceMethod yX10_likely) ∈ wsL_law := rin40 _ (List.mem_of_getElem? (i := 20) (by decide +kernel))
theorem m957 : (Cond.selects RX10 yX10_likely yX10_likely) ∈ wsL_law := rin40 _ (List.mem_of_getElem? (i := 21) (by decide +kernel))
theorem m958 : (Cond.code yX10_likely cX10_likely 7 (some .int)) ∈ wsL_law := rin40 _ (List.mem_of_getElem? (i := 22) (by decide +kernel))
theorem m963 : (Cond.methodLink RL 105 yX11_likely) ∈ wsL_law := rin41 _ (List.mem_of_getElem? (i := 3) (by decide +kernel))
theorem m964 : (Cond.instanceMethod yX11_likely) ∈ wsL_law := rin41 _ (List.mem_of_getElem? (i := 4) (by decide +kernel))
theorem m965 : (Cond.selects RX11 yX11_likely yX11_likely) ∈ wsL_law := rin41 _ (List.mem_of_getElem? (i := 5) (by decide +kernel))
theorem m966 : (Cond.code yX11_likely cX11_likely 10 (some .int)) ∈ wsL_law := rin41 _ (List.mem_of_getElem? (i := 6) (by decide +kernel))
theorem m967 : (Cond.methodLink RL 106 yX10_fades) ∈ wsL_law := rin41 _ (List.mem_of_getElem? (i := 7) (by decide +kernel))
theorem m968 : (Cond.instanceMethod yX10_fades) ∈ wsL_law := rin41 _ (List.mem_of_getElem? (i := 8) (by decide +kernel))
theorem m969 : (Cond.selects RX10 yX10_fades yX10_fades) ∈ wsL_law := rin41 _ (List.mem_of_getElem? (i := 9) (by decide +kernel))
theorem m970 : (Cond.code yX10_fades cX10_fades 4 (some .int)) ∈ wsL_law := rin41 _ (List.mem_of_getElem? (i := 10) (by decide +kernel))
theorem m975 : (Cond.methodLink RL 109 yX11_fades) ∈ wsL_law := rin41 _ (List.mem_of_getElem? (i := 15) (by decide +kernel))
theorem m976 : (Cond.instanceMethod yX11_fades) ∈ wsL_law := rin41 _ (List.mem_of_getElem? (i := 16) (by decide +kernel))
theorem m977 : (Cond.selects RX11 yX11_fades yX11_fades) ∈ wsL_law := rin41 _ (List.mem_of_getElem? (i := 17) (by decide +kernel))
theorem m978 : (Cond.code yX11_fades cX11_fades 6 (some .int)) ∈ wsL_law := rin41 _ (List.mem_of_getElem? (i := 18) (by decide +kernel))
theorem m979 : (Cond.methodLink RL 110 yX10_kin) ∈ wsL_law := rin41 _ (List.mem_of_getElem? (i := 19) (by decide +kernel))
theorem m980 : (Cond.instanceMethod yX10_kin) ∈ wsL_law := rin41 _ (List.mem_of_getElem? (i := 20) (by decide +kernel))
theorem m981 : (Cond.selects RX10 yX10_kin yX10_kin) ∈ wsL_law := rin41 _ (List.mem_of_getElem? (i := 21) (by decide +kernel))
theorem m982 : (Cond.code yX10_kin cX10_kin 7 (some .int)) ∈ wsL_law := rin41 _ (List.mem_of_getElem? (i := 22) (by decide +kernel))
theorem m983 : (Cond.methodLink RL 113 yX11_kin) ∈ wsL_law := rin41 _ (List.mem_of_getElem? (i := 23) (by decide +kernel))
theorem m984 : (Cond.instanceMethod yX11_kin) ∈ wsL_law := rin42 _ (List.mem_of_getElem? (i := 0) (by decide +kernel))
theorem m985 : (Cond.selects RX11 yX11_kin yX11_kin) ∈ wsL_law := rin42 _ (List.mem_of_getElem? (i := 1) (by decide +kernel))
theorem m986 : (Cond.code yX11_kin cX11_kin 5 (some .int)) ∈ wsL_law := rin42 _ (List.mem_of_getElem? (i := 2) (by decide +kernel))
theorem m991 : (Cond.methodLink RL 114 yX10_thumb) ∈ wsL_law := rin42 _ (List.mem_of_getElem? (i := 7) (by decide +kernel))
theorem m992 : (Cond.instanceMethod yX10_thumb) ∈ wsL_law := rin42 _ (List.mem_of_getElem? (i := 8) (by decide +kernel))
theorem m993 : (Cond.selects RX10 yX10_thumb yX10_thumb) ∈ wsL_law := rin42 _ (List.mem_of_getElem? (i := 9) (by decide +kernel))
theorem m994 : (Cond.code yX10_thumb cX10_thumb 7 (some .int)) ∈ wsL_law := rin42 _ (List.mem_of_getElem? (i := 10) (by decide +kernel))
theorem m995 : (Cond.methodLink RL 117 yX11_thumb) ∈ wsL_law := rin42 _ (List.mem_of_getElem? (i := 11) (by decide +kernel))
theorem m996 : (Cond.instanceMethod yX11_thumb) ∈ wsL_law := rin42 _ (List.mem_of_getElem? (i := 12) (by decide +kernel))
theorem m997 : (Cond.selects RX11 yX11_thumb yX11_thumb) ∈ wsL_law := rin42 _ (List.mem_of_getElem? (i := 13) (by decide +kernel))
theorem m998 : (Cond.code yX11_thumb cX11_thumb 6 (some .int)) ∈ wsL_law := rin42 _ (List.mem_of_getElem? (i := 14) (by decide +kernel))
theorem m999 : (Cond.methodLink RL 118 yX10_share) ∈ wsL_law := rin42 _ (List.mem_of_getElem? (i := 15) (by decide +kernel))
theorem m1000 : (Cond.instanceMethod yX10_share) ∈ wsL_law := rin42 _ (List.mem_of_getElem? (i := 16) (by decide +kernel))
theorem m1001 : (Cond.selects RX10 yX10_share yX10_share) ∈ wsL_law := rin42 _ (List.mem_of_getElem? (i := 17) (by decide +kernel))
theorem m1002 : (Cond.code yX10_share cX10_share 11 (some .int)) ∈ wsL_law := rin42 _ (List.mem_of_getElem? (i := 18) (by decide +kernel))
theorem m1007 : (Cond.methodLink RL 121 yX11_share) ∈ wsL_law := rin42 _ (List.mem_of_getElem? (i := 23) (by decide +kernel))
theorem m1008 : (Cond.instanceMethod yX11_share) ∈ wsL_law := rin43 _ (List.mem_of_getElem? (i := 0) (by decide +kernel))
theorem m1009 : (Cond.selects RX11 yX11_share yX11_share) ∈ wsL_law := rin43 _ (List.mem_of_getElem? (i := 1) (by decide +kernel))
theorem m1010 : (Cond.code yX11_share cX11_share 4 (some .int)) ∈ wsL_law := rin43 _ (List.mem_of_getElem? (i := 2) (by decide +kernel))
theorem m1015 : (Cond.methodLink RL 122 yX10_forge) ∈ wsL_law := rin43 _ (List.mem_of_getElem? (i := 7) (by decide +kernel))
theorem m1016 : (Cond.instanceMethod yX10_forge) ∈ wsL_law := rin43 _ (List.mem_of_getElem? (i := 8) (by decide +kernel))
theorem m1017 : (Cond.selects RX10 yX10_forge yX10_forge) ∈ wsL_law := rin43 _ (List.mem_of_getElem? (i := 9) (by decide +kernel))
theorem m1018 : (Cond.code yX10_forge cX10_forge 10 (some .int)) ∈ wsL_law := rin43 _ (List.mem_of_getElem? (i := 10) (by decide +kernel))
theorem m1019 : (Cond.methodLink RL 125 yX11_forge) ∈ wsL_law := rin43 _ (List.mem_of_getElem? (i := 11) (by decide +kernel))
theorem m1020 : (Cond.instanceMethod yX11_forge) ∈ wsL_law := rin43 _ (List.mem_of_getElem? (i := 12) (by decide +kernel))
theorem m1021 : (Cond.selects RX11 yX11_forge yX11_forge) ∈ wsL_law := rin43 _ (List.mem_of_getElem? (i := 13) (by decide +kernel))
theorem m1022 : (Cond.code yX11_forge cX11_forge 10 (some .int)) ∈ wsL_law := rin43 _ (List.mem_of_getElem? (i := 14) (by decide +kernel))
theorem m1023 : (Cond.methodLink RL 126 yX10_nearest) ∈ wsL_law := rin43 _ (List.mem_of_getElem? (i := 15) (by decide +kernel))
theorem m1024 : (Cond.instanceMethod yX10_nearest) ∈ wsL_law := rin43 _ (List.mem_of_getElem? (i := 16) (by decide +kernel))
theorem m1025 : (Cond.selects RX10 yX10_nearest yX10_nearest) ∈ wsL_law := rin43 _ (List.mem_of_getElem? (i := 17) (by decide +kernel))
theorem m1026 : (Cond.code yX10_nearest cX10_nearest 9 (some .int)) ∈ wsL_law := rin43 _ (List.mem_of_getElem? (i := 18) (by decide +kernel))
theorem m1027 : (Cond.methodLink RL 129 yX11_nearest) ∈ wsL_law := rin43 _ (List.mem_of_getElem? (i := 19) (by decide +kernel))
theorem m1028 : (Cond.instanceMethod yX11_nearest) ∈ wsL_law := rin43 _ (List.mem_of_getElem? (i := 20) (by decide +kernel))
theorem m1029 : (Cond.selects RX11 yX11_nearest yX11_nearest) ∈ wsL_law := rin43 _ (List.mem_of_getElem? (i := 21) (by decide +kernel))
theorem m1030 : (Cond.code yX11_nearest cX11_nearest 8 (some .int)) ∈ wsL_law := rin43 _ (List.mem_of_getElem? (i := 22) (by decide +kernel))
theorem m1031 : (Cond.methodLink RL 130 yX10_common) ∈ wsL_law := rin43 _ (List.mem_of_getElem? (i := 23) (by decide +kernel))
theorem m1032 : (Cond.instanceMethod yX10_common) ∈ wsL_law := rin44 _ (List.mem_of_getElem? (i := 0) (by decide +kernel))
theorem m1033 : (Cond.selects RX10 yX10_common yX10_common) ∈ wsL_law := rin44 _ (List.mem_of_getElem? (i := 1) (by decide +kernel))
theorem m1034 : (Cond.code yX10_common cX10_common 2 (some .int)) ∈ wsL_law := rin44 _ (List.mem_of_getElem? (i := 2) (by decide +kernel))
theorem m1047 : (Cond.methodLink RL 133 yX11_common) ∈ wsL_law := rin44 _ (List.mem_of_getElem? (i := 15) (by decide +kernel))
theorem m1048 : (Cond.instanceMethod yX11_common) ∈ wsL_law := rin44 _ (List.mem_of_getElem? (i := 16) (by decide +kernel))
theorem m1049 : (Cond.selects RX11 yX11_common yX11_common) ∈ wsL_law := rin44 _ (List.mem_of_getElem? (i := 17) (by decide +kernel))
theorem m1050 : (Cond.code yX11_common cX11_common 4 (some .int)) ∈ wsL_law := rin44 _ (List.mem_of_getElem? (i := 18) (by decide +kernel))
theorem m1051 : (Cond.methodLink RL 134 yX10_alike) ∈ wsL_law := rin44 _ (List.mem_of_getElem? (i := 19) (by decide +kernel))
theorem m1052 : (Cond.instanceMethod yX10_alike) ∈ wsL_law := rin44 _ (List.mem_of_getElem? (i := 20) (by decide +kernel))
theorem m1053 : (Cond.selects RX10 yX10_alike yX10_alike) ∈ wsL_law := rin44 _ (List.mem_of_getElem? (i := 21) (by decide +kernel))
theorem m1054 : (Cond.code yX10_alike cX10_alike 6 (some .int)) ∈ wsL_law := rin44 _ (List.mem_of_getElem? (i := 22) (by decide +kernel))
theorem m1055 : (Cond.methodLink RL 138 yX11_alike) ∈ wsL_law := rin44 _ (List.mem_of_getElem? (i := 23) (by decide +kernel))
theorem m1056 : (Cond.instanceMethod yX11_alike) ∈ wsL_law := rin45 _ (List.mem_of_getElem? (i := 0) (by decide +kernel))
theorem m1057 : (Cond.selects RX11 yX11_alike yX11_alike) ∈ wsL_law := rin45 _ (List.mem_of_getElem? (i := 1) (by decide +kernel))
theorem m1058 : (Cond.code yX11_alike cX11_alike 5 (some .int)) ∈ wsL_law := rin45 _ (List.mem_of_getElem? (i := 2) (by decide +kernel))
theorem m1059 : (Cond.methodLink RL 139 yX10_tell) ∈ wsL_law := rin45 _ (List.mem_of_getElem? (i := 3) (by decide +kernel))
theorem m1060 : (Cond.instanceMethod yX10_tell) ∈ wsL_law := rin45 _ (List.mem_of_getElem? (i := 4) (by decide +kernel))
theorem m1061 : (Cond.selects RX10 yX10_tell yX10_tell) ∈ wsL_law := rin45 _ (List.mem_of_getElem? (i := 5) (by decide +kernel))
theorem m1062 : (Cond.code yX10_tell cX10_tell 4 (some .int)) ∈ wsL_law := rin45 _ (List.mem_of_getElem? (i := 6) (by decide +kernel))
theorem m1072 : (Cond.methodLink RL 142 yX11_tell) ∈ wsL_law := rin45 _ (List.mem_of_getElem? (i := 16) (by decide +kernel))
theorem m1073 : (Cond.instanceMethod yX11_tell) ∈ wsL_law := rin45 _ (List.mem_of_getElem? (i := 17) (by decide +kernel))
theorem m1074 : (Cond.selects RX11 yX11_tell yX11_tell) ∈ wsL_law := rin45 _ (List.mem_of_getElem? (i := 18) (by decide +kernel))
theorem m1075 : (Cond.code yX11_tell cX11_tell 3 (some .int)) ∈ wsL_law := rin45 _ (List.mem_of_getElem? (i := 19) (by decide +kernel))
theorem m1080 : (Cond.methodLink RL 143 yX10_round) ∈ wsL_law := rin46 _ (List.mem_of_getElem? (i := 0) (by decide +kernel))
theorem m1081 : (Cond.instanceMethod yX10_round) ∈ wsL_law := rin46 _ (List.mem_of_getElem? (i := 1) (by decide +kernel))
theorem m1082 : (Cond.selects RX10 yX10_round yX10_round) ∈ wsL_law := rin46 _ (List.mem_of_getElem? (i := 2) (by decide +kernel))
theorem m1083 : (Cond.code yX10_round cX10_round 8 (some .int)) ∈ wsL_law := rin46 _ (List.mem_of_getElem? (i := 3) (by decide +kernel))
theorem m1085 : (Cond.methodLink RL 146 yX11_round) ∈ wsL_law := rin46 _ (List.mem_of_getElem? (i := 5) (by decide +kernel))
theorem m1086 : (Cond.instanceMethod yX11_round) ∈ wsL_law := rin46 _ (List.mem_of_getElem? (i := 6) (by decide +kernel))
theorem m1087 : (Cond.selects RX11 yX11_round yX11_round) ∈ wsL_law := rin46 _ (List.mem_of_getElem? (i := 7) (by decide +kernel))
theorem m1088 : (Cond.code yX11_round cX11_round 7 (some .int)) ∈ wsL_law := rin46 _ (List.mem_of_getElem? (i := 8) (by decide +kernel))
theorem m1089 : (Cond.methodLink RL 147 yX10_steady) ∈ wsL_law := rin46 _ (List.mem_of_getElem? (i := 9) (by decide +kernel))
theorem m1090 : (Cond.instanceMethod yX10_steady) ∈ wsL_law := rin46 _ (List.mem_of_getElem? (i := 10) (by decide +kernel))
theorem m1091 : (Cond.selects RX10 yX10_steady yX10_steady) ∈ wsL_law := rin46 _ (List.mem_of_getElem? (i := 11) (by decide +kernel))
theorem m1092 : (Cond.code yX10_steady cX10_steady 8 (some .int)) ∈ wsL_law := rin46 _ (List.mem_of_getElem? (i := 12) (by decide +kernel))
theorem m1093 : (Cond.methodLink RL 150 yX11_steady) ∈ wsL_law := rin46 _ (List.mem_of_getElem? (i := 13) (by decide +kernel))
theorem m1094 : (Cond.instanceMethod yX11_steady) ∈ wsL_law := rin46 _ (List.mem_of_getElem? (i := 14) (by decide +kernel))
theorem m1095 : (Cond.selects RX11 yX11_steady yX11_steady) ∈ wsL_law := rin46 _ (List.mem_of_getElem? (i := 15) (by decide +kernel))
theorem m1096 : (Cond.code yX11_steady cX11_steady 7 (some .int)) ∈ wsL_law := rin46 _ (List.mem_of_getElem? (i := 16) (by decide +kernel))
theorem m1097 : (Cond.methodLink RL 151 yX10_against) ∈ wsL_law := rin46 _ (List.mem_of_getElem? (i := 17) (by decide +kernel))
theorem m1098 : (Cond.instanceMethod yX10_against) ∈ wsL_law := rin46 _ (List.mem_of_getElem? (i := 18) (by decide +kernel))
theorem m1099 : (Cond.selects RX10 yX10_against yX10_against) ∈ wsL_law := rin46 _ (List.mem_of_getElem? (i := 19) (by decide +kernel))
theorem m1100 : (Cond.code yX10_against cX10_against 6 (some .int)) ∈ wsL_law := rin46 _ (List.mem_of_getElem? (i := 20) (by decide +kernel))
theorem m1101 : (Cond.methodLink RL 154 yX11_against) ∈ wsL_law := rin46 _ (List.mem_of_getElem? (i := 21) (by decide +kernel))
theorem m1102 : (Cond.instanceMethod yX11_against) ∈ wsL_law := rin46 _ (List.mem_of_getElem? (i := 22) (by decide +kernel))
theorem m1103 : (Cond.selects RX11 yX11_against yX11_against) ∈ wsL_law := rin46 _ (List.mem_of_getElem? (i := 23) (by decide +kernel))
theorem m1104 : (Cond.code yX11_against cX11_against 6 (some .int)) ∈ wsL_law := rin47 _ (List.mem_of_getElem? (i := 0) (by decide +kernel))
theorem m1105 : (Cond.methodLink RL 155 yX10_wax) ∈ wsL_law := rin47 _ (List.mem_of_getElem? (i := 1) (by decide +kernel))
theorem m1106 : (Cond.instanceMethod yX10_wax) ∈ wsL_law := rin47 _ (List.mem_of_getElem? (i := 2) (by decide +kernel))
theorem m1107 : (Cond.selects RX10 yX10_wax yX10_wax) ∈ wsL_law := rin47 _ (List.mem_of_getElem? (i := 3) (by decide +kernel))
theorem m1108 : (Cond.code yX10_wax cX10_wax 3 (some .int)) ∈ wsL_law := rin47 _ (List.mem_of_getElem? (i := 4) (by decide +kernel))
theorem m1146 : (Cond.methodLink RL 158 yX11_wax) ∈ wsL_law := rin48 _ (List.mem_of_getElem? (i := 18) (by decide +kernel))
theorem m1147 : (Cond.instanceMethod yX11_wax) ∈ wsL_law := rin48 _ (List.mem_of_getElem? (i := 19) (by decide +kernel))
theorem m1148 : (Cond.selects RX11 yX11_wax yX11_wax) ∈ wsL_law := rin48 _ (List.mem_of_getElem? (i := 20) (by decide +kernel))
theorem m1149 : (Cond.code yX11_wax cX11_wax 7 (some .int)) ∈ wsL_law := rin48 _ (List.mem_of_getElem? (i := 21) (by decide +kernel))
theorem m1159 : (Cond.methodLink RL 159 yX10_sample) ∈ wsL_law := rin49 _ (List.mem_of_getElem? (i := 7) (by decide +kernel))
theorem m1160 : (Cond.instanceMethod yX10_sample) ∈ wsL_law := rin49 _ (List.mem_of_getElem? (i := 8) (by decide +kernel))
theorem m1161 : (Cond.selects RX10 yX10_sample yX10_sample) ∈ wsL_law := rin49 _ (List.mem_of_getElem? (i := 9) (by decide +kernel))
theorem m1162 : (Cond.code yX10_sample cX10_sample 3 (some .int)) ∈ wsL_law := rin49 _ (List.mem_of_getElem? (i := 10) (by decide +kernel))
theorem m1169 : (Cond.methodLink RL 162 yX11_sample) ∈ wsL_law := rin49 _ (List.mem_of_getElem? (i := 17) (by decide +kernel))
theorem m1170 : (Cond.instanceMethod yX11_sample) ∈ wsL_law := rin49 _ (List.mem_of_getElem? (i := 18) (by decide +kernel))
theorem m1171 : (Cond.selects RX11 yX11_sample yX11_sample) ∈ wsL_law := rin49 _ (List.mem_of_getElem? (i := 19) (by decide +kernel))
theorem m1172 : (Cond.code yX11_sample cX11_sample 3 (some .int)) ∈ wsL_law := rin49 _ (List.mem_of_getElem? (i := 20) (by decide +kernel))
theorem m1178 : (Cond.methodLink RL 163 yX10_claim) ∈ wsL_law := rin50 _ (List.mem_of_getElem? (i := 2) (by decide +kernel))
theorem m1179 : (Cond.instanceMethod yX10_claim) ∈ wsL_law := rin50 _ (List.mem_of_getElem? (i := 3) (by decide +kernel))
theorem m1180 : (Cond.selects RX10 yX10_claim yX10_claim) ∈ wsL_law := rin50 _ (List.mem_of_getElem? (i := 4) (by decide +kernel))
theorem m1181 : (Cond.code yX10_claim cX10_claim 4 (some .int)) ∈ wsL_law := rin50 _ (List.mem_of_getElem? (i := 5) (by decide +kernel))
theorem m1185 : (Cond.methodLink RL 166 yX11_claim) ∈ wsL_law := rin50 _ (List.mem_of_getElem? (i := 9) (by decide +kernel))
theorem m1186 : (Cond.instanceMethod yX11_claim) ∈ wsL_law := rin50 _ (List.mem_of_getElem? (i := 10) (by decide +kernel))
theorem m1187 : (Cond.selects RX11 yX11_claim yX11_claim) ∈ wsL_law := rin50 _ (List.mem_of_getElem? (i := 11) (by decide +kernel))
theorem m1188 : (Cond.code yX11_claim cX11_claim 4 (some .int)) ∈ wsL_law := rin50 _ (List.mem_of_getElem? (i := 12) (by decide +kernel))
theorem m1189 : (Cond.methodLink RL 167 yX10_saw) ∈ wsL_law := rin50 _ (List.mem_of_getElem? (i := 13) (by decide +kernel))
theorem m1190 : (Cond.instanceMethod yX10_saw) ∈ wsL_law := rin50 _ (List.mem_of_getElem? (i := 14) (by decide +kernel))
theorem m1191 : (Cond.selects RX10 yX10_saw yX10_saw) ∈ wsL_law := rin50 _ (List.mem_of_getElem? (i := 15) (by decide +kernel))
theorem m1192 : (Cond.code yX10_saw cX10_saw 4 (some .int)) ∈ wsL_law := rin50 _ (List.mem_of_getElem? (i := 16) (by decide +kernel))
theorem m1193 : (Cond.methodLink RL 170 yX11_saw) ∈ wsL_law := rin50 _ (List.mem_of_getElem? (i := 17) (by decide +kernel))
theorem m1194 : (Cond.instanceMethod yX11_saw) ∈ wsL_law := rin50 _ (List.mem_of_getElem? (i := 18) (by decide +kernel))
theorem m1195 : (Cond.selects RX11 yX11_saw yX11_saw) ∈ wsL_law := rin50 _ (List.mem_of_getElem? (i := 19) (by decide +kernel))
theorem m1196 : (Cond.code yX11_saw cX11_saw 4 (some .int)) ∈ wsL_law := rin50 _ (List.mem_of_getElem? (i := 20) (by decide +kernel))
theorem m1197 : (Cond.methodLink RL 171 yX10_link) ∈ wsL_law := rin50 _ (List.mem_of_getElem? (i := 21) (by decide +kernel))
theorem m1198 : (Cond.instanceMethod yX10_link) ∈ wsL_law := rin50 _ (List.mem_of_getElem? (i := 22) (by decide +kernel))
theorem m1199 : (Cond.selects RX10 yX10_link yX10_link) ∈ wsL_law := rin50 _ (List.mem_of_getElem? (i := 23) (by decide +kernel))
theorem m1200 : (Cond.code yX10_link cX10_link 4 (some .int)) ∈ wsL_law := rin51 _ (List.mem_of_getElem? (i := 0) (by decide +kernel))
theorem m1204 : (Cond.methodLink RL 174 yX11_link) ∈ wsL_law := rin51 _ (List.mem_of_getElem? (i := 4) (by decide +kernel))
theorem m1205 : (Cond.instanceMethod yX11_link) ∈ wsL_law := rin51 _ (List.mem_of_getElem? (i := 5) (by decide +kernel))
theorem m1206 : (Cond.selects RX11 yX11_link yX11_link) ∈ wsL_law := rin51 _ (List.mem_of_getElem? (i := 6) (by decide +kernel))
theorem m1207 : (Cond.code yX11_link cX11_link 4 (some .int)) ∈ wsL_law := rin51 _ (List.mem_of_getElem? (i := 7) (by decide +kernel))
theorem m1208 : (Cond.methodLink RL 175 yX10_untell) ∈ wsL_law := rin51 _ (List.mem_of_getElem? (i := 8) (by decide +kernel))
theorem m1209 : (Cond.instanceMethod yX10_untell) ∈ wsL_law := rin51 _ (List.mem_of_getElem? (i := 9) (by decide +kernel))
theorem m1210 : (Cond.selects RX10 yX10_untell yX10_untell) ∈ wsL_law := rin51 _ (List.mem_of_getElem? (i := 10) (by decide +kernel))
theorem m1211 : (Cond.code yX10_untell cX10_untell 2 (some .boolean)) ∈ wsL_law := rin51 _ (List.mem_of_getElem? (i := 11) (by decide +kernel))
theorem m1214 : (Cond.methodLink RL 179 yX11_untell) ∈ wsL_law := rin51 _ (List.mem_of_getElem? (i := 14) (by decide +kernel))
theorem m1215 : (Cond.instanceMethod yX11_untell) ∈ wsL_law := rin51 _ (List.mem_of_getElem? (i := 15) (by decide +kernel))
theorem m1216 : (Cond.selects RX11 yX11_untell yX11_untell) ∈ wsL_law := rin51 _ (List.mem_of_getElem? (i := 16) (by decide +kernel))
theorem m1217 : (Cond.code yX11_untell cX11_untell 2 (some .boolean)) ∈ wsL_law := rin51 _ (List.mem_of_getElem? (i := 17) (by decide +kernel))
theorem m1218 : (Cond.methodLink RL 180 yX10_later) ∈ wsL_law := rin51 _ (List.mem_of_getElem? (i := 18) (by decide +kernel))
theorem m1219 : (Cond.instanceMethod yX10_later) ∈ wsL_law := rin51 _ (List.mem_of_getElem? (i := 19) (by decide +kernel))
theorem m1220 : (Cond.selects RX10 yX10_later yX10_later) ∈ wsL_law := rin51 _ (List.mem_of_getElem? (i := 20) (by decide +kernel))
theorem m1221 : (Cond.code yX10_later cX10_later 2 (some .int)) ∈ wsL_law := rin51 _ (List.mem_of_getElem? (i := 21) (by decide +kernel))
theorem m1223 : (Cond.methodLink RL 183 yX11_later) ∈ wsL_law := rin51 _ (List.mem_of_getElem? (i := 23) (by decide +kernel))
theorem m1224 : (Cond.instanceMethod yX11_later) ∈ wsL_law := rin52 _ (List.mem_of_getElem? (i := 0) (by decide +kernel))
theorem m1225 : (Cond.selects RX11 yX11_later yX11_later) ∈ wsL_law := rin52 _ (List.mem_of_getElem? (i := 1) (by decide +kernel))
theorem m1226 : (Cond.code yX11_later cX11_later 2 (some .int)) ∈ wsL_law := rin52 _ (List.mem_of_getElem? (i := 2) (by decide +kernel))
theorem m1228 : (Cond.methodLink RL 184 yX10_tree) ∈ wsL_law := rin52 _ (List.mem_of_getElem? (i := 4) (by decide +kernel))
theorem m1229 : (Cond.instanceMethod yX10_tree) ∈ wsL_law := rin52 _ (List.mem_of_getElem? (i := 5) (by decide +kernel))
theorem m1230 : (Cond.selects RX10 yX10_tree yX10_tree) ∈ wsL_law := rin52 _ (List.mem_of_getElem? (i := 6) (by decide +kernel))
theorem m1231 : (Cond.code yX10_tree cX10_tree 5 (some .int)) ∈ wsL_law := rin52 _ (List.mem_of_getElem? (i := 7) (by decide +kernel))
theorem m1278 : (Cond.methodLink RL 187 yX11_tree) ∈ wsL_law := rin54 _ (List.mem_of_getElem? (i := 6) (by decide +kernel))
theorem m1279 : (Cond.instanceMethod yX11_tree) ∈ wsL_law := rin54 _ (List.mem_of_getElem? (i := 7) (by decide +kernel))
theorem m1280 : (Cond.selects RX11 yX11_tree yX11_tree) ∈ wsL_law := rin54 _ (List.mem_of_getElem? (i := 8) (by decide +kernel))
theorem m1281 : (Cond.code yX11_tree cX11_tree 10 (some .int)) ∈ wsL_law := rin54 _ (List.mem_of_getElem? (i := 9) (by decide +kernel))
theorem m1295 : (Cond.methodLink RL 188 yX10_centre) ∈ wsL_law := rin54 _ (List.mem_of_getElem? (i := 23) (by decide +kernel))
theorem m1296 : (Cond.instanceMethod yX10_centre) ∈ wsL_law := rin55 _ (List.mem_of_getElem? (i := 0) (by decide +kernel))
theorem m1297 : (Cond.selects RX10 yX10_centre yX10_centre) ∈ wsL_law := rin55 _ (List.mem_of_getElem? (i := 1) (by decide +kernel))
theorem m1298 : (Cond.code yX10_centre cX10_centre 5 (some .int)) ∈ wsL_law := rin55 _ (List.mem_of_getElem? (i := 2) (by decide +kernel))
theorem m1303 : (Cond.methodLink RL 191 yX11_centre) ∈ wsL_law := rin55 _ (List.mem_of_getElem? (i := 7) (by decide +kernel))
theorem m1304 : (Cond.instanceMethod yX11_centre) ∈ wsL_law := rin55 _ (List.mem_of_getElem? (i := 8) (by decide +kernel))
theorem m1305 : (Cond.selects RX11 yX11_centre yX11_centre) ∈ wsL_law := rin55 _ (List.mem_of_getElem? (i := 9) (by decide +kernel))
theorem m1306 : (Cond.code yX11_centre cX11_centre 8 (some .int)) ∈ wsL_law := rin55 _ (List.mem_of_getElem? (i := 10) (by decide +kernel))
theorem m1307 : (Cond.methodLink RL 192 yX10_clans) ∈ wsL_law := rin55 _ (List.mem_of_getElem? (i := 11) (by decide +kernel))
theorem m1308 : (Cond.instanceMethod yX10_clans) ∈ wsL_law := rin55 _ (List.mem_of_getElem? (i := 12) (by decide +kernel))
theorem m1309 : (Cond.selects RX10 yX10_clans yX10_clans) ∈ wsL_law := rin55 _ (List.mem_of_getElem? (i := 13) (by decide +kernel))
theorem m1310 : (Cond.code yX10_clans cX10_clans 4 (some .int)) ∈ wsL_law := rin55 _ (List.mem_of_getElem? (i := 14) (by decide +kernel))
theorem m1328 : (Cond.methodLink RL 195 yX11_clans) ∈ wsL_law := rin56 _ (List.mem_of_getElem? (i := 8) (by decide +kernel))
theorem m1329 : (Cond.instanceMethod yX11_clans) ∈ wsL_law := rin56 _ (List.mem_of_getElem? (i := 9) (by decide +kernel))
theorem m1330 : (Cond.selects RX11 yX11_clans yX11_clans) ∈ wsL_law := rin56 _ (List.mem_of_getElem? (i := 10) (by decide +kernel))
theorem m1331 : (Cond.code yX11_clans cX11_clans 9 (some .int)) ∈ wsL_law := rin56 _ (List.mem_of_getElem? (i := 11) (by decide +kernel))
theorem m1336 : (Cond.methodLink RL 196 yX10_origin) ∈ wsL_law := rin56 _ (List.mem_of_getElem? (i := 16) (by decide +kernel))
theorem m1337 : (Cond.instanceMethod yX10_origin) ∈ wsL_law := rin56 _ (List.mem_of_getElem? (i := 17) (by decide +kernel))
theorem m1338 : (Cond.selects RX10 yX10_origin yX10_origin) ∈ wsL_law := rin56 _ (List.mem_of_getElem? (i := 18) (by decide +kernel))
theorem m1339 : (Cond.code yX10_origin cX10_origin 8 (some .int)) ∈ wsL_law := rin56 _ (List.mem_of_getElem? (i := 19) (by decide +kernel))
theorem m1348 : (Cond.methodLink RL 199 yX11_origin) ∈ wsL_law := rin57 _ (List.mem_of_getElem? (i := 4) (by decide +kernel))
theorem m1349 : (Cond.instanceMethod yX11_origin) ∈ wsL_law := rin57 _ (List.mem_of_getElem? (i := 5) (by decide +kernel))
theorem m1350 : (Cond.selects RX11 yX11_origin yX11_origin) ∈ wsL_law := rin57 _ (List.mem_of_getElem? (i := 6) (by decide +kernel))
theorem m1351 : (Cond.code yX11_origin cX11_origin 10 (some .int)) ∈ wsL_law := rin57 _ (List.mem_of_getElem? (i := 7) (by decide +kernel))
theorem m1352 : (Cond.methodLink RL 200 yX10_falses) ∈ wsL_law := rin57 _ (List.mem_of_getElem? (i := 8) (by decide +kernel))
theorem m1353 : (Cond.instanceMethod yX10_falses) ∈ wsL_law := rin57 _ (List.mem_of_getElem? (i := 9) (by decide +kernel))
theorem m1354 : (Cond.selects RX10 yX10_falses yX10_falses) ∈ wsL_law := rin57 _ (List.mem_of_getElem? (i := 10) (by decide +kernel))
theorem m1355 : (Cond.code yX10_falses cX10_falses 4 (some .int)) ∈ wsL_law := rin57 _ (List.mem_of_getElem? (i := 11) (by decide +kernel))
theorem m1361 : (Cond.methodLink RL 203 yX11_falses) ∈ wsL_law := rin57 _ (List.mem_of_getElem? (i := 17) (by decide +kernel))
theorem m1362 : (Cond.instanceMethod yX11_falses) ∈ wsL_law := rin57 _ (List.mem_of_getElem? (i := 18) (by decide +kernel))
theorem m1363 : (Cond.selects RX11 yX11_falses yX11_falses) ∈ wsL_law := rin57 _ (List.mem_of_getElem? (i := 19) (by decide +kernel))
theorem m1364 : (Cond.code yX11_falses cX11_falses 4 (some .int)) ∈ wsL_law := rin57 _ (List.mem_of_getElem? (i := 20) (by decide +kernel))
theorem m1369 : (Cond.methodLink RL 204 yX10_span) ∈ wsL_law := rin58 _ (List.mem_of_getElem? (i := 1) (by decide +kernel))
theorem m1370 : (Cond.instanceMethod yX10_span) ∈ wsL_law := rin58 _ (List.mem_of_getElem? (i := 2) (by decide +kernel))
theorem m1371 : (Cond.selects RX10 yX10_span yX10_span) ∈ wsL_law := rin58 _ (List.mem_of_getElem? (i := 3) (by decide +kernel))
theorem m1372 : (Cond.code yX10_span cX10_span 7 (some .int)) ∈ wsL_law := rin58 _ (List.mem_of_getElem? (i := 4) (by decide +kernel))
theorem m1373 : (Cond.methodLink RL 207 yX11_span) ∈ wsL_law := rin58 _ (List.mem_of_getElem? (i := 5) (by decide +kernel))
theorem m1374 : (Cond.instanceMethod yX11_span) ∈ wsL_law := rin58 _ (List.mem_of_getElem? (i := 6) (by decide +kernel))
theorem m1375 : (Cond.selects RX11 yX11_span yX11_span) ∈ wsL_law := rin58 _ (List.mem_of_getElem? (i := 7) (by decide +kernel))
theorem m1376 : (Cond.code yX11_span cX11_span 7 (some .int)) ∈ wsL_law := rin58 _ (List.mem_of_getElem? (i := 8) (by decide +kernel))
theorem m1377 : (Cond.methodLink RL 208 yX10_backward) ∈ wsL_law := rin58 _ (List.mem_of_getElem? (i := 9) (by decide +kernel))
theorem m1378 : (Cond.instanceMethod yX10_backward) ∈ wsL_law := rin58 _ (List.mem_of_getElem? (i := 10) (by decide +kernel))
theorem m1379 : (Cond.selects RX10 yX10_backward yX10_backward) ∈ wsL_law := rin58 _ (List.mem_of_getElem? (i := 11) (by decide +kernel))
theorem m1380 : (Cond.code yX10_backward cX10_backward 3 (some .int)) ∈ wsL_law := rin58 _ (List.mem_of_getElem? (i := 12) (by decide +kernel))
theorem m1390 : (Cond.methodLink RL 211 yX11_backward) ∈ wsL_law := rin58 _ (List.mem_of_getElem? (i := 22) (by decide +kernel))
theorem m1391 : (Cond.instanceMethod yX11_backward) ∈ wsL_law := rin58 _ (List.mem_of_getElem? (i := 23) (by decide +kernel))
theorem m1392 : (Cond.selects RX11 yX11_backward yX11_backward) ∈ wsL_law := rin59 _ (List.mem_of_getElem? (i := 0) (by decide +kernel))
theorem m1393 : (Cond.code yX11_backward cX11_backward 3 (some .int)) ∈ wsL_law := rin59 _ (List.mem_of_getElem? (i := 1) (by decide +kernel))
theorem m1398 : (Cond.methodLink RL 212 yX10_lies) ∈ wsL_law := rin59 _ (List.mem_of_getElem? (i := 6) (by decide +kernel))
theorem m1399 : (Cond.instanceMethod yX10_lies) ∈ wsL_law := rin59 _ (List.mem_of_getElem? (i := 7) (by decide +kernel))
theorem m1400 : (Cond.selects RX10 yX10_lies yX10_lies) ∈ wsL_law := rin59 _ (List.mem_of_getElem? (i := 8) (by decide +kernel))
theorem m1401 : (Cond.code yX10_lies cX10_lies 2 (some .int)) ∈ wsL_law := rin59 _ (List.mem_of_getElem? (i := 9) (by decide +kernel))
theorem m1403 : (Cond.methodLink RL 215 yX11_lies) ∈ wsL_law := rin59 _ (List.mem_of_getElem? (i := 11) (by decide +kernel))
theorem m1404 : (Cond.instanceMethod yX11_lies) ∈ wsL_law := rin59 _ (List.mem_of_getElem? (i := 12) (by decide +kernel))
theorem m1405 : (Cond.selects RX11 yX11_lies yX11_lies) ∈ wsL_law := rin59 _ (List.mem_of_getElem? (i := 13) (by decide +kernel))
theorem m1406 : (Cond.code yX11_lies cX11_lies 2 (some .int)) ∈ wsL_law := rin59 _ (List.mem_of_getElem? (i := 14) (by decide +kernel))
theorem m1407 : (Cond.methodLink RL 216 yX10_image) ∈ wsL_law := rin59 _ (List.mem_of_getElem? (i := 15) (by decide +kernel))
theorem m1408 : (Cond.instanceMethod yX10_image) ∈ wsL_law := rin59 _ (List.mem_of_getElem? (i := 16) (by decide +kernel))
theorem m1409 : (Cond.selects RX10 yX10_image yX10_image) ∈ wsL_law := rin59 _ (List.mem_of_getElem? (i := 17) (by decide +kernel))
theorem m1410 : (Cond.code yX10_image cX10_image 2 (some .int)) ∈ wsL_law := rin59 _ (List.mem_of_getElem? (i := 18) (by decide +kernel))
theorem m1424 : (Cond.methodLink RL 219 yX11_image) ∈ wsL_law := rin60 _ (List.mem_of_getElem? (i := 8) (by decide +kernel))
theorem m1425 : (Cond.instanceMethod yX11_image) ∈ wsL_law := rin60 _ (List.mem_of_getElem? (i := 9) (by decide +kernel))
theorem m1426 : (Cond.selects RX11 yX11_image yX11_image) ∈ wsL_law := rin60 _ (List.mem_of_getElem? (i := 10) (by decide +kernel))
theorem m1427 : (Cond.code yX11_image cX11_image 3 (some .int)) ∈ wsL_law := rin60 _ (List.mem_of_getElem? (i := 11) (by decide +kernel))
theorem m1428 : (Cond.methodLink RL 220 yX10_back) ∈ wsL_law := rin60 _ (List.mem_of_getElem? (i := 12) (by decide +kernel))
theorem m1429 : (Cond.instanceMethod yX10_back) ∈ wsL_law := rin60 _ (List.mem_of_getElem? (i := 13) (by decide +kernel))
theorem m1430 : (Cond.selects RX10 yX10_back yX10_back) ∈ wsL_law := rin60 _ (List.mem_of_getElem? (i := 14) (by decide +kernel))
theorem m1431 : (Cond.code yX10_back cX10_back 2 (some .int)) ∈ wsL_law := rin60 _ (List.mem_of_getElem? (i := 15) (by decide +kernel))
theorem m1432 : (Cond.methodLink RL 223 yX11_back) ∈ wsL_law := rin60 _ (List.mem_of_getElem? (i := 16) (by decide +kernel))
theorem m1433 : (Cond.instanceMethod yX11_back) ∈ wsL_law := rin60 _ (List.mem_of_getElem? (i := 17) (by decide +kernel))
theorem m1434 : (Cond.selects RX11 yX11_back yX11_back) ∈ wsL_law := rin60 _ (List.mem_of_getElem? (i := 18) (by decide +kernel))
theorem m1435 : (Cond.code yX11_back cX11_back 3 (some .int)) ∈ wsL_law := rin60 _ (List.mem_of_getElem? (i := 19) (by decide +kernel))
theorem m1436 : (Cond.methodLink RL 224 yX10_about) ∈ wsL_law := rin60 _ (List.mem_of_getElem? (i := 20) (by decide +kernel))
theorem m1437 : (Cond.instanceMethod yX10_about) ∈ wsL_law := rin60 _ (List.mem_of_getElem? (i := 21) (by decide +kernel))
theorem m1438 : (Cond.selects RX10 yX10_about yX10_about) ∈ wsL_law := rin60 _ (List.mem_of_getElem? (i := 22) (by decide +kernel))
theorem m1439 : (Cond.code yX10_about cX10_about 2 (some .int)) ∈ wsL_law := rin60 _ (List.mem_of_getElem? (i := 23) (by decide +kernel))
theorem m1444 : (Cond.methodLink RL 227 yX11_about) ∈ wsL_law := rin61 _ (List.mem_of_getElem? (i := 4) (by decide +kernel))
theorem m1445 : (Cond.instanceMethod yX11_about) ∈ wsL_law := rin61 _ (List.mem_of_getElem? (i := 5) (by decide +kernel))
theorem m1446 : (Cond.selects RX11 yX11_about yX11_about) ∈ wsL_law := rin61 _ (List.mem_of_getElem? (i := 6) (by decide +kernel))
theorem m1447 : (Cond.code yX11_about cX11_about 2 (some .int)) ∈ wsL_law := rin61 _ (List.mem_of_getElem? (i := 7) (by decide +kernel))
theorem cwL_101 : GoodIn wsL_law (wsV RL 101 RX11 yX11_luck (.code yX11_luck cX11_luck 5 (some .int) :: wsL_law)) := gV m943 m944 m945 m5 m946
theorem yvX11_luck : Yv yX11_luck RX11 4 := by decide +kernel
theorem cwL_102 : GoodIn wsL_law (wsV RL 102 RX10 yX10_likely (.code yX10_likely cX10_likely 7 (some .int) :: wsL_law)) := gV m955 m956 m957 m2 m958
theorem yvX10_likely : Yv yX10_likely RX10 4 := by decide +kernel
theorem cwL_105 : GoodIn wsL_law (wsV RL 105 RX11 yX11_likely (.code yX11_likely cX11_likely 10 (some .int) :: wsL_law)) := gV m963 m964 m965 m5 m966
theorem yvX11_likely : Yv yX11_likely RX11 4 := by decide +kernel
theorem cwL_106 : GoodIn wsL_law (wsV RL 106 RX10 yX10_fades (.code yX10_fades cX10_fades 4 (some .int) :: wsL_law)) := gV m967 m968 m969 m2 m970
theorem yvX10_fades : Yv yX10_fades RX10 3 := by decide +kernel
theorem cwL_109 : GoodIn wsL_law (wsV RL 109 RX11 yX11_fades (.code yX11_fades cX11_fades 6 (some .int) :: wsL_law)) := gV m975 m976 m977 m5 m978
theorem yvX11_fades : Yv yX11_fades RX11 3 := by decide +kernel
theorem cwL_110 : GoodIn wsL_law (wsV RL 110 RX10 yX10_kin (.code yX10_kin cX10_kin 7 (some .int) :: wsL_law)) := gV m979 m980 m981 m2 m982
theorem yvX10_kin : Yv yX10_kin RX10 3 := by decide +kernel
theorem cwL_113 : GoodIn wsL_law (wsV RL 113 RX11 yX11_kin (.code yX11_kin cX11_kin 5 (some .int) :: wsL_law)) := gV m983 m984 m985 m5 m986
theorem yvX11_kin : Yv yX11_kin RX11 3 := by decide +kernel
theorem cwL_114 : GoodIn wsL_law (wsV RL 114 RX10 yX10_thumb (.code yX10_thumb cX10_thumb 7 (some .int) :: wsL_law)) := gV m991 m992 m993 m2 m994
theorem yvX10_thumb : Yv yX10_thumb RX10 2 := by decide +kernel
theorem cwL_117 : GoodIn wsL_law (wsV RL 117 RX11 yX11_thumb (.code yX11_thumb cX11_thumb 6 (some .int) :: wsL_law)) := gV m995 m996 m997 m5 m998
theorem yvX11_thumb : Yv yX11_thumb RX11 2 := by decide +kernel
theorem cwL_118 : GoodIn wsL_law (wsV RL 118 RX10 yX10_share (.code yX10_share cX10_share 11 (some .int) :: wsL_law)) := gV m999 m1000 m1001 m2 m1002
theorem yvX10_share : Yv yX10_share RX10 3 := by decide +kernel
theorem cwL_121 : GoodIn wsL_law (wsV RL 121 RX11 yX11_share (.code yX11_share cX11_share 4 (some .int) :: wsL_law)) := gV m1007 m1008 m1009 m5 m1010
theorem yvX11_share : Yv yX11_share RX11 3 := by decide +kernel
theorem cwL_122 : GoodIn wsL_law (wsV RL 122 RX10 yX10_forge (.code yX10_forge cX10_forge 10 (some .int) :: wsL_law)) := gV m1015 m1016 m1017 m2 m1018
theorem yvX10_forge : Yv yX10_forge RX10 5 := by decide +kernel
theorem cwL_125 : GoodIn wsL_law (wsV RL 125 RX11 yX11_forge (.code yX11_forge cX11_forge 10 (some .int) :: wsL_law)) := gV m1019 m1020 m1021 m5 m1022
theorem yvX11_forge : Yv yX11_forge RX11 5 := by decide +kernel
theorem cwL_126 : GoodIn wsL_law (wsV RL 126 RX10 yX10_nearest (.code yX10_nearest cX10_nearest 9 (some .int) :: wsL_law)) := gV m1023 m1024 m1025 m2 m1026
theorem yvX10_nearest : Yv yX10_nearest RX10 2 := by decide +kernel
theorem cwL_129 : GoodIn wsL_law (wsV RL 129 RX11 yX11_nearest (.code yX11_nearest cX11_nearest 8 (some .int) :: wsL_law)) := gV m1027 m1028 m1029 m5 m1030
theorem yvX11_nearest : Yv yX11_nearest RX11 2 := by decide +kernel
theorem cwL_13 : GoodIn wsL_law (wsV RL 13 RX10 yX10_feed (.code yX10_feed cX10_feed 6 (some .int) :: wsL_law)) := gV m313 m314 m315 m2 m316
theorem yvX10_feed : Yv yX10_feed RX10 5 := by decide +kernel
theorem cwL_130 : GoodIn wsL_law (wsV RL 130 RX10 yX10_common (.code yX10_common cX10_common 2 (some .int) :: wsL_law)) := gV m1031 m1032 m1033 m2 m1034
theorem yvX10_common : Yv yX10_common RX10 1 := by decide +kernel
theorem cwL_133 : GoodIn wsL_law (wsV RL 133 RX11 yX11_common (.code yX11_common cX11_common 4 (some .int) :: wsL_law)) := gV m1047 m1048 m1049 m5 m1050
theorem yvX11_common : Yv yX11_common RX11 1 := by decide +kernel
theorem cwL_134 : GoodIn wsL_law (wsV RL 134 RX10 yX10_alike (.code yX10_alike cX10_alike 6 (some .int) :: wsL_law)) := gV m1051 m1052 m1053 m2 m1054
theorem yvX10_alike : Yv yX10_alike RX10 2 := by decide +kernel
theorem cwL_138 : GoodIn wsL_law (wsV RL 138 RX11 yX11_alike (.code yX11_alike cX11_alike 5 (some .int) :: wsL_law)) := gV m1055 m1056 m1057 m5 m1058
theorem yvX11_alike : Yv yX11_alike RX11 2 := by decide +kernel
theorem cwL_139 : GoodIn wsL_law (wsV RL 139 RX10 yX10_tell (.code yX10_tell cX10_tell 4 (some .int) :: wsL_law)) := gV m1059 m1060 m1061 m2 m1062
theorem yvX10_tell : Yv yX10_tell RX10 0 := by decide +kernel
theorem cwL_142 : GoodIn wsL_law (wsV RL 142 RX11 yX11_tell (.code yX11_tell cX11_tell 3 (some .int) :: wsL_law)) := gV m1072 m1073 m1074 m5 m1075
theorem yvX11_tell : Yv yX11_tell RX11 0 := by decide +kernel
theorem cwL_143 : GoodIn wsL_law (wsV RL 143 RX10 yX10_round (.code yX10_round cX10_round 8 (some .int) :: wsL_law)) := gV m1080 m1081 m1082 m2 m1083
theorem yvX10_round : Yv yX10_round RX10 4 := by decide +kernel
theorem cwL_146 : GoodIn wsL_law (wsV RL 146 RX11 yX11_round (.code yX11_round cX11_round 7 (some .int) :: wsL_law)) := gV m1085 m1086 m1087 m5 m1088
theorem yvX11_round : Yv yX11_round RX11 4 := by decide +kernel
theorem cwL_147 : GoodIn wsL_law (wsV RL 147 RX10 yX10_steady (.code yX10_steady cX10_steady 8 (some .int) :: wsL_law)) := gV m1089 m1090 m1091 m2 m1092
theorem yvX10_steady : Yv yX10_steady RX10 3 := by decide +kernel
theorem cwL_150 : GoodIn wsL_law (wsV RL 150 RX11 yX11_steady (.code yX11_steady cX11_steady 7 (some .int) :: wsL_law)) := gV m1093 m1094 m1095 m5 m1096
theorem yvX11_steady : Yv yX11_steady RX11 3 := by decide +kernel
theorem cwL_151 : GoodIn wsL_law (wsV RL 151 RX10 yX10_against (.code yX10_against cX10_against 6 (some .int) :: wsL_law)) := gV m1097 m1098 m1099 m2 m1100
theorem yvX10_against : Yv yX10_against RX10 3 := by decide +kernel
theorem cwL_154 : GoodIn wsL_law (wsV RL 154 RX11 yX11_against (.code yX11_against cX11_against 6 (some .int) :: wsL_law)) := gV m1101 m1102 m1103 m5 m1104
theorem yvX11_against : Yv yX11_against RX11 3 := by decide +kernel
theorem cwL_155 : GoodIn wsL_law (wsV RL 155 RX10 yX10_wax (.code yX10_wax cX10_wax 3 (some .int) :: wsL_law)) := gV m1105 m1106 m1107 m2 m1108
theorem yvX10_wax : Yv yX10_wax RX10 1 := by decide +kernel
theorem cwL_158 : GoodIn wsL_law (wsV RL 158 RX11 yX11_wax (.code yX11_wax cX11_wax 7 (some .int) :: wsL_law)) := gV m1146 m1147 m1148 m5 m1149
theorem yvX11_wax : Yv yX11_wax RX11 1 := by decide +kernel
theorem cwL_159 : GoodIn wsL_law (wsV RL 159 RX10 yX10_sample (.code yX10_sample cX10_sample 3 (some .int) :: wsL_law)) := gV m1159 m1160 m1161 m2 m1162
theorem yvX10_sample : Yv yX10_sample RX10 2 := by decide +kernel
theorem cwL_162 : GoodIn wsL_law (wsV RL 162 RX11 yX11_sample (.code yX11_sample cX11_sample 3 (some .int) :: wsL_law)) := gV m1169 m1170 m1171 m5 m1172
theorem yvX11_sample : Yv yX11_sample RX11 2 := by decide +kernel
theorem cwL_163 : GoodIn wsL_law (wsV RL 163 RX10 yX10_claim (.code yX10_claim cX10_claim 4 (some .int) :: wsL_law)) := gV m1178 m1179 m1180 m2 m1181
theorem yvX10_claim : Yv yX10_claim RX10 3 := by decide +kernel
theorem cwL_166 : GoodIn wsL_law (wsV RL 166 RX11 yX11_claim (.code yX11_claim cX11_claim 4 (some .int) :: wsL_law)) := gV m1185 m1186 m1187 m5 m1188
theorem yvX11_claim : Yv yX11_claim RX11 3 := by decide +kernel
theorem cwL_167 : GoodIn wsL_law (wsV RL 167 RX10 yX10_saw (.code yX10_saw cX10_saw 4 (some .int) :: wsL_law)) := gV m1189 m1190 m1191 m2 m1192
theorem yvX10_saw : Yv yX10_saw RX10 3 := by decide +kernel
theorem cwL_17 : GoodIn wsL_law (wsV RL 17 RX11 yX11_feed (.code yX11_feed cX11_feed 8 (some .int) :: wsL_law)) := gV m321 m322 m323 m5 m324
theorem yvX11_feed : Yv yX11_feed RX11 5 := by decide +kernel
theorem cwL_170 : GoodIn wsL_law (wsV RL 170 RX11 yX11_saw (.code yX11_saw cX11_saw 4 (some .int) :: wsL_law)) := gV m1193 m1194 m1195 m5 m1196
theorem yvX11_saw : Yv yX11_saw RX11 3 := by decide +kernel
theorem cwL_171 : GoodIn wsL_law (wsV RL 171 RX10 yX10_link (.code yX10_link cX10_link 4 (some .int) :: wsL_law)) := gV m1197 m1198 m1199 m2 m1200
theorem yvX10_link : Yv yX10_link RX10 3 := by decide +kernel
theorem cwL_174 : GoodIn wsL_law (wsV RL 174 RX11 yX11_link (.code yX11_link cX11_link 4 (some .int) :: wsL_law)) := gV m1204 m1205 m1206 m5 m1207
theorem yvX11_link : Yv yX11_link RX11 3 := by decide +kernel
theorem cwL_175 : GoodIn wsL_law (wsV RL 175 RX10 yX10_untell (.code yX10_untell cX10_untell 2 (some .boolean) :: wsL_law)) := gV m1208 m1209 m1210 m2 m1211
theorem yvX10_untell : Yv yX10_untell RX10 1 := by decide +kernel
theorem cwL_179 : GoodIn wsL_law (wsV RL 179 RX11 yX11_untell (.code yX11_untell cX11_untell 2 (some .boolean) :: wsL_law)) := gV m1214 m1215 m1216 m5 m1217
theorem yvX11_untell : Yv yX11_untell RX11 1 := by decide +kernel
theorem cwL_18 : GoodIn wsL_law (wsV RL 18 RX10 yX10_end (.code yX10_end cX10_end 2 (some .int) :: wsL_law)) := gV m326 m327 m328 m2 m329
theorem yvX10_end : Yv yX10_end RX10 1 := by decide +kernel
theorem cwL_180 : GoodIn wsL_law (wsV RL 180 RX10 yX10_later (.code yX10_later cX10_later 2 (some .int) :: wsL_law)) := gV m1218 m1219 m1220 m2 m1221
theorem yvX10_later : Yv yX10_later RX10 1 := by decide +kernel
theorem cwL_183 : GoodIn wsL_law (wsV RL 183 RX11 yX11_later (.code yX11_later cX11_later 2 (some .int) :: wsL_law)) := gV m1223 m1224 m1225 m5 m1226
theorem yvX11_later : Yv yX11_later RX11 1 := by decide +kernel
theorem cwL_184 : GoodIn wsL_law (wsV RL 184 RX10 yX10_tree (.code yX10_tree cX10_tree 5 (some .int) :: wsL_law)) := gV m1228 m1229 m1230 m2 m1231
theorem yvX10_tree : Yv yX10_tree RX10 3 := by decide +kernel
theorem cwL_187 : GoodIn wsL_law (wsV RL 187 RX11 yX11_tree (.code yX11_tree cX11_tree 10 (some .int) :: wsL_law)) := gV m1278 m1279 m1280 m5 m1281
theorem yvX11_tree : Yv yX11_tree RX11 3 := by decide +kernel
theorem cwL_188 : GoodIn wsL_law (wsV RL 188 RX10 yX10_centre (.code yX10_centre cX10_centre 5 (some .int) :: wsL_law)) := gV m1295 m1296 m1297 m2 m1298
theorem yvX10_centre : Yv yX10_centre RX10 2 := by decide +kernel
theorem cwL_191 : GoodIn wsL_law (wsV RL 191 RX11 yX11_centre (.code yX11_centre cX11_centre 8 (some .int) :: wsL_law)) := gV m1303 m1304 m1305 m5 m1306
theorem yvX11_centre : Yv yX11_centre RX11 2 := by decide +kernel
theorem cwL_192 : GoodIn wsL_law (wsV RL 192 RX10 yX10_clans (.code yX10_clans cX10_clans 4 (some .int) :: wsL_law)) := gV m1307 m1308 m1309 m2 m1310
theorem yvX10_clans : Yv yX10_clans RX10 3 := by decide +kernel
theorem cwL_195 : GoodIn wsL_law (wsV RL 195 RX11 yX11_clans (.code yX11_clans cX11_clans 9 (some .int) :: wsL_law)) := gV m1328 m1329 m1330 m5 m1331
theorem yvX11_clans : Yv yX11_clans RX11 3 := by decide +kernel
theorem cwL_196 : GoodIn wsL_law (wsV RL 196 RX10 yX10_origin (.code yX10_origin cX10_origin 8 (some .int) :: wsL_law)) := gV m1336 m1337 m1338 m2 m1339
theorem yvX10_origin : Yv yX10_origin RX10 2 := by decide +kernel
theorem cwL_199 : GoodIn wsL_law (wsV RL 199 RX11 yX11_origin (.code yX11_origin cX11_origin 10 (some .int) :: wsL_law)) := gV m1348 m1349 m1350 m5 m1351
theorem yvX11_origin : Yv yX11_origin RX11 2 := by decide +kernel
theorem cwL_200 : GoodIn wsL_law (wsV RL 200 RX10 yX10_falses (.code yX10_falses cX10_falses 4 (some .int) :: wsL_law)) := gV m1352 m1353 m1354 m2 m1355
theorem yvX10_falses : Yv yX10_falses RX10 1 := by decide +kernel
theorem cwL_203 : GoodIn wsL_law (wsV RL 203 RX11 yX11_falses (.code yX11_falses cX11_falses 4 (some .int) :: wsL_law)) := gV m1361 m1362 m1363 m5 m1364
theorem yvX11_falses : Yv yX11_falses RX11 1 := by decide +kernel
theorem cwL_204 : GoodIn wsL_law (wsV RL 204 RX10 yX10_span (.code yX10_span cX10_span 7 (some .int) :: wsL_law)) := gV m1369 m1370 m1371 m2 m1372
theorem yvX10_span : Yv yX10_span RX10 3 := by decide +kernel
theorem cwL_207 : GoodIn wsL_law (wsV RL 207 RX11 yX11_span (.code yX11_span cX11_span 7 (some .int) :: wsL_law)) := gV m1373 m1374 m1375 m5 m1376
theorem yvX11_span : Yv yX11_span RX11 3 := by decide +kernel
theorem cwL_208 : GoodIn wsL_law (wsV RL 208 RX10 yX10_backward (.code yX10_backward cX10_backward 3 (some .int) :: wsL_law)) := gV m1377 m1378 m1379 m2 m1380
theorem yvX10_backward : Yv yX10_backward RX10 2 := by decide +kernel
theorem cwL_211 : GoodIn wsL_law (wsV RL 211 RX11 yX11_backward (.code yX11_backward cX11_backward 3 (some .int) :: wsL_law)) := gV m1390 m1391 m1392 m5 m1393
theorem yvX11_backward : Yv yX11_backward RX11 2 := by decide +kernel
theorem cwL_212 : GoodIn wsL_law (wsV RL 212 RX10 yX10_lies (.code yX10_lies cX10_lies 2 (some .int) :: wsL_law)) := gV m1398 m1399 m1400 m2 m1401
theorem yvX10_lies : Yv yX10_lies RX10 1 := by decide +kernel
theorem cwL_215 : GoodIn wsL_law (wsV RL 215 RX11 yX11_lies (.code yX11_lies cX11_lies 2 (some .int) :: wsL_law)) := gV m1403 m1404 m1405 m5 m1406
theorem yvX11_lies : Yv yX11_lies RX11 1 := by decide +kernel
theorem cwL_216 : GoodIn wsL_law (wsV RL 216 RX10 yX10_image (.code yX10_image cX10_image 2 (some .int) :: wsL_law)) := gV m1407 m1408 m1409 m2 m1410
theorem yvX10_image : Yv yX10_image RX10 1 := by decide +kernel
theorem cwL_219 : GoodIn wsL_law (wsV RL 219 RX11 yX11_image (.code yX11_image cX11_image 3 (some .int) :: wsL_law)) := gV m1424 m1425 m1426 m5 m1427
theorem yvX11_image : Yv yX11_image RX11 1 := by decide +kernel
theorem cwL_22 : GoodIn wsL_law (wsV RL 22 RX11 yX11_end (.code yX11_end cX11_end 2 (some .int) :: wsL_law)) := gV m330 m331 m332 m5 m333
theorem yvX11_end : Yv yX11_end RX11 1 := by decide +kernel
theorem cwL_220 : GoodIn wsL_law (wsV RL 220 RX10 yX10_back (.code yX10_back cX10_back 2 (some .int) :: wsL_law)) := gV m1428 m1429 m1430 m2 m1431
theorem yvX10_back : Yv yX10_back RX10 1 := by decide +kernel
theorem cwL_223 : GoodIn wsL_law (wsV RL 223 RX11 yX11_back (.code yX11_back cX11_back 3 (some .int) :: wsL_law)) := gV m1432 m1433 m1434 m5 m1435
theorem yvX11_back : Yv yX11_back RX11 1 := by decide +kernel
theorem cwL_224 : GoodIn wsL_law (wsV RL 224 RX10 yX10_about (.code yX10_about cX10_about 2 (some .int) :: wsL_law)) := gV m1436 m1437 m1438 m2 m1439
theorem yvX10_about : Yv yX10_about RX10 1 := by decide +kernel
theorem cwL_227 : GoodIn wsL_law (wsV RL 227 RX11 yX11_about (.code yX11_about cX11_about 2 (some .int) :: wsL_law)) := gV m1444 m1445 m1446 m5 m1447
theorem yvX11_about : Yv yX11_about RX11 1 := by decide +kernel
theorem cwL_23 : GoodIn wsL_law (wsV RL 23 RX10 yX10_chancery (.code yX10_chancery cX10_chancery 2 (some .int) :: wsL_law)) := gV m334 m335 m336 m2 m337
theorem yvX10_chancery : Yv yX10_chancery RX10 0 := by decide +kernel
theorem cwL_27 : GoodIn wsL_law (wsV RL 27 RX11 yX11_chancery (.code yX11_chancery cX11_chancery 2 (some .int) :: wsL_law)) := gV m466 m467 m468 m5 m469
theorem yvX11_chancery : Yv yX11_chancery RX11 0 := by decide +kernel
theorem cwL_28 : GoodIn wsL_law (wsV RL 28 RX10 yX10_fault (.code yX10_fault cX10_fault 2 (some .int) :: wsL_law)) := gV m601 m602 m603 m2 m604
theorem yvX10_fault : Yv yX10_fault RX10 1 := by decide +kernel
theorem cwL_31 : GoodIn wsL_law (wsV RL 31 RX11 yX11_fault (.code yX11_fault cX11_fault 2 (some .int) :: wsL_law)) := gV m605 m606 m607 m5 m608
theorem yvX11_fault : Yv yX11_fault RX11 1 := by decide +kernel
theorem cwL_32 : GoodIn wsL_law (wsV RL 32 RX10 yX10_seal (.code yX10_seal cX10_seal 3 (some .int) :: wsL_law)) := gV m609 m610 m611 m2 m612
theorem yvX10_seal : Yv yX10_seal RX10 2 := by decide +kernel
theorem cwL_36 : GoodIn wsL_law (wsV RL 36 RX11 yX11_seal (.code yX11_seal cX11_seal 3 (some .int) :: wsL_law)) := gV m623 m624 m625 m5 m626
theorem yvX11_seal : Yv yX11_seal RX11 2 := by decide +kernel
theorem cwL_37 : GoodIn wsL_law (wsV RL 37 RX10 yX10_shown (.code yX10_shown cX10_shown 3 (some .int) :: wsL_law)) := gV m638 m639 m640 m2 m641
theorem yvX10_shown : Yv yX10_shown RX10 2 := by decide +kernel
theorem cwL_40 : GoodIn wsL_law (wsV RL 40 RX11 yX11_shown (.code yX11_shown cX11_shown 3 (some .int) :: wsL_law)) := gV m646 m647 m648 m5 m649
theorem yvX11_shown : Yv yX11_shown RX11 2 := by decide +kernel
theorem cwL_41 : GoodIn wsL_law (wsV RL 41 RX10 yX10_prints (.code yX10_prints cX10_prints 7 (some .int) :: wsL_law)) := gV m650 m651 m652 m2 m653
theorem yvX10_prints : Yv yX10_prints RX10 2 := by decide +kernel
theorem cwL_44 : GoodIn wsL_law (wsV RL 44 RX11 yX11_prints (.code yX11_prints cX11_prints 7 (some .int) :: wsL_law)) := gV m662 m663 m664 m5 m665
theorem yvX11_prints : Yv yX11_prints RX11 2 := by decide +kernel
theorem cwL_45 : GoodIn wsL_law (wsV RL 45 RX10 yX10_turned (.code yX10_turned cX10_turned 2 (some .int) :: wsL_law)) := gV m674 m675 m676 m2 m677
theorem yvX10_turned : Yv yX10_turned RX10 1 := by decide +kernel
theorem cwL_48 : GoodIn wsL_law (wsV RL 48 RX11 yX11_turned (.code yX11_turned cX11_turned 2 (some .int) :: wsL_law)) := gV m682 m683 m684 m5 m685
theorem yvX11_turned : Yv yX11_turned RX11 1 := by decide +kernel
theorem cwL_49 : GoodIn wsL_law (wsV RL 49 RX10 yX10_would (.code yX10_would cX10_would 5 (some .int) :: wsL_law)) := gV m690 m691 m692 m2 m693
theorem yvX10_would : Yv yX10_would RX10 4 := by decide +kernel
theorem cwL_53 : GoodIn wsL_law (wsV RL 53 RX11 yX11_would (.code yX11_would cX11_would 5 (some .int) :: wsL_law)) := gV m743 m744 m745 m5 m746
theorem yvX11_would : Yv yX11_would RX11 4 := by decide +kernel
theorem cwL_54 : GoodIn wsL_law (wsV RL 54 RX10 yX10_cast (.code yX10_cast cX10_cast 4 (some .int) :: wsL_law)) := gV m777 m778 m779 m2 m780
theorem yvX10_cast : Yv yX10_cast RX10 3 := by decide +kernel
theorem cwL_58 : GoodIn wsL_law (wsV RL 58 RX11 yX11_cast (.code yX11_cast cX11_cast 5 (some .int) :: wsL_law)) := gV m824 m825 m826 m5 m827
theorem yvX11_cast : Yv yX11_cast RX11 3 := by decide +kernel
theorem cwL_59 : GoodIn wsL_law (wsV RL 59 RX10 yX10_print (.code yX10_print cX10_print 2 (some .int) :: wsL_law)) := gV m836 m837 m838 m2 m839
theorem yvX10_print : Yv yX10_print RX10 1 := by decide +kernel
theorem cwL_62 : GoodIn wsL_law (wsV RL 62 RX11 yX11_print (.code yX11_print cX11_print 3 (some .int) :: wsL_law)) := gV m840 m841 m842 m5 m843
theorem yvX11_print : Yv yX11_print RX11 1 := by decide +kernel
theorem cwL_63 : GoodIn wsL_law (wsV RL 63 RX10 yX10_crack (.code yX10_crack cX10_crack 3 (some .boolean) :: wsL_law)) := gV m844 m845 m846 m2 m847
theorem yvX10_crack : Yv yX10_crack RX10 2 := by decide +kernel
theorem cwL_67 : GoodIn wsL_law (wsV RL 67 RX11 yX11_crack (.code yX11_crack cX11_crack 3 (some .boolean) :: wsL_law)) := gV m856 m857 m858 m5 m859
theorem yvX11_crack : Yv yX11_crack RX11 2 := by decide +kernel
theorem cwL_68 : GoodIn wsL_law (wsV RL 68 RX10 yX10_year (.code yX10_year cX10_year 1 (some .int) :: wsL_law)) := gV m860 m861 m862 m2 m863
theorem yvX10_year : Yv yX10_year RX10 0 := by decide +kernel
theorem cwL_71 : GoodIn wsL_law (wsV RL 71 RX11 yX11_year (.code yX11_year cX11_year 1 (some .int) :: wsL_law)) := gV m865 m866 m867 m5 m868
theorem yvX11_year : Yv yX11_year RX11 0 := by decide +kernel
theorem cwL_72 : GoodIn wsL_law (wsV RL 72 RX10 yX10_undo (.code yX10_undo cX10_undo 1 (some .boolean) :: wsL_law)) := gV m869 m870 m871 m2 m872
theorem yvX10_undo : Yv yX10_undo RX10 0 := by decide +kernel
theorem cwL_76 : GoodIn wsL_law (wsV RL 76 RX11 yX11_undo (.code yX11_undo cX11_undo 1 (some .boolean) :: wsL_law)) := gV m882 m883 m884 m5 m885
theorem yvX11_undo : Yv yX11_undo RX11 0 := by decide +kernel
theorem cwL_77 : GoodIn wsL_law (wsV RL 77 RX10 yX10_redo (.code yX10_redo cX10_redo 1 (some .boolean) :: wsL_law)) := gV m890 m891 m892 m2 m893
theorem yvX10_redo : Yv yX10_redo RX10 0 := by decide +kernel
theorem cwL_80 : GoodIn wsL_law (wsV RL 80 RX11 yX11_redo (.code yX11_redo cX11_redo 1 (some .boolean) :: wsL_law)) := gV m898 m899 m900 m5 m901
theorem yvX11_redo : Yv yX11_redo RX11 0 := by decide +kernel
theorem cwL_81 : GoodIn wsL_law (wsV RL 81 RX10 yX10_whose (.code yX10_whose cX10_whose 6 (some .int) :: wsL_law)) := gV m902 m903 m904 m2 m905
theorem yvX10_whose : Yv yX10_whose RX10 3 := by decide +kernel
theorem cwL_84 : GoodIn wsL_law (wsV RL 84 RX11 yX11_whose (.code yX11_whose cX11_whose 6 (some .int) :: wsL_law)) := gV m906 m907 m908 m5 m909
theorem yvX11_whose : Yv yX11_whose RX11 3 := by decide +kernel
theorem cwL_85 : GoodIn wsL_law (wsV RL 85 RX10 yX10_made (.code yX10_made cX10_made 6 (some .int) :: wsL_law)) := gV m910 m911 m912 m2 m913
theorem yvX10_made : Yv yX10_made RX10 2 := by decide +kernel
theorem cwL_88 : GoodIn wsL_law (wsV RL 88 RX11 yX11_made (.code yX11_made cX11_made 6 (some .int) :: wsL_law)) := gV m919 m920 m921 m5 m922
theorem yvX11_made : Yv yX11_made RX11 2 := by decide +kernel
theorem cwL_89 : GoodIn wsL_law (wsV RL 89 RX10 yX10_apart (.code yX10_apart cX10_apart 5 (some .int) :: wsL_law)) := gV m923 m924 m925 m2 m926
theorem yvX10_apart : Yv yX10_apart RX10 3 := by decide +kernel
theorem cwL_93 : GoodIn wsL_law (wsV RL 93 RX11 yX11_apart (.code yX11_apart cX11_apart 4 (some .int) :: wsL_law)) := gV m927 m928 m929 m5 m930
theorem yvX11_apart : Yv yX11_apart RX11 3 := by decide +kernel
theorem cwL_94 : GoodIn wsL_law (wsV RL 94 RX10 yX10_heats (.code yX10_heats cX10_heats 6 (some .int) :: wsL_law)) := gV m931 m932 m933 m2 m934
theorem yvX10_heats : Yv yX10_heats RX10 3 := by decide +kernel
theorem cwL_97 : GoodIn wsL_law (wsV RL 97 RX11 yX11_heats (.code yX11_heats cX11_heats 6 (some .int) :: wsL_law)) := gV m935 m936 m937 m5 m938
theorem yvX11_heats : Yv yX11_heats RX11 3 := by decide +kernel
theorem cwL_98 : GoodIn wsL_law (wsV RL 98 RX10 yX10_luck (.code yX10_luck cX10_luck 7 (some .int) :: wsL_law)) := gV m939 m940 m941 m2 m942
theorem yvX10_luck : Yv yX10_luck RX10 4 := by decide +kernel
