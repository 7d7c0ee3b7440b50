/-! ===== Tokens(): the words of the grammar, by the String constant ===== -/
def sTx : String := "mark has left right many year heat draw marks first hand wears fills wax or and not "
theorem m64 : (Cond.methodLink RX8 3 objectInit) ∈ wsL_law := rin3 _ (List.mem_of_getElem? (i := 16) (by decide +kernel))
theorem m70 : (Cond.methodLink RX8 27 yJ0_length_8abf5) ∈ wsL_law := rin3 _ (List.mem_of_getElem? (i := 22) (by decide +kernel))
theorem m71 : (Cond.instanceMethod yJ0_length_8abf5) ∈ wsL_law := rin3 _ (List.mem_of_getElem? (i := 23) (by decide +kernel))
theorem m72 : (Cond.selects RJ0 yJ0_length_8abf5 yJ0_length_8abf5) ∈ wsL_law := rin4 _ (List.mem_of_getElem? (i := 0) (by decide +kernel))
theorem m74 : (Cond.code yJ0_length_8abf5 cJ0_length_8abf5 1 (some .int)) ∈ wsL_law := rin4 _ (List.mem_of_getElem? (i := 2) (by decide +kernel))
theorem m82 : (Cond.methodLink RX8 33 yJ0_charAt_5068e) ∈ wsL_law := rin4 _ (List.mem_of_getElem? (i := 10) (by decide +kernel))
theorem m83 : (Cond.instanceMethod yJ0_charAt_5068e) ∈ wsL_law := rin4 _ (List.mem_of_getElem? (i := 11) (by decide +kernel))
theorem m84 : (Cond.selects RJ0 yJ0_charAt_5068e yJ0_charAt_5068e) ∈ wsL_law := rin4 _ (List.mem_of_getElem? (i := 12) (by decide +kernel))
theorem m85 : (Cond.code yJ0_charAt_5068e cJ0_charAt_5068e 2 (some .char)) ∈ wsL_law := rin4 _ (List.mem_of_getElem? (i := 13) (by decide +kernel))
theorem yvJ0_length_8abf5 : Yv yJ0_length_8abf5 RJ0 0 := by decide +kernel
theorem yvJ0_charAt_5068e : Yv yJ0_charAt_5068e RJ0 1 := by decide +kernel
theorem kB_17 : (Int8.ofInt 17).toInt32 = (17 : Int32) := by decide
theorem kS_1602 : (Int16.ofInt 1602).toInt32 = (1602 : Int32) := by decide
set_option maxRecDepth 100000 in
theorem kwith {l : Launch} {a : Int64} {b : Int32} : Met l yX8_withLetter (.code yX8_withLetter cX8_withLetter 3 (some .long) :: wsL_law) (rk 0) (va_Pc [.long a, .int b] (fun _ => True)) (va_Ql (fun _ (_ : Unit) => True) (fun _ _ => True) No) 0 0 No := by
  refine Met.ofW (cc := cX8_withLetter) (maxL := 3) (ret := some .long) (by decide) rfl ?_
  intro p e s m args below meth c s₁ B hml hv
  obtain ⟨rfl, -⟩ := hv
  have hts := atoms_spec (ws := .code yX8_withLetter cX8_withLetter 3 (some .long) :: wsL_law) B.pre
  have hown : s.vm.findClass RX8 = some m.cls := findClass_of_methodNamed B.named
  have hlocks := B.notSynchronized
  have hx := B.exec
  have hb := B.bytes
  have hl := lv_entry [.long a, .int b] (n := 3) (Nat.le_of_ble_eq_true rfl)
  rw [lg_entry_eq]
  generalize (lg_sl ([.long a, .int b]) ++ List.replicate (3 - (lg_sl ([.long a, .int b])).length) Slot.unset).toArray = ls at hl ⊢
  have hl : lv_has ls 3 [(0, .long a), (2, .int b)] := hl
  refine lv_lload_n hx hb dX8_withLetter_0 rfl (lv_at hl 0 rfl) ?_
  refine lv_ldc2 hx hb hown (hts _ (List.mem_cons_of_mem _ m122)) dX8_withLetter_1 ?_
  refine lv_lmul hx hb dX8_withLetter_4 ?_
  refine lv_iload_n hx hb dX8_withLetter_5 rfl (lv_at hl 1 rfl) ?_
  refine lv_i2l hx hb dX8_withLetter_6 rfl ?_
  refine lv_ladd hx hb dX8_withLetter_7 ?_
  refine lv_ldc2 hx hb hown (hts _ (List.mem_cons_of_mem _ m123)) dX8_withLetter_8 ?_
  refine lv_lsub hx hb dX8_withLetter_11 ?_
  refine lv_lconst hx hb dX8_withLetter_12 kL_1 ?_
  refine lv_ladd hx hb dX8_withLetter_13 ?_
  refine lv_topl (fun r er => ?_)
  exact W.lret (v := r) hx hb B.returns (fun t9 ht hW => ⟨⟨r, (), rfl, trivial, trivial⟩, (va_S.rf (A := No)).F ht⟩) (fun x hx => by cases hx) dX8_withLetter_14 hlocks
section TK
variable {p : Program} {l : Launch} {e : Env} {R : Room} {s : State} {m : MethodId} {args : Array Value} {below : List Frame} {meth : Method} {c : Code} {H : Heap} {locs : List Loc} {cells slots : Nat} {Q : State → Prop} {cc : ByteArray} {pc : Nat} {ls : Array Slot} {rest st : List Value} {A : Nat → Prop} {own : String} {nL : Nat} {y : MethodName} {bs : ByteArray} {maxL k1 index n : Nat} {As : List Value} {post : Int64 → Prop}
theorem s_csL (hC : Cs p s m args c cc own nL) (hS : va_S A s.heap H locs) (hls : ls.size = nL) (hM : Met l y (.code y bs maxL (some .long) :: wsL_law) (rk k1) (va_Pc As (fun _ => True)) (va_Ql (fun r (_ : Unit) => post r) (fun _ _ => True) No) 0 0 No) (hG : GoodIn wsL_law (va_wsS own index y (.code y bs maxL (some .long) :: wsL_law))) (hy : Ys y n) (hn : As.length = n) (hst : st = As.reverse ++ rest) (hw : (rest.map fun v => v.category).sum ≤ 8) (hR : Rm R k1 maxL cells slots) (hd : decode cc pc = .ok (.invokestatic index, 3))
    (kk : ∀ (r : Int64) (H1 : Heap) (locs1 : List Loc), post r → H.size ≤ H1.size → (∀ a : Nat, a < H.size → H1[a]? = H[a]?) → va_S A s.heap H1 locs1 → W p l e R s m args below meth c H1 locs1 cells slots Q (F0 m (pc + 3) ls (.long r :: rest))) : W p l e R s m args below meth c H locs cells slots Q (F0 m pc ls st) := by
  obtain ⟨hx, hb, hml, hown, hts⟩ := hC
  subst hst
  refine va_calll (A0 := A) (va_runS (As := As) (rest := rest) ⟨hx, hb, hml, hown, hts⟩ hM (va_cwS n hts hG rfl rfl rfl hy hR.1) ⟨fun a U gg mk h => h, fun U hU hW => ⟨rfl, trivial⟩⟩ rfl hn hls rfl (lv_room hw) hd hR.2) hS (fun _ _ z => z.elim) (fun _ z => z.elim) (fun r u t9 H1 locs1 ht hvm hp hB hz hk hS1 => ?_)
  exact kk r H1 locs1 hp hz (fun a ha => hk a ha id) hS1
end TK
theorem cwX8_27 : GoodIn wsL_law (wsV RX8 27 RJ0 yJ0_length_8abf5 (.code yJ0_length_8abf5 cJ0_length_8abf5 1 (some .int) :: wsL_law)) := gV m70 m71 m72 m73 m74
theorem cwX8_33 : GoodIn wsL_law (wsV RX8 33 RJ0 yJ0_charAt_5068e (.code yJ0_charAt_5068e cJ0_charAt_5068e 2 (some .char) :: wsL_law)) := gV m82 m83 m84 m73 m85
def tokW (g : Gw) (h0 q1 q2 q3 q4 : Nat) (f : Nat → Int64) : va_W := [(h0, .inr (8, [.ref q1, .ref q2, .ref q3, .int 0, .ref q4])), (q1, .inl (g.2.1 0, 1602, .inl (fun _ => 0))), (q2, .inl (g.2.1 0, 1602, .inl (fun _ => 0))), (q3, .inl (g.2.1 3, 1602, .inr (.inl (fun _ => 0)))), (q4, .inl (g.2.1 3, 17, .inr (.inl f)))]
set_option maxHeartbeats 4000000 in
set_option maxRecDepth 100000 in
theorem tok_loop {p : Program} {l : Launch} {e : Env} {s : State} {m : MethodId} {args : Array Value} {below : List Frame} {meth : Method} {c : Code} {Q : State → Prop} {A : Nat → Prop} {g : Gw} {h0 q1 q2 q3 q4 q v : Nat} (hC : Cx p s m args c cX8_init RX8 3 g) (hXs : Sx q v A s s.heap) (hZ : vk_R RX8 25 sTx q s) (hA : ∀ q, s.heap.size ≤ q → A q)
    (hRt : ∀ (f : Nat → Int64) (H : Heap) (locs : List Loc) (ls : Array Slot), va_P g.1 vwCl (tokW g h0 q1 q2 q3 q4 f) H → va_D A (tokW g h0 q1 q2 q3 q4 f) → va_S A s.heap H locs → W p l e (rc 5 4 4823) s m args below meth c H locs 4 4823 Q (F0 m 102 ls [])) :
    ∀ (n j a : Nat) (f : Nat → Int64) (H : Heap) (locs : List Loc) (ls : Array Slot), 84 < j + n → j ≤ 84 → a ≤ j → va_P g.1 vwCl (tokW g h0 q1 q2 q3 q4 f) H → va_D A (tokW g h0 q1 q2 q3 q4 f) → va_S A s.heap H locs → lv_has ls 3 [(0, .ref h0), (1, .int (nI a)), (2, .int (nI j))] → W p l e (rc 5 4 4823) s m args below meth c H locs 4 4823 Q (F0 m 43 ls []) := by
  have hx := hC.1
  have hb := hC.2.1
  have hCs : Cs p s m args c cX8_init RX8 3 := ⟨hC.1, hC.2.1, hC.2.2.1, hC.2.2.2.1, hC.2.2.2.2.1⟩
  intro n
  induction n with
  | zero => intro j a f H locs ls h1 h2; omega
  | succ n ih =>
    intro j a f H locs ls h1 h2 h3 hP hD hS hl
    refine lv_iload_n hx hb dX8_init_43 rfl (lv_at hl 2 rfl) ?_
    refine va_ldcS hx hb hC.2.2.2.1 hZ dX8_init_44 ?_
    refine s_cv (As := []) (rest := [.int (nI j)]) hCs hXs hS hl.1 jlength cwX8_27 yvJ0_length_8abf5 rfl rfl (Nat.le_of_ble_eq_true rfl) ⟨⟨Nat.le_of_ble_eq_true rfl, Nat.le_of_ble_eq_true rfl⟩, Nat.le_of_ble_eq_true rfl, Nat.le_of_ble_eq_true rfl⟩ dX8_init_46 (fun r H1 locs1 hp hz hk hS1 => ?_)
    subst hp
    have hP := hP.kept (fun k x hx => hk x.1 ((hP k x hx).lt))
    clear hk hS
    refine lv_icmp_ge (tgt := 102) hx hb dX8_init_49 (by decide) (fun c_1 => ?_) (fun c_1 => ?_)
    · exact hRt f _ _ _ hP hD hS1
    · have hj : j < 84 := by
        rcases Nat.lt_or_ge j 84 with z | z
        · exact z
        · exact absurd (nI_le (a := sLen) (b := j) z (by omega)) c_1
      refine lv_iload_n hx hb dX8_init_52 rfl (lv_at hl 1 rfl) ?_
      refine lv_bipush (v := nI 17) hx hb dX8_init_53 (by decide) ?_
      refine lv_icmp_ge (tgt := 102) hx hb dX8_init_55 (by decide) (fun c_2 => ?_) (fun c_2 => ?_)
      · exact hRt f _ _ _ hP hD hS1
      · have ha : a < 17 := by
          rcases Nat.lt_or_ge a 17 with z | z
          · exact z
          · exact absurd (nI_le (a := 17) (b := a) z (by omega)) c_2
        refine va_ldcS hx hb hC.2.2.2.1 hZ dX8_init_58 ?_
        refine lv_iload_n hx hb dX8_init_60 rfl (lv_at hl 2 rfl) ?_
        refine s_cv (As := [.int (nI j)]) (rest := []) hCs hXs hS1 hl.1 (jcharAt hj) cwX8_33 yvJ0_charAt_5068e rfl rfl (Nat.le_of_ble_eq_true rfl) ⟨⟨Nat.le_of_ble_eq_true rfl, Nat.le_of_ble_eq_true rfl⟩, Nat.le_of_ble_eq_true rfl, Nat.le_of_ble_eq_true rfl⟩ dX8_init_61 (fun r2 H2 locs2 hp2 hz2 hk2 hS2 => ?_)
        have hP := hP.kept (fun k x hx => hk2 x.1 ((hP k x hx).lt))
        clear hk2 hS1
        refine lv_bipush (v := nI 32) hx hb dX8_init_64 (by decide) ?_
        refine lv_icmp_ne (tgt := 75) hx hb dX8_init_66 (by decide) (fun c_3 => ?_) (fun c_3 => ?_)
        · refine lv_aload_n hx hb dX8_init_75 rfl (lv_at hl 0 rfl) ?_
          refine e_get (ci := 8) (C := RX8) (T := TX8) (N := 5) (v := .ref q4) hC hP rfl inlX8 4 (by decide) rfl m69 dX8_init_76 ?_
          refine lv_iload_n hx hb dX8_init_79 rfl (lv_at hl 1 rfl) ?_
          refine lv_aload_n hx hb dX8_init_80 rfl (lv_at hl 0 rfl) ?_
          refine e_get (ci := 8) (C := RX8) (T := TX8) (N := 5) (v := .ref q4) hC hP rfl inlX8 4 (by decide) rfl m69 dX8_init_81 ?_
          refine lv_iload_n hx hb dX8_init_84 rfl (lv_at hl 1 rfl) ?_
          refine va_lald hx hb hC.2.2.2.2.2.1 hP 4 3 rfl rfl (vp_in_nI ha (by decide)) dX8_init_85 ?_
          refine va_ldcS hx hb hC.2.2.2.1 hZ dX8_init_86 ?_
          refine lv_iload_n hx hb dX8_init_88 rfl (lv_at hl 2 rfl) ?_
          refine s_cv (As := [.int (nI j)]) (rest := [.long (f (nI a).toNatClampNeg), .int (nI a), .ref q4]) hCs hXs hS2 hl.1 (jcharAt hj) cwX8_33 yvJ0_charAt_5068e rfl rfl (Nat.le_of_ble_eq_true rfl) ⟨⟨Nat.le_of_ble_eq_true rfl, Nat.le_of_ble_eq_true rfl⟩, Nat.le_of_ble_eq_true rfl, Nat.le_of_ble_eq_true rfl⟩ dX8_init_89 (fun r3 H3 locs3 hp3 hz3 hk3 hS3 => ?_)
          have hP := hP.kept (fun k x hx => hk3 x.1 ((hP k x hx).lt))
          clear hk3 hS2
          refine s_csL (As := [.long (f (nI a).toNatClampNeg), .int r3]) (rest := [.int (nI a), .ref q4]) hCs hS3 hl.1 kwith cwX8_37 ysX8_withLetter rfl rfl (Nat.le_of_ble_eq_true rfl) ⟨⟨Nat.le_of_ble_eq_true rfl, Nat.le_of_ble_eq_true rfl⟩, Nat.le_of_ble_eq_true rfl, Nat.le_of_ble_eq_true rfl⟩ dX8_init_92 (fun r4 H4 locs4 hp4 hz4 hk4 hS4 => ?_)
          have hP := hP.kept (fun k x hx => hk4 x.1 ((hP k x hx).lt))
          clear hk4 hS3
          refine va_last hx hb hC.2.2.2.2.2.1 hP hD hS4 4 3 rfl rfl (vp_in_nI ha (by decide)) dX8_init_95 (fun H5 locs5 hP5 hD5 hS5 => ?_)
          refine lv_iinc (v := nI (j + 1)) (lv' := [(2, .int (nI (j + 1))), (0, .ref h0), (1, .int (nI a))]) hx hb dX8_init_96 hl (k := 2) rfl (by rw [nI_succ]; rfl) (by decide) rfl (fun ls hl => ?_)
          refine lv_goto (tgt := 43) hx hb dX8_init_99 (by decide) ?_
          exact ih (j + 1) a _ H5 locs5 ls (by omega) (by omega) (by omega) hP5 hD5 hS5 (lv_sub hl [1, 2, 0] rfl)
        · refine lv_iinc (v := nI (a + 1)) (lv' := [(1, .int (nI (a + 1))), (0, .ref h0), (2, .int (nI j))]) hx hb dX8_init_69 hl (k := 1) rfl (by rw [nI_succ]; rfl) (by decide) rfl (fun ls hl => ?_)
          refine lv_goto (tgt := 96) hx hb dX8_init_72 (by decide) ?_
          refine lv_iinc (v := nI (j + 1)) (lv' := [(2, .int (nI (j + 1))), (1, .int (nI (a + 1))), (0, .ref h0)]) hx hb dX8_init_96 hl (k := 2) rfl (by rw [nI_succ]; rfl) (by decide) rfl (fun ls hl => ?_)
          refine lv_goto (tgt := 43) hx hb dX8_init_99 (by decide) ?_
          exact ih (j + 1) (a + 1) f _ _ ls (by omega) (by omega) (by omega) hP hD hS2 (lv_sub hl [2, 1, 0] rfl)
def XTok (q v : Nat) (ws : va_W) (sz : Nat) (U : State) : Prop := Sx q v (va_A ws sz) U U.heap ∧ vk_R RX8 25 sTx q U
abbrev nX8 : List Value := [.null, .null, .null, .int 0, .null]
def lX8 (g : Gw) (h0 : Nat) (u : (Nat → Nat) × (Nat → Int64)) : va_W := tokW g h0 (u.1 1) (u.1 2) (u.1 3) (u.1 4) u.2
set_option maxHeartbeats 4000000 in
set_option maxRecDepth 100000 in
theorem k_X8_init {l : Launch} {g : Gw} {h0 q v : Nat} : MtE l yX8_init cX8_init 3 5 4 4823 g [(h0, .inr (8, nX8))] [.ref h0] (XTok q v [(h0, .inr (8, nX8))]) (fun _ : (Nat → Nat) × (Nat → Int64) => True) (lX8 g h0) := by
  refine e_ent (by decide) rfl (Nat.le_of_ble_eq_true rfl) ?_
  intro p e s m args below meth c A Q ls hAe hC hin hX hRt hP hD hS hA hl
  have hin : meth.name = "<init>" := hin
  have hx := hC.1
  have hb := hC.2.1
  have hl : lv_has ls 3 [(0, .ref h0)] := hl
  obtain ⟨hXs, hZ⟩ := hX
  rw [← hAe] at hXs
  refine lv_aload_n hx hb dX8_init_0 rfl (lv_at hl 0 rfl) ?_
  refine e_obj hC hl.1 m64 m10 m11 ⟨(Nat.le_of_ble_eq_true rfl), (Nat.le_of_ble_eq_true rfl)⟩ dX8_init_1 ?_
  refine lv_aload_n hx hb dX8_init_4 rfl (lv_at hl 0 rfl) ?_
  refine lv_sipush hx hb dX8_init_5 kS_1602 ?_
  refine e_npI (ci := 8) (C := RX8) (T := TX8) (N := 5) (ty0 := tyX8) (n := 1602) (N' := 1602) hC hin hP hD hS hA m58 rfl inlX8 tyX8_ok nmX8 0 (by decide) rfl rfl (by decide +kernel) rfl m65 (by decide) (by decide) (by decide) (Nat.le_of_ble_eq_true rfl) (Nat.le_of_ble_eq_true rfl) dX8_init_8 dX8_init_10 (fun q1 H locs hP hD hS => ?_)
  refine lv_aload_n hx hb dX8_init_13 rfl (lv_at hl 0 rfl) ?_
  refine lv_sipush hx hb dX8_init_14 kS_1602 ?_
  refine e_npI (ci := 8) (C := RX8) (T := TX8) (N := 5) (ty0 := tyX8) (n := 1602) (N' := 1602) hC hin hP hD hS hA m58 rfl inlX8 tyX8_ok nmX8 1 (by decide) rfl rfl (by decide +kernel) rfl m66 (by decide) (by decide) (by decide) (Nat.le_of_ble_eq_true rfl) (Nat.le_of_ble_eq_true rfl) dX8_init_17 dX8_init_19 (fun q2 H locs hP hD hS => ?_)
  refine lv_aload_n hx hb dX8_init_22 rfl (lv_at hl 0 rfl) ?_
  refine lv_sipush hx hb dX8_init_23 kS_1602 ?_
  refine e_npJ (ci := 8) (C := RX8) (T := TX8) (N := 5) (ty0 := tyX8) (n := 1602) (N' := 1602) hC hin hP hD hS hA m67 rfl inlX8 tyX8_ok nmX8 2 (by decide) rfl rfl (by decide +kernel) rfl m68 (by decide) (by decide) (by decide) (Nat.le_of_ble_eq_true rfl) (Nat.le_of_ble_eq_true rfl) dX8_init_26 dX8_init_28 (fun q3 H locs hP hD hS => ?_)
  refine lv_aload_n hx hb dX8_init_31 rfl (lv_at hl 0 rfl) ?_
  refine lv_bipush hx hb dX8_init_32 kB_17 ?_
  refine e_npJ (ci := 8) (C := RX8) (T := TX8) (N := 5) (ty0 := tyX8) (n := 17) (N' := 17) hC hin hP hD hS hA m67 rfl inlX8 tyX8_ok nmX8 4 (by decide) rfl rfl (by decide +kernel) rfl m69 (by decide) (by decide) (by decide) (Nat.le_of_ble_eq_true rfl) (Nat.le_of_ble_eq_true rfl) dX8_init_34 dX8_init_36 (fun q4 H locs hP hD hS => ?_)
  refine lv_iconst (v := nI 0) hx hb dX8_init_39 (by decide) ?_
  refine lv_istore_n (lv' := [(1, .int (nI 0)), (0, .ref h0)]) hx hb dX8_init_40 rfl hl (by decide) rfl (fun ls hl => ?_)
  refine lv_iconst (v := nI 0) hx hb dX8_init_41 (by decide) ?_
  refine lv_istore_n (lv' := [(2, .int (nI 0)), (1, .int (nI 0)), (0, .ref h0)]) hx hb dX8_init_42 rfl hl (by decide) rfl (fun ls hl => ?_)
  exact tok_loop (q1 := q1) (q2 := q2) (q3 := q3) (q4 := q4) hC hXs hZ hA (fun f H locs ls hP hD hS => hRt (fun i => ([h0, q1, q2, q3, q4] : List Nat).getD i 0, f) H locs ls 102 dX8_init_102 trivial hP hD hS) 85 0 0 (fun _ => 0) _ _ ls (by decide) (by decide) (Nat.le_refl 0) hP hD hS (lv_sub hl [2, 1, 0] rfl)
