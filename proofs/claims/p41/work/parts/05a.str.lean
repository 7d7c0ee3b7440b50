/-! ===== the one String constant: its length() and charAt(), the JDK's own code ===== -/
def sLen : Nat := 84
def Sx (q v : Nat) (A : Nat → Prop) (U : State) (H : Heap) : Prop := va_O "java/lang/String" q A U H ∧ va_OF "java/lang/String" "coder" "B" (.int 0) q A U H ∧ va_OF "java/lang/String" "value" "[B" (.ref v) q A U H ∧ (∃ f : Nat → Int32, va_T .byte v sLen (fun j => .int (f j)) A U H) ∧ va_Z "java/lang/String" "COMPACT_STRINGS" "Z" (.int 1) A U H ∧ va_Zq "jdk/internal/util/Preconditions" "SIOOBE_FORMATTER" "Ljava/util/function/BiFunction;" A U H
theorem Sx.moved {q v : Nat} {A : Nat → Prop} {u U : State} {H : Heap} (hvm : u.vm.Alike U.vm) (h : Sx q v A u H) : Sx q v A U H := by
  obtain ⟨h1, h2, h3, ⟨f, h4⟩, h5, h6⟩ := h
  exact ⟨va_O.moved hvm h1, va_OF.moved hvm h2, va_OF.moved hvm h3, ⟨f, va_T.moved hvm h4⟩, va_Z.moved hvm h5, va_Zq.moved hvm h6⟩
theorem Sx.kept {q v : Nat} {A : Nat → Prop} {U : State} {H H1 : Heap} (h : Sx q v A U H) (hq : ∀ a : Nat, a < H.size → ¬ A a → H1[a]? = H[a]?) : Sx q v A U H1 := by
  obtain ⟨h1, h2, h3, ⟨f, h4⟩, h5, h6⟩ := h
  exact ⟨h1.kept hq, h2.kept hq, h3.kept hq, ⟨f, h4.kept hq⟩, h5.kept hq, h6.kept hq⟩
theorem Sx.narrow {q v : Nat} {A B : Nat → Prop} {U : State} {H : Heap} (h : Sx q v A U H) (hAB : ∀ q, B q → A q) : Sx q v B U H := by
  obtain ⟨h1, h2, h3, ⟨f, h4⟩, h5, h6⟩ := h
  exact ⟨h1.narrow hAB, h2.narrow hAB, h3.narrow hAB, ⟨f, h4.narrow hAB⟩, h5.narrow hAB, h6.narrow hAB⟩
abbrev No : Nat → Prop := fun _ => False
def PcS (q v : Nat) (av : List Value) : Array Value → State → Prop := va_Pc av (fun U => Sx q v No U U.heap)
theorem blindS {q v : Nat} {av : List Value} : FrameBlind (PcS q v av) := by
  intro a U gg mk h
  obtain ⟨q0, q1⟩ := h
  exact ⟨q0, Sx.moved (u := U) (U := U.calling gg mk a) (Vm.Alike.refl U.vm) q1⟩
def MtS (l : Launch) (y : MethodName) (bs : ByteArray) (n : Nat) (ret : FieldType) (k q v : Nat) (av : List Value) (post : Int32 → Prop) : Prop := Met l y (.code y bs n (some ret) :: wsL_law) (rk k) (PcS q v av) (va_Qi (fun r (_ : Unit) => post r) (fun _ _ => True) No) 0 0 No
def MtU (l : Launch) (y : MethodName) (bs : ByteArray) (n : Nat) (k q v : Nat) (av : List Value) : Prop := Met l y (.code y bs n none :: wsL_law) (rk k) (PcS q v av) (va_Qv (fun (_ : Unit) => True) (fun _ _ => True) No) 0 0 No
def Cs (p : Program) (s : State) (m : MethodId) (args : Array Value) (c : Code) (cc : ByteArray) (own : String) (nL : Nat) : Prop :=
  p.tables.exec = Jvm.exec ∧ c.code = cc ∧ c.maxLocals = nL ∧ s.vm.findClass own = some m.cls ∧ (∀ w ∈ wsL_law, w.before args s = true)
section ES
variable {l : Launch} {y : MethodName} {cc : ByteArray} {nL k q v : Nat} {av : List Value} {own : String} {ret : FieldType} {post : Int32 → Prop}
theorem s_ent (hy : plainName y.cls = true) (hown : y.cls = own) (hlen : (lg_sl av).length ≤ nL)
    (body : ∀ (p : Program) (e : Env) (s : State) (m : MethodId) (args : Array Value) (below : List Frame) (meth : Method) (c : Code) (Q : State → Prop) (ls : Array Slot), Cs p s m args c cc own nL → (∀ (r : Int32) (H : Heap) (locs : List Loc) (ls : Array Slot) (pc : Nat), decode cc pc = .ok (.ireturn, 1) → narrow ret (.int r) = .int r → post r → va_S No s.heap H locs → W p l e (rk k) s m args below meth c H locs 0 0 Q (F0 m pc ls [.int r])) → Sx q v No s s.heap → lv_has ls nL (lv_args 0 av) → W p l e (rk k) s m args below meth c s.heap [] 0 0 Q (F0 m 0 ls [])) : MtS l y cc nL ret k q v av post := by
  refine Met.ofW (cc := cc) (maxL := nL) (ret := some ret) hy rfl ?_
  intro p e s m args below meth c s₁ B hml hv
  obtain ⟨rfl, hX⟩ := hv
  have hts := atoms_spec (ws := .code y cc nL (some ret) :: wsL_law) B.pre
  have hown2 : s.vm.findClass own = some m.cls := by rw [← hown]; exact findClass_of_methodNamed B.named
  have hlocks := B.notSynchronized
  have hl := lv_entry av (n := nL) hlen
  rw [lg_entry_eq]
  refine body p e s m _ below meth c _ _ ⟨B.exec, B.bytes, hml, hown2, fun w h => hts w (List.mem_cons_of_mem _ h)⟩ ?_ hX hl
  intro r H locs ls pc hd hn hp hS
  exact W.zret (v := r) B.exec B.bytes B.returns hn (fun t9 ht hW => ⟨⟨r, (), rfl, hp, trivial⟩, hS.F ht⟩) (fun x hx => hS.2.2 x hx) hd hlocks
theorem s_entV (hy : plainName y.cls = true) (hown : y.cls = own) (hlen : (lg_sl av).length ≤ nL)
    (body : ∀ (p : Program) (e : Env) (s : State) (m : MethodId) (args : Array Value) (below : List Frame) (meth : Method) (c : Code) (Q : State → Prop) (ls : Array Slot), Cs p s m args c cc own nL → (∀ (H : Heap) (locs : List Loc) (ls : Array Slot) (pc : Nat), decode cc pc = .ok (.return_, 1) → va_S No s.heap H locs → W p l e (rk k) s m args below meth c H locs 0 0 Q (F0 m pc ls [])) → Sx q v No s s.heap → lv_has ls nL (lv_args 0 av) → W p l e (rk k) s m args below meth c s.heap [] 0 0 Q (F0 m 0 ls [])) : MtU l y cc nL k q v av := by
  refine Met.ofW (cc := cc) (maxL := nL) (ret := none) hy rfl ?_
  intro p e s m args below meth c s₁ B hml hv
  obtain ⟨rfl, hX⟩ := hv
  have hts := atoms_spec (ws := .code y cc nL none :: wsL_law) B.pre
  have hown2 : s.vm.findClass own = some m.cls := by rw [← hown]; exact findClass_of_methodNamed B.named
  have hlocks := B.notSynchronized
  have hl := lv_entry av (n := nL) hlen
  rw [lg_entry_eq]
  refine body p e s m _ below meth c _ _ ⟨B.exec, B.bytes, hml, hown2, fun w h => hts w (List.mem_cons_of_mem _ h)⟩ ?_ hX hl
  intro H locs ls pc hd hS
  exact W.vret B.exec B.bytes B.returns (fun t9 ht hW => ⟨⟨(), rfl, trivial, trivial⟩, hS.F ht⟩) (fun x hx => hS.2.2 x hx) hd hlocks
end ES
section CS
variable {p : Program} {l : Launch} {e : Env} {R : Room} {s : State} {m : MethodId} {args : Array Value} {below : List Frame} {meth : Method} {c : Code} {H H0 : Heap} {locs : List Loc} {cells slots : Nat} {Q : State → Prop} {cc : ByteArray} {pc : Nat} {ls : Array Slot} {rest st : List Value} {A : Nat → Prop} {own C : String} {nL : Nat} {y : MethodName} {bs : ByteArray} {maxL k1 index n q v : Nat} {ret : FieldType} {As : List Value} {post : Int32 → Prop}
/-- a pure call of a String's method -/
theorem s_cv (hC : Cs p s m args c cc own nL) (hX : Sx q v A s s.heap) (hS : va_S A s.heap H locs) (hls : ls.size = nL) (hM : MtS l y bs maxL ret k1 q v (.ref q :: As) post) (hG : GoodIn wsL_law (wsV own index "java/lang/String" y (.code y bs maxL (some ret) :: wsL_law))) (hy : Yv y "java/lang/String" n) (hn : As.length = n) (hst : st = As.reverse ++ .ref q :: rest) (hw : (rest.map fun v => v.category).sum ≤ 8) (hR : Rm R k1 maxL cells slots) (hd : decode cc pc = .ok (.invokevirtual index, 3))
    (kk : ∀ (r : Int32) (H1 : Heap) (locs1 : List Loc), post r → H.size ≤ H1.size → (∀ a : Nat, a < H.size → H1[a]? = H[a]?) → va_S A s.heap H1 locs1 → W p l e R s m args below meth c H1 locs1 cells slots Q (F0 m (pc + 3) ls (.int r :: rest))) : W p l e R s m args below meth c H locs cells slots Q (F0 m pc ls st) := by
  obtain ⟨hx, hb, hml, hown, hts⟩ := hC
  subst hst
  have hXH : Sx q v A s H := hX.kept hS.2.1
  have hrc : ∃ cell : Cell, H[q]? = some cell ∧ cell.vm.isStatics = false ∧ s.vm.findClass "java/lang/String" = some cell.cls := by
    obtain ⟨⟨cell, h1, h2, h3, -⟩, -⟩ := hXH
    exact ⟨cell, h1, h2, h3⟩
  refine va_calli (A0 := A) (va_runV (As := As) (rest := rest) ⟨hx, hb, hml, hown, hts⟩ hM (cwV n hts hG rfl rfl rfl hy hR.1) ⟨blindS, hrc, fun U hU hW => ⟨rfl, by show Sx q v No U U.heap; rw [hU]; exact (hXH.narrow (fun _ z => z.elim)).moved hW.alike⟩⟩ rfl hn hls rfl (lv_room hw) hd hR.2) hS (fun _ _ z => z.elim) (fun _ z => z.elim) (fun r u t9 H1 locs1 ht hvm hp hB hz hk hS1 => ?_)
  exact kk r H1 locs1 hp hz (fun a ha => hk a ha id) hS1
theorem s_cs (hC : Cs p s m args c cc own nL) (hX : Sx q v A s s.heap) (hS : va_S A s.heap H locs) (hls : ls.size = nL) (hM : MtS l y bs maxL ret k1 q v As post) (hG : GoodIn wsL_law (va_wsS own index y (.code y bs maxL (some ret) :: wsL_law))) (hy : Ys y n) (hn : As.length = n) (hst : st = As.reverse ++ rest) (hw : (rest.map fun v => v.category).sum ≤ 8) (hR : Rm R k1 maxL cells slots) (hd : decode cc pc = .ok (.invokestatic index, 3))
    (kk : ∀ (r : Int32) (H1 : Heap) (locs1 : List Loc), post r → H.size ≤ H1.size → (∀ a : Nat, a < H.size → H1[a]? = H[a]?) → va_S A s.heap H1 locs1 → W p l e R s m args below meth c H1 locs1 cells slots Q (F0 m (pc + 3) ls (.int r :: rest))) : W p l e R s m args below meth c H locs cells slots Q (F0 m pc ls st) := by
  obtain ⟨hx, hb, hml, hown, hts⟩ := hC
  subst hst
  have hXH : Sx q v A s H := hX.kept hS.2.1
  refine va_calli (A0 := A) (va_runS (As := As) (rest := rest) ⟨hx, hb, hml, hown, hts⟩ hM (va_cwS n hts hG rfl rfl rfl hy hR.1) ⟨blindS, fun U hU hW => ⟨rfl, by show Sx q v No U U.heap; rw [hU]; exact (hXH.narrow (fun _ z => z.elim)).moved hW.alike⟩⟩ rfl hn hls rfl (lv_room hw) hd hR.2) hS (fun _ _ z => z.elim) (fun _ z => z.elim) (fun r u t9 H1 locs1 ht hvm hp hB hz hk hS1 => ?_)
  exact kk r H1 locs1 hp hz (fun a ha => hk a ha id) hS1
theorem s_csV (hC : Cs p s m args c cc own nL) (hX : Sx q v A s s.heap) (hS : va_S A s.heap H locs) (hls : ls.size = nL) (hM : MtU l y bs maxL k1 q v As) (hG : GoodIn wsL_law (va_wsS own index y (.code y bs maxL none :: wsL_law))) (hy : Ys y n) (hn : As.length = n) (hst : st = As.reverse ++ rest) (hw : (rest.map fun v => v.category).sum ≤ 8) (hR : Rm R k1 maxL cells slots) (hd : decode cc pc = .ok (.invokestatic index, 3))
    (kk : ∀ (H1 : Heap) (locs1 : List Loc), H.size ≤ H1.size → (∀ a : Nat, a < H.size → H1[a]? = H[a]?) → va_S A s.heap H1 locs1 → W p l e R s m args below meth c H1 locs1 cells slots Q (F0 m (pc + 3) ls rest)) : W p l e R s m args below meth c H locs cells slots Q (F0 m pc ls st) := by
  obtain ⟨hx, hb, hml, hown, hts⟩ := hC
  subst hst
  have hXH : Sx q v A s H := hX.kept hS.2.1
  refine va_callv (A0 := A) (va_runS (As := As) (rest := rest) ⟨hx, hb, hml, hown, hts⟩ hM (va_cwS n hts hG rfl rfl rfl hy hR.1) ⟨blindS, fun U hU hW => ⟨rfl, by show Sx q v No U U.heap; rw [hU]; exact (hXH.narrow (fun _ z => z.elim)).moved hW.alike⟩⟩ rfl hn hls rfl (lv_room hw) hd hR.2) hS (fun _ _ z => z.elim) (fun _ z => z.elim) (fun u t9 H1 locs1 ht hvm hp hB hz hk hS1 => ?_)
  exact kk H1 locs1 hz (fun a ha => hk a ha id) hS1
end CS
theorem m73 : (Cond.initialized RJ0) ∈ wsL_law := rin4 _ (List.mem_of_getElem? (i := 1) (by decide +kernel))
theorem m75 : (Cond.fieldLink RJ0 9 "java/lang/String" "value" "[B") ∈ wsL_law := rin4 _ (List.mem_of_getElem? (i := 3) (by decide +kernel))
theorem m76 : (Cond.methodLink RJ0 335 yJ0_coder_7d493) ∈ wsL_law := rin4 _ (List.mem_of_getElem? (i := 4) (by decide +kernel))
theorem m77 : (Cond.instanceMethod yJ0_coder_7d493) ∈ wsL_law := rin4 _ (List.mem_of_getElem? (i := 5) (by decide +kernel))
theorem m78 : (Cond.selects RJ0 yJ0_coder_7d493 yJ0_coder_7d493) ∈ wsL_law := rin4 _ (List.mem_of_getElem? (i := 6) (by decide +kernel))
theorem m79 : (Cond.code yJ0_coder_7d493 cJ0_coder_7d493 1 (some .byte)) ∈ wsL_law := rin4 _ (List.mem_of_getElem? (i := 7) (by decide +kernel))
theorem m80 : (Cond.fieldLink RJ0 38 "java/lang/String" "COMPACT_STRINGS" "Z") ∈ wsL_law := rin4 _ (List.mem_of_getElem? (i := 8) (by decide +kernel))
theorem m81 : (Cond.fieldLink RJ0 15 "java/lang/String" "coder" "B") ∈ wsL_law := rin4 _ (List.mem_of_getElem? (i := 9) (by decide +kernel))
theorem m86 : (Cond.methodLink RJ0 492 yJ0_isLatin1_aae02) ∈ wsL_law := rin4 _ (List.mem_of_getElem? (i := 14) (by decide +kernel))
theorem m87 : (Cond.instanceMethod yJ0_isLatin1_aae02) ∈ wsL_law := rin4 _ (List.mem_of_getElem? (i := 15) (by decide +kernel))
theorem m88 : (Cond.selects RJ0 yJ0_isLatin1_aae02 yJ0_isLatin1_aae02) ∈ wsL_law := rin4 _ (List.mem_of_getElem? (i := 16) (by decide +kernel))
theorem m89 : (Cond.code yJ0_isLatin1_aae02 cJ0_isLatin1_aae02 1 (some .boolean)) ∈ wsL_law := rin4 _ (List.mem_of_getElem? (i := 17) (by decide +kernel))
theorem m90 : (Cond.methodLink RJ0 495 yJ1_charAt_3b067) ∈ wsL_law := rin4 _ (List.mem_of_getElem? (i := 18) (by decide +kernel))
theorem m91 : (Cond.static yJ1_charAt_3b067) ∈ wsL_law := rin4 _ (List.mem_of_getElem? (i := 19) (by decide +kernel))
theorem m92 : (Cond.initialized RJ1) ∈ wsL_law := rin4 _ (List.mem_of_getElem? (i := 20) (by decide +kernel))
theorem m93 : (Cond.code yJ1_charAt_3b067 cJ1_charAt_3b067 2 (some .char)) ∈ wsL_law := rin4 _ (List.mem_of_getElem? (i := 21) (by decide +kernel))
theorem m94 : (Cond.methodLink RJ1 9 yJ0_checkIndex_df160) ∈ wsL_law := rin4 _ (List.mem_of_getElem? (i := 22) (by decide +kernel))
theorem m95 : (Cond.static yJ0_checkIndex_df160) ∈ wsL_law := rin4 _ (List.mem_of_getElem? (i := 23) (by decide +kernel))
theorem m96 : (Cond.code yJ0_checkIndex_df160 cJ0_checkIndex_df160 2 none) ∈ wsL_law := rin5 _ (List.mem_of_getElem? (i := 0) (by decide +kernel))
theorem m97 : (Cond.fieldLink RJ0 1053 "jdk/internal/util/Preconditions" "SIOOBE_FORMATTER" "Ljava/util/function/BiFunction;") ∈ wsL_law := rin5 _ (List.mem_of_getElem? (i := 1) (by decide +kernel))
theorem m98 : (Cond.methodLink RJ0 1059 yJ3_checkIndex_8e157) ∈ wsL_law := rin5 _ (List.mem_of_getElem? (i := 2) (by decide +kernel))
theorem m99 : (Cond.static yJ3_checkIndex_8e157) ∈ wsL_law := rin5 _ (List.mem_of_getElem? (i := 3) (by decide +kernel))
theorem m100 : (Cond.initialized RJ3) ∈ wsL_law := rin5 _ (List.mem_of_getElem? (i := 4) (by decide +kernel))
theorem m101 : (Cond.code yJ3_checkIndex_8e157 cJ3_checkIndex_8e157 3 (some .int)) ∈ wsL_law := rin5 _ (List.mem_of_getElem? (i := 5) (by decide +kernel))
theorem cwJ0_1059 : GoodIn wsL_law (va_wsS RJ0 1059 yJ3_checkIndex_8e157 (.code yJ3_checkIndex_8e157 cJ3_checkIndex_8e157 3 (some .int) :: wsL_law)) := gS m98 m99 m100 m101
theorem ysJ3_checkIndex_8e157 : Ys yJ3_checkIndex_8e157 3 := by decide +kernel
theorem cwJ0_495 : GoodIn wsL_law (va_wsS RJ0 495 yJ1_charAt_3b067 (.code yJ1_charAt_3b067 cJ1_charAt_3b067 2 (some .char) :: wsL_law)) := gS m90 m91 m92 m93
theorem ysJ1_charAt_3b067 : Ys yJ1_charAt_3b067 2 := by decide +kernel
theorem cwJ1_9 : GoodIn wsL_law (va_wsS RJ1 9 yJ0_checkIndex_df160 (.code yJ0_checkIndex_df160 cJ0_checkIndex_df160 2 none :: wsL_law)) := gS m94 m95 m73 m96
theorem ysJ0_checkIndex_df160 : Ys yJ0_checkIndex_df160 2 := by decide +kernel
theorem cwJ0_335 : GoodIn wsL_law (wsV RJ0 335 RJ0 yJ0_coder_7d493 (.code yJ0_coder_7d493 cJ0_coder_7d493 1 (some .byte) :: wsL_law)) := gV m76 m77 m78 m73 m79
theorem yvJ0_coder_7d493 : Yv yJ0_coder_7d493 RJ0 0 := by decide +kernel
theorem cwJ0_492 : GoodIn wsL_law (wsV RJ0 492 RJ0 yJ0_isLatin1_aae02 (.code yJ0_isLatin1_aae02 cJ0_isLatin1_aae02 1 (some .boolean) :: wsL_law)) := gV m86 m87 m88 m73 m89
theorem yvJ0_isLatin1_aae02 : Yv yJ0_isLatin1_aae02 RJ0 0 := by decide +kernel
set_option maxRecDepth 100000 in
theorem jcoder {l : Launch} {q v : Nat} : MtS l yJ0_coder_7d493 cJ0_coder_7d493 1 .byte 1 q v [.ref q] (fun r => r = 0) := by
  refine s_ent (by decide) rfl (Nat.le_of_ble_eq_true rfl) ?_
  intro p e s m args below meth c Q ls hC hR hX hl
  have hx := hC.1
  have hb := hC.2.1
  have hl : lv_has ls 1 [(0, .ref q)] := hl
  obtain ⟨h1, h2, h3, h4, h5, h6⟩ := hX
  refine va_gets (A := No) hx hb h5 va_S.rf hC.2.2.2.1 (hC.2.2.2.2 _ m80) (fun _ h => h) dJ0_coder_7d493_0 ?_
  refine lv_if_eq (tgt := 13) hx hb dJ0_coder_7d493_3 (by decide) (fun c_1 => absurd c_1 (by decide)) (fun c_1 => ?_)
  refine lv_aload_n hx hb dJ0_coder_7d493_6 rfl (lv_at hl 0 rfl) ?_
  refine vk_getf (A := No) hx hb h2 va_S.rf hC.2.2.2.1 (hC.2.2.2.2 _ m81) (fun _ h => h) dJ0_coder_7d493_7 ?_
  refine lv_goto (tgt := 14) hx hb dJ0_coder_7d493_10 (by decide) ?_
  exact hR 0 _ _ _ _ dJ0_coder_7d493_14 rfl rfl va_S.rf
set_option maxRecDepth 100000 in
theorem jlatin {l : Launch} {q v : Nat} : MtS l yJ0_isLatin1_aae02 cJ0_isLatin1_aae02 1 .boolean 1 q v [.ref q] (fun r => r = 1) := by
  refine s_ent (by decide) rfl (Nat.le_of_ble_eq_true rfl) ?_
  intro p e s m args below meth c Q ls hC hR hX hl
  have hx := hC.1
  have hb := hC.2.1
  have hl : lv_has ls 1 [(0, .ref q)] := hl
  obtain ⟨h1, h2, h3, h4, h5, h6⟩ := hX
  refine va_gets (A := No) hx hb h5 va_S.rf hC.2.2.2.1 (hC.2.2.2.2 _ m80) (fun _ h => h) dJ0_isLatin1_aae02_0 ?_
  refine lv_if_eq (tgt := 17) hx hb dJ0_isLatin1_aae02_3 (by decide) (fun c_1 => absurd c_1 (by decide)) (fun c_1 => ?_)
  refine lv_aload_n hx hb dJ0_isLatin1_aae02_6 rfl (lv_at hl 0 rfl) ?_
  refine vk_getf (A := No) hx hb h2 va_S.rf hC.2.2.2.1 (hC.2.2.2.2 _ m81) (fun _ h => h) dJ0_isLatin1_aae02_7 ?_
  refine lv_if_ne (tgt := 17) hx hb dJ0_isLatin1_aae02_10 (by decide) (fun c_1 => absurd rfl c_1) (fun c_1 => ?_)
  refine lv_iconst (v := 1) hx hb dJ0_isLatin1_aae02_13 (by decide) ?_
  refine lv_goto (tgt := 18) hx hb dJ0_isLatin1_aae02_14 (by decide) ?_
  exact hR 1 _ _ _ _ dJ0_isLatin1_aae02_18 rfl rfl va_S.rf
set_option maxRecDepth 100000 in
theorem jlength {l : Launch} {q v : Nat} : MtS l yJ0_length_8abf5 cJ0_length_8abf5 1 .int 2 q v [.ref q] (fun r => r = nI sLen) := by
  refine s_ent (by decide) rfl (Nat.le_of_ble_eq_true rfl) ?_
  intro p e s m args below meth c Q ls hC hR hX hl
  have hx := hC.1
  have hb := hC.2.1
  have hl : lv_has ls 1 [(0, .ref q)] := hl
  obtain ⟨h1, h2, h3, ⟨f, h4⟩, h5, h6⟩ := id hX
  refine lv_aload_n hx hb dJ0_length_8abf5_0 rfl (lv_at hl 0 rfl) ?_
  refine vk_getf (A := No) hx hb h3 va_S.rf hC.2.2.2.1 (hC.2.2.2.2 _ m75) (fun _ h => h) dJ0_length_8abf5_1 ?_
  refine va_tlen (A := No) hx hb h4 va_S.rf rfl dJ0_length_8abf5_4 ?_
  refine lv_aload_n hx hb dJ0_length_8abf5_5 rfl (lv_at hl 0 rfl) ?_
  refine s_cv (As := []) (rest := [.int (Int32.ofNat sLen)]) hC hX va_S.rf hl.1 jcoder cwJ0_335 yvJ0_coder_7d493 rfl rfl (Nat.le_of_ble_eq_true rfl) (rmk (by decide) (by decide)) dJ0_length_8abf5_6 (fun r H1 locs1 hp hz hk hS => ?_)
  subst hp
  refine lv_ishr hx hb dJ0_length_8abf5_9 ?_
  exact hR _ _ _ _ _ dJ0_length_8abf5_10 rfl (sc_shr0 (by decide)) hS
set_option maxRecDepth 100000 in
theorem jcheck3 {l : Launch} {q v : Nat} {j : Nat} (hj : j < sLen) {z : Value} (hz : z.category = 1) : MtS l yJ3_checkIndex_8e157 cJ3_checkIndex_8e157 3 .int 1 q v [.int (nI j), .int (nI sLen), z] (fun _ => True) := by
  have hlen : (lg_sl [.int (nI j), .int (nI sLen), z]).length ≤ 3 := by
    cases z <;> first | exact Nat.le_of_ble_eq_true rfl | exact absurd (show (2 : Nat) = 1 from hz) (by decide)
  refine s_ent (by decide) rfl hlen ?_
  intro p e s m args below meth c Q ls hC hR hX hl
  have hx := hC.1
  have hb := hC.2.1
  have hl : lv_has ls 3 [(0, .int (nI j)), (1, .int (nI sLen))] := lv_sub hl [0, 1] rfl
  refine lv_iload_n hx hb dJ3_checkIndex_8e157_0 rfl (lv_at hl 0 rfl) ?_
  refine lv_if_lt (tgt := 9) hx hb dJ3_checkIndex_8e157_1 (by decide) (fun c_1 => absurd c_1 (nI_pos (Nat.lt_trans hj (by decide)))) (fun c_1 => ?_)
  refine lv_iload_n hx hb dJ3_checkIndex_8e157_4 rfl (lv_at hl 0 rfl) ?_
  refine lv_iload_n hx hb dJ3_checkIndex_8e157_5 rfl (lv_at hl 1 rfl) ?_
  refine lv_icmp_lt (tgt := 16) hx hb dJ3_checkIndex_8e157_6 (by decide) (fun c_1 => ?_) (fun c_1 => absurd (nI_lt hj (by decide)) c_1)
  refine lv_iload_n hx hb dJ3_checkIndex_8e157_16 rfl (lv_at hl 0 rfl) ?_
  exact hR _ _ _ _ _ dJ3_checkIndex_8e157_17 rfl trivial va_S.rf
set_option maxRecDepth 100000 in
theorem jcheck0 {l : Launch} {q v : Nat} {j : Nat} (hj : j < sLen) : MtU l yJ0_checkIndex_df160 cJ0_checkIndex_df160 2 2 q v [.int (nI j), .int (nI sLen)] := by
  refine s_entV (by decide) rfl (Nat.le_of_ble_eq_true rfl) ?_
  intro p e s m args below meth c Q ls hC hR hX hl
  have hx := hC.1
  have hb := hC.2.1
  have hl : lv_has ls 2 [(0, .int (nI j)), (1, .int (nI sLen))] := hl
  refine lv_iload_n hx hb dJ0_checkIndex_df160_0 rfl (lv_at hl 0 rfl) ?_
  refine lv_iload_n hx hb dJ0_checkIndex_df160_1 rfl (lv_at hl 1 rfl) ?_
  rcases hX.2.2.2.2.2 with hZ | ⟨t, hZ⟩
  · refine va_gets (A := No) hx hb hZ va_S.rf hC.2.2.2.1 (hC.2.2.2.2 _ m97) (fun _ h => h) dJ0_checkIndex_df160_2 ?_
    refine s_cs (As := [.int (nI j), .int (nI sLen), .null]) (rest := []) hC hX va_S.rf hl.1 (jcheck3 hj rfl) cwJ0_1059 ysJ3_checkIndex_8e157 rfl rfl (Nat.le_of_ble_eq_true rfl) (rmk (by decide) (by decide)) dJ0_checkIndex_df160_5 (fun r H1 locs1 hp hz hk hS => ?_)
    refine lv_pop hx hb dJ0_checkIndex_df160_8 rfl ?_
    exact hR _ _ _ _ dJ0_checkIndex_df160_9 hS
  · refine va_gets (A := No) hx hb hZ va_S.rf hC.2.2.2.1 (hC.2.2.2.2 _ m97) (fun _ h => h) dJ0_checkIndex_df160_2 ?_
    refine s_cs (As := [.int (nI j), .int (nI sLen), .ref t]) (rest := []) hC hX va_S.rf hl.1 (jcheck3 hj rfl) cwJ0_1059 ysJ3_checkIndex_8e157 rfl rfl (Nat.le_of_ble_eq_true rfl) (rmk (by decide) (by decide)) dJ0_checkIndex_df160_5 (fun r H1 locs1 hp hz hk hS => ?_)
    refine lv_pop hx hb dJ0_checkIndex_df160_8 rfl ?_
    exact hR _ _ _ _ dJ0_checkIndex_df160_9 hS
set_option maxRecDepth 100000 in
theorem jchar1 {l : Launch} {q v : Nat} {j : Nat} (hj : j < sLen) : MtS l yJ1_charAt_3b067 cJ1_charAt_3b067 2 .char 3 q v [.ref v, .int (nI j)] (fun r => narrow .char (.int r) = .int r) := by
  refine s_ent (by decide) rfl (Nat.le_of_ble_eq_true rfl) ?_
  intro p e s m args below meth c Q ls hC hR hX hl
  have hx := hC.1
  have hb := hC.2.1
  have hl : lv_has ls 2 [(0, .ref v), (1, .int (nI j))] := hl
  obtain ⟨h1, h2, h3, ⟨f, h4⟩, h5, h6⟩ := id hX
  refine lv_iload_n hx hb dJ1_charAt_3b067_0 rfl (lv_at hl 1 rfl) ?_
  refine lv_aload_n hx hb dJ1_charAt_3b067_1 rfl (lv_at hl 0 rfl) ?_
  refine va_tlen (A := No) (v := nI sLen) hx hb h4 va_S.rf rfl dJ1_charAt_3b067_2 ?_
  refine s_csV (As := [.int (nI j), .int (nI sLen)]) (rest := []) hC hX va_S.rf hl.1 (jcheck0 hj) cwJ1_9 ysJ0_checkIndex_df160 rfl rfl (Nat.le_of_ble_eq_true rfl) (rmk (by decide) (by decide)) dJ1_charAt_3b067_3 (fun H1 locs1 hz hk hS => ?_)
  refine lv_aload_n hx hb dJ1_charAt_3b067_6 rfl (lv_at hl 0 rfl) ?_
  refine lv_iload_n hx hb dJ1_charAt_3b067_7 rfl (lv_at hl 1 rfl) ?_
  refine va_tb (A := No) hx hb h4 hS (vp_in_nI hj (by decide)) rfl dJ1_charAt_3b067_8 ?_
  refine lv_sipush (v := 255) hx hb dJ1_charAt_3b067_9 (by decide) ?_
  refine lv_iand hx hb dJ1_charAt_3b067_12 ?_
  refine lv_i2c hx hb dJ1_charAt_3b067_13 rfl ?_
  exact hR _ _ _ _ _ dJ1_charAt_3b067_14 (pk_nc _) (pk_nc _) hS
set_option maxRecDepth 100000 in
theorem jcharAt {l : Launch} {q v : Nat} {j : Nat} (hj : j < sLen) : MtS l yJ0_charAt_5068e cJ0_charAt_5068e 2 .char 4 q v [.ref q, .int (nI j)] (fun _ => True) := by
  refine s_ent (by decide) rfl (Nat.le_of_ble_eq_true rfl) ?_
  intro p e s m args below meth c Q ls hC hR hX hl
  have hx := hC.1
  have hb := hC.2.1
  have hl : lv_has ls 2 [(0, .ref q), (1, .int (nI j))] := hl
  refine lv_aload_n hx hb dJ0_charAt_5068e_0 rfl (lv_at hl 0 rfl) ?_
  refine s_cv (As := []) (rest := []) hC hX va_S.rf hl.1 jlatin cwJ0_492 yvJ0_isLatin1_aae02 rfl rfl (Nat.le_of_ble_eq_true rfl) (rmk (by decide) (by decide)) dJ0_charAt_5068e_1 (fun r H1 locs1 hp hz hk hS => ?_)
  subst hp
  refine lv_if_eq (tgt := 16) hx hb dJ0_charAt_5068e_4 (by decide) (fun c_1 => absurd c_1 (by decide)) (fun c_1 => ?_)
  refine lv_aload_n hx hb dJ0_charAt_5068e_7 rfl (lv_at hl 0 rfl) ?_
  refine vk_getf (A := No) hx hb hX.2.2.1 hS hC.2.2.2.1 (hC.2.2.2.2 _ m75) (fun _ h => h) dJ0_charAt_5068e_8 ?_
  refine lv_iload_n hx hb dJ0_charAt_5068e_11 rfl (lv_at hl 1 rfl) ?_
  refine s_cs (As := [.ref v, .int (nI j)]) (rest := []) hC hX hS hl.1 (jchar1 hj) cwJ0_495 ysJ1_charAt_3b067 rfl rfl (Nat.le_of_ble_eq_true rfl) (rmk (by decide) (by decide)) dJ0_charAt_5068e_12 (fun r H1 locs1 hp hz hk hS => ?_)
  exact hR _ _ _ _ _ dJ0_charAt_5068e_15 hp trivial hS
