/-! ===== contracts over the world: entry, ends, calls ===== -/
def rk (k : Nat) : Room := { frames := k, cells := 0, slots := 0, locals := 60 * k }
def PcW (t : List (Nat × Ds)) (g : Gw) (w : Wd) (sz : Nat) (av : List Value) : Array Value → State → Prop := va_Pc av (fun U => U.heap.size = sz ∧ va_P g.1 vwCl (wsW t g w) U.heap ∧ KW g U ∧ va_D (fun _ => True) (wsW t g w))
def BcW (t : List (Nat × Ds)) (g : Gw) (A : Nat → Prop) (w : Wd) (U : State) : Prop := va_P g.1 vwCl (wsW t g w) U.heap ∧ va_D A (wsW t g w)
def QI (t : List (Nat × Ds)) (g : Gw) (A : Nat → Prop) (post : Int32 → Wd → Prop) : Array Value → State → Outcome → State → Prop := va_Qi post (BcW t g A) A
def QL (t : List (Nat × Ds)) (g : Gw) (A : Nat → Prop) (post : Int64 → Wd → Prop) : Array Value → State → Outcome → State → Prop := va_Ql post (BcW t g A) A
def QV (t : List (Nat × Ds)) (g : Gw) (A : Nat → Prop) (post : Wd → Prop) : Array Value → State → Outcome → State → Prop := va_Qv post (BcW t g A) A
def MtI (t : List (Nat × Ds)) (l : Launch) (y : MethodName) (bs : ByteArray) (n : Nat) (ret : Option FieldType) (k : Nat) (g : Gw) (w : Wd) (av : List Value) (post : Int32 → Wd → Prop) : Prop := ∀ sz : Nat, Met l y (.code y bs n ret :: wsL_law) (rk k) (PcW t g w sz av) (QI t g (va_A (wsW t g w) sz) post) 0 0 (va_A (wsW t g w) sz)
def MtL (t : List (Nat × Ds)) (l : Launch) (y : MethodName) (bs : ByteArray) (n : Nat) (ret : Option FieldType) (k : Nat) (g : Gw) (w : Wd) (av : List Value) (post : Int64 → Wd → Prop) : Prop := ∀ sz : Nat, Met l y (.code y bs n ret :: wsL_law) (rk k) (PcW t g w sz av) (QL t g (va_A (wsW t g w) sz) post) 0 0 (va_A (wsW t g w) sz)
def MtV (t : List (Nat × Ds)) (l : Launch) (y : MethodName) (bs : ByteArray) (n : Nat) (ret : Option FieldType) (k : Nat) (g : Gw) (w : Wd) (av : List Value) (post : Wd → Prop) : Prop := ∀ sz : Nat, Met l y (.code y bs n ret :: wsL_law) (rk k) (PcW t g w sz av) (QV t g (va_A (wsW t g w) sz) post) 0 0 (va_A (wsW t g w) sz)
/-- what an end of the method must have: for a walk, with Q left open -/
def RtI (t : List (Nat × Ds)) (p : Program) (l : Launch) (e : Env) (R : Room) (s : State) (m : MethodId) (args : Array Value) (below : List Frame) (meth : Method) (c : Code) (Q : State → Prop) (cc : ByteArray) (A : Nat → Prop) (g : Gw) (post : Int32 → Wd → Prop) : Prop :=
  ∀ (v : Int32) (w : Wd) (H : Heap) (locs : List Loc) (ls : Array Slot) (pc : Nat), decode cc pc = .ok (.ireturn, 1) → post v w → St t A s.heap g w H locs → W p l e R s m args below meth c H locs 0 0 Q (F0 m pc ls [.int v])
def RtZ (t : List (Nat × Ds)) (p : Program) (l : Launch) (e : Env) (R : Room) (s : State) (m : MethodId) (args : Array Value) (below : List Frame) (meth : Method) (c : Code) (Q : State → Prop) (cc : ByteArray) (A : Nat → Prop) (g : Gw) (post : Int32 → Wd → Prop) : Prop :=
  ∀ (v : Int32) (w : Wd) (H : Heap) (locs : List Loc) (ls : Array Slot) (pc : Nat), decode cc pc = .ok (.ireturn, 1) → v = vp_nar .boolean v → post v w → St t A s.heap g w H locs → W p l e R s m args below meth c H locs 0 0 Q (F0 m pc ls [.int v])
def RtL (t : List (Nat × Ds)) (p : Program) (l : Launch) (e : Env) (R : Room) (s : State) (m : MethodId) (args : Array Value) (below : List Frame) (meth : Method) (c : Code) (Q : State → Prop) (cc : ByteArray) (A : Nat → Prop) (g : Gw) (post : Int64 → Wd → Prop) : Prop :=
  ∀ (v : Int64) (w : Wd) (H : Heap) (locs : List Loc) (ls : Array Slot) (pc : Nat), decode cc pc = .ok (.lreturn, 1) → post v w → St t A s.heap g w H locs → W p l e R s m args below meth c H locs 0 0 Q (F0 m pc ls [.long v])
def RtV (t : List (Nat × Ds)) (p : Program) (l : Launch) (e : Env) (R : Room) (s : State) (m : MethodId) (args : Array Value) (below : List Frame) (meth : Method) (c : Code) (Q : State → Prop) (cc : ByteArray) (A : Nat → Prop) (g : Gw) (post : Wd → Prop) : Prop :=
  ∀ (w : Wd) (H : Heap) (locs : List Loc) (ls : Array Slot) (pc : Nat), decode cc pc = .ok (.return_, 1) → post w → St t A s.heap g w H locs → W p l e R s m args below meth c H locs 0 0 Q (F0 m pc ls [])
theorem nar_bool (v : Int32) (h : v = vp_nar .boolean v) : narrow .boolean (.int v) = .int v := by
  have h2 : narrow .boolean (.int v) = .int (vp_nar .boolean v) := rfl
  rw [h2, ← h]
section EN
variable {t : List (Nat × Ds)} {l : Launch} {y : MethodName} {cc : ByteArray} {nL k : Nat} {g : Gw} {w : Wd} {av : List Value} {own : String}
theorem q_entI {post : Int32 → Wd → Prop} (hnd : Nd t) (hy : plainName y.cls = true) (hown : y.cls = own) (hlen : (lg_sl av).length ≤ nL)
    (body : ∀ (p : Program) (e : Env) (s : State) (m : MethodId) (args : Array Value) (below : List Frame) (meth : Method) (c : Code) (A : Nat → Prop) (Q : State → Prop) (ls : Array Slot), Cx p s m args c cc own nL g → RtI t p l e (rk k) s m args below meth c Q cc A g post → St t A s.heap g w s.heap [] → lv_has ls nL (lv_args 0 av) → W p l e (rk k) s m args below meth c s.heap [] 0 0 Q (F0 m 0 ls [])) : MtI t l y cc nL (some .int) k g w av post := by
  intro sz
  refine Met.ofW (cc := cc) (maxL := nL) (ret := some .int) hy rfl ?_
  intro p e s m args below meth c s₁ B hml hv
  obtain ⟨rfl, hsz, hP, hK, hD0⟩ := hv
  have hts := atoms_spec (ws := .code y cc nL (some .int) :: wsL_law) B.pre
  have hown2 : s.vm.findClass own = some m.cls := by rw [← hown]; exact findClass_of_methodNamed B.named
  have hlocks := B.notSynchronized
  subst hsz
  have hl := lv_entry av (n := nL) hlen
  rw [lg_entry_eq]
  refine body p e s m _ below meth c _ _ _ ⟨B.exec, B.bytes, hml, hown2, fun w h => hts w (List.mem_cons_of_mem _ h), hK⟩ ?_ ⟨hP, hD0.self, va_S.rf, fun q h => Or.inr h, hnd⟩ hl
  intro v w1 H locs ls pc hd hp hS
  exact W.iret (v := v) B.exec B.bytes B.returns (fun t9 ht hW => ⟨⟨v, w1, rfl, hp, by rw [ht]; exact hS.1, hS.2.1⟩, hS.2.2.1.F ht⟩) hS.2.2.1.2.2 hd hlocks
theorem q_entZ {post : Int32 → Wd → Prop} (hnd : Nd t) (hy : plainName y.cls = true) (hown : y.cls = own) (hlen : (lg_sl av).length ≤ nL)
    (body : ∀ (p : Program) (e : Env) (s : State) (m : MethodId) (args : Array Value) (below : List Frame) (meth : Method) (c : Code) (A : Nat → Prop) (Q : State → Prop) (ls : Array Slot), Cx p s m args c cc own nL g → RtZ t p l e (rk k) s m args below meth c Q cc A g post → St t A s.heap g w s.heap [] → lv_has ls nL (lv_args 0 av) → W p l e (rk k) s m args below meth c s.heap [] 0 0 Q (F0 m 0 ls [])) : MtI t l y cc nL (some .boolean) k g w av post := by
  intro sz
  refine Met.ofW (cc := cc) (maxL := nL) (ret := some .boolean) hy rfl ?_
  intro p e s m args below meth c s₁ B hml hv
  obtain ⟨rfl, hsz, hP, hK, hD0⟩ := hv
  have hts := atoms_spec (ws := .code y cc nL (some .boolean) :: wsL_law) B.pre
  have hown2 : s.vm.findClass own = some m.cls := by rw [← hown]; exact findClass_of_methodNamed B.named
  have hlocks := B.notSynchronized
  subst hsz
  have hl := lv_entry av (n := nL) hlen
  rw [lg_entry_eq]
  refine body p e s m _ below meth c _ _ _ ⟨B.exec, B.bytes, hml, hown2, fun w h => hts w (List.mem_cons_of_mem _ h), hK⟩ ?_ ⟨hP, hD0.self, va_S.rf, fun q h => Or.inr h, hnd⟩ hl
  intro v w1 H locs ls pc hd hn hp hS
  exact W.zret (v := v) B.exec B.bytes B.returns (nar_bool v hn) (fun t9 ht hW => ⟨⟨v, w1, rfl, hp, by rw [ht]; exact hS.1, hS.2.1⟩, hS.2.2.1.F ht⟩) hS.2.2.1.2.2 hd hlocks
theorem q_entL {post : Int64 → Wd → Prop} (hnd : Nd t) (hy : plainName y.cls = true) (hown : y.cls = own) (hlen : (lg_sl av).length ≤ nL)
    (body : ∀ (p : Program) (e : Env) (s : State) (m : MethodId) (args : Array Value) (below : List Frame) (meth : Method) (c : Code) (A : Nat → Prop) (Q : State → Prop) (ls : Array Slot), Cx p s m args c cc own nL g → RtL t p l e (rk k) s m args below meth c Q cc A g post → St t A s.heap g w s.heap [] → lv_has ls nL (lv_args 0 av) → W p l e (rk k) s m args below meth c s.heap [] 0 0 Q (F0 m 0 ls [])) : MtL t l y cc nL (some .long) k g w av post := by
  intro sz
  refine Met.ofW (cc := cc) (maxL := nL) (ret := some .long) hy rfl ?_
  intro p e s m args below meth c s₁ B hml hv
  obtain ⟨rfl, hsz, hP, hK, hD0⟩ := hv
  have hts := atoms_spec (ws := .code y cc nL (some .long) :: wsL_law) B.pre
  have hown2 : s.vm.findClass own = some m.cls := by rw [← hown]; exact findClass_of_methodNamed B.named
  have hlocks := B.notSynchronized
  subst hsz
  have hl := lv_entry av (n := nL) hlen
  rw [lg_entry_eq]
  refine body p e s m _ below meth c _ _ _ ⟨B.exec, B.bytes, hml, hown2, fun w h => hts w (List.mem_cons_of_mem _ h), hK⟩ ?_ ⟨hP, hD0.self, va_S.rf, fun q h => Or.inr h, hnd⟩ hl
  intro v w1 H locs ls pc hd hp hS
  exact W.lret (v := v) B.exec B.bytes B.returns (fun t9 ht hW => ⟨⟨v, w1, rfl, hp, by rw [ht]; exact hS.1, hS.2.1⟩, hS.2.2.1.F ht⟩) hS.2.2.1.2.2 hd hlocks
theorem q_entV {post : Wd → Prop} (hnd : Nd t) (hy : plainName y.cls = true) (hown : y.cls = own) (hlen : (lg_sl av).length ≤ nL)
    (body : ∀ (p : Program) (e : Env) (s : State) (m : MethodId) (args : Array Value) (below : List Frame) (meth : Method) (c : Code) (A : Nat → Prop) (Q : State → Prop) (ls : Array Slot), Cx p s m args c cc own nL g → RtV t p l e (rk k) s m args below meth c Q cc A g post → St t A s.heap g w s.heap [] → lv_has ls nL (lv_args 0 av) → W p l e (rk k) s m args below meth c s.heap [] 0 0 Q (F0 m 0 ls [])) : MtV t l y cc nL none k g w av post := by
  intro sz
  refine Met.ofW (cc := cc) (maxL := nL) (ret := none) hy rfl ?_
  intro p e s m args below meth c s₁ B hml hv
  obtain ⟨rfl, hsz, hP, hK, hD0⟩ := hv
  have hts := atoms_spec (ws := .code y cc nL none :: wsL_law) B.pre
  have hown2 : s.vm.findClass own = some m.cls := by rw [← hown]; exact findClass_of_methodNamed B.named
  have hlocks := B.notSynchronized
  subst hsz
  have hl := lv_entry av (n := nL) hlen
  rw [lg_entry_eq]
  refine body p e s m _ below meth c _ _ _ ⟨B.exec, B.bytes, hml, hown2, fun w h => hts w (List.mem_cons_of_mem _ h), hK⟩ ?_ ⟨hP, hD0.self, va_S.rf, fun q h => Or.inr h, hnd⟩ hl
  intro w1 H locs ls pc hd hp hS
  exact W.vret B.exec B.bytes B.returns (fun t9 ht hW => ⟨⟨w1, rfl, hp, by rw [ht]; exact hS.1, hS.2.1⟩, hS.2.2.1.F ht⟩) hS.2.2.1.2.2 hd hlocks
end EN
theorem blindW {t : List (Nat × Ds)} {g : Gw} {w : Wd} {sz : Nat} {av : List Value} : FrameBlind (PcW t g w sz av) := by
  intro a U gg mk h
  obtain ⟨q0, q1, qP, qK, qD⟩ := h
  exact ⟨q0, q1, qP, KW.same (s := U) (U := U.calling gg mk a) rfl qK, qD⟩
theorem freeW {t : List (Nat × Ds)} {A : Nat → Prop} {H0 H : Heap} {g : Gw} {w : Wd} {locs : List Loc} (hS : St t A H0 g w H locs) : ∀ q, va_A (wsW t g w) H.size q → A q := by
  intro q h
  rcases h with ⟨k, e, h⟩ | h
  · exact hS.2.1.2 k (q, e) h
  · exact hS.2.2.2.1 q (Nat.le_trans hS.2.2.1.1 h)
/-- a receiver of a class -/
def Rc (s : State) (H : Heap) (C : String) (b : Nat) : Prop := ∃ cell : Cell, H[b]? = some cell ∧ cell.vm.isStatics = false ∧ s.vm.findClass C = some cell.cls
theorem rcv {t : List (Nat × Ds)} {p : Program} {s : State} {m : MethodId} {args : Array Value} {c : Code} {cc : ByteArray} {own : String} {nL : Nat} {g : Gw} {A : Nat → Prop} {H0 H : Heap} {w : Wd} {locs : List Loc} {q0 o ci N : Nat} {fl : List (Nat × Nat)} {C : String} {T : u_T} (hC : Cx p s m args c cc own nL g) (hS : St t A H0 g w H locs) (ht : t[q0]? = some (o, .inl (ci, fl))) (hc : vwCl[ci]? = some (C, T, N)) : Rc s H C (g.2.2 o) :=
  va_recv (ci := ci) (q0 := q0) hC.2.2.2.2.2.1 hS.1 hc (wk_at ht)
section CL
variable {t : List (Nat × Ds)} {p : Program} {l : Launch} {e : Env} {R : Room} {s : State} {m : MethodId} {args : Array Value} {below : List Frame} {meth : Method} {c : Code} {H : Heap} {locs : List Loc} {cells slots : Nat} {Q : State → Prop} {cc : ByteArray} {pc : Nat} {ls : Array Slot} {rest st : List Value} {A : Nat → Prop} {g : Gw} {w : Wd} {own C : String} {nL : Nat} {y : MethodName} {bs : ByteArray} {maxL k1 index n b : Nat} {ret : Option FieldType} {As : List Value}
abbrev Rm (R : Room) (k1 maxL cells slots : Nat) : Prop := (k1 + 1 ≤ R.frames ∧ 8 + (maxL + 11) + 60 * k1 ≤ R.locals) ∧ cells ≤ R.cells ∧ slots ≤ R.slots
abbrev Yv (y : MethodName) (C : String) (n : Nat) : Prop := y.cls = C ∧ y.cls ≠ "java/lang/invoke/MethodHandle" ∧ y.cls ≠ "java/lang/invoke/VarHandle" ∧ (parseMethodDescriptor y.desc).map (fun d => d.parameters.length) = some n
theorem q_cvI {post : Int32 → Wd → Prop} (hC : Cx p s m args c cc own nL g) (hS : St t A s.heap g w H locs) (hls : ls.size = nL) (hM : MtI t l y bs maxL ret k1 g w (.ref b :: As) post) (hG : GoodIn wsL_law (wsV own index C y (.code y bs maxL ret :: wsL_law))) (hy : Yv y C n) (hr : Rc s H C b) (hn : As.length = n) (hst : st = As.reverse ++ .ref b :: rest) (hw : (rest.map fun v => v.category).sum ≤ 8) (hR : Rm R k1 maxL cells slots) (hd : decode cc pc = .ok (.invokevirtual index, 3))
    (kk : ∀ (r : Int32) (w1 : Wd) (H1 : Heap) (locs1 : List Loc), post r w1 → St t A s.heap g w1 H1 locs1 → W p l e R s m args below meth c H1 locs1 cells slots Q (F0 m (pc + 3) ls (.int r :: rest))) : W p l e R s m args below meth c H locs cells slots Q (F0 m pc ls st) := by
  obtain ⟨hx, hb, hml, hown, hts, hK⟩ := hC
  subst hst
  refine va_calli (va_runV (As := As) (rest := rest) ⟨hx, hb, hml, hown, hts⟩ (hM H.size) (cwV n hts hG rfl rfl rfl hy hR.1) ⟨blindW, hr, fun U hU hW => ⟨rfl, by rw [hU], by rw [hU]; exact hS.1, KW.warm hW hK, hS.2.1.weaken (fun _ _ _ _ => trivial)⟩⟩ rfl hn hls rfl (lv_room hw) hd hR.2) hS.2.2.1 (fun q _ h => freeW hS q h) (freeW hS) (fun r w1 t9 H1 locs1 ht hvm hp hB hz hk hS1 => ?_)
  obtain ⟨hP1, hD1⟩ := hB
  rw [ht] at hP1
  exact kk r w1 H1 locs1 hp ⟨hP1, hD1.weaken (fun _ _ _ h => freeW hS _ h), hS1, hS.2.2.2⟩
theorem q_cvV {post : Wd → Prop} (hC : Cx p s m args c cc own nL g) (hS : St t A s.heap g w H locs) (hls : ls.size = nL) (hM : MtV t l y bs maxL ret k1 g w (.ref b :: As) post) (hG : GoodIn wsL_law (wsV own index C y (.code y bs maxL ret :: wsL_law))) (hy : Yv y C n) (hr : Rc s H C b) (hn : As.length = n) (hst : st = As.reverse ++ .ref b :: rest) (hw : (rest.map fun v => v.category).sum ≤ 8) (hR : Rm R k1 maxL cells slots) (hd : decode cc pc = .ok (.invokevirtual index, 3))
    (kk : ∀ (w1 : Wd) (H1 : Heap) (locs1 : List Loc), post w1 → St t A s.heap g w1 H1 locs1 → W p l e R s m args below meth c H1 locs1 cells slots Q (F0 m (pc + 3) ls rest)) : W p l e R s m args below meth c H locs cells slots Q (F0 m pc ls st) := by
  obtain ⟨hx, hb, hml, hown, hts, hK⟩ := hC
  subst hst
  refine va_callv (va_runV (As := As) (rest := rest) ⟨hx, hb, hml, hown, hts⟩ (hM H.size) (cwV n hts hG rfl rfl rfl hy hR.1) ⟨blindW, hr, fun U hU hW => ⟨rfl, by rw [hU], by rw [hU]; exact hS.1, KW.warm hW hK, hS.2.1.weaken (fun _ _ _ _ => trivial)⟩⟩ rfl hn hls rfl (lv_room hw) hd hR.2) hS.2.2.1 (fun q _ h => freeW hS q h) (freeW hS) (fun w1 t9 H1 locs1 ht hvm hp hB hz hk hS1 => ?_)
  obtain ⟨hP1, hD1⟩ := hB
  rw [ht] at hP1
  exact kk w1 H1 locs1 hp ⟨hP1, hD1.weaken (fun _ _ _ h => freeW hS _ h), hS1, hS.2.2.2⟩
abbrev Ys (y : MethodName) (n : Nat) : Prop := y.cls ≠ "java/lang/invoke/MethodHandle" ∧ y.cls ≠ "java/lang/invoke/VarHandle" ∧ (parseMethodDescriptor y.desc).map (fun d => d.parameters.length) = some n
theorem q_csI {post : Int32 → Wd → Prop} (hC : Cx p s m args c cc own nL g) (hS : St t A s.heap g w H locs) (hls : ls.size = nL) (hM : MtI t l y bs maxL ret k1 g w As post) (hG : GoodIn wsL_law (va_wsS own index y (.code y bs maxL ret :: wsL_law))) (hy : Ys y n) (hn : As.length = n) (hst : st = As.reverse ++ rest) (hw : (rest.map fun v => v.category).sum ≤ 8) (hR : Rm R k1 maxL cells slots) (hd : decode cc pc = .ok (.invokestatic index, 3))
    (kk : ∀ (r : Int32) (w1 : Wd) (H1 : Heap) (locs1 : List Loc), post r w1 → St t A s.heap g w1 H1 locs1 → W p l e R s m args below meth c H1 locs1 cells slots Q (F0 m (pc + 3) ls (.int r :: rest))) : W p l e R s m args below meth c H locs cells slots Q (F0 m pc ls st) := by
  obtain ⟨hx, hb, hml, hown, hts, hK⟩ := hC
  subst hst
  refine va_calli (va_runS (As := As) (rest := rest) ⟨hx, hb, hml, hown, hts⟩ (hM H.size) (va_cwS n hts hG rfl rfl rfl hy hR.1) ⟨blindW, fun U hU hW => ⟨rfl, by rw [hU], by rw [hU]; exact hS.1, KW.warm hW hK, hS.2.1.weaken (fun _ _ _ _ => trivial)⟩⟩ rfl hn hls rfl (lv_room hw) hd hR.2) hS.2.2.1 (fun q _ h => freeW hS q h) (freeW hS) (fun r w1 t9 H1 locs1 ht hvm hp hB hz hk hS1 => ?_)
  obtain ⟨hP1, hD1⟩ := hB
  rw [ht] at hP1
  exact kk r w1 H1 locs1 hp ⟨hP1, hD1.weaken (fun _ _ _ h => freeW hS _ h), hS1, hS.2.2.2⟩
theorem q_csL {post : Int64 → Wd → Prop} (hC : Cx p s m args c cc own nL g) (hS : St t A s.heap g w H locs) (hls : ls.size = nL) (hM : MtL t l y bs maxL ret k1 g w As post) (hG : GoodIn wsL_law (va_wsS own index y (.code y bs maxL ret :: wsL_law))) (hy : Ys y n) (hn : As.length = n) (hst : st = As.reverse ++ rest) (hw : (rest.map fun v => v.category).sum ≤ 8) (hR : Rm R k1 maxL cells slots) (hd : decode cc pc = .ok (.invokestatic index, 3))
    (kk : ∀ (r : Int64) (w1 : Wd) (H1 : Heap) (locs1 : List Loc), post r w1 → St t A s.heap g w1 H1 locs1 → W p l e R s m args below meth c H1 locs1 cells slots Q (F0 m (pc + 3) ls (.long r :: rest))) : W p l e R s m args below meth c H locs cells slots Q (F0 m pc ls st) := by
  obtain ⟨hx, hb, hml, hown, hts, hK⟩ := hC
  subst hst
  refine va_calll (va_runS (As := As) (rest := rest) ⟨hx, hb, hml, hown, hts⟩ (hM H.size) (va_cwS n hts hG rfl rfl rfl hy hR.1) ⟨blindW, fun U hU hW => ⟨rfl, by rw [hU], by rw [hU]; exact hS.1, KW.warm hW hK, hS.2.1.weaken (fun _ _ _ _ => trivial)⟩⟩ rfl hn hls rfl (lv_room hw) hd hR.2) hS.2.2.1 (fun q _ h => freeW hS q h) (freeW hS) (fun r w1 t9 H1 locs1 ht hvm hp hB hz hk hS1 => ?_)
  obtain ⟨hP1, hD1⟩ := hB
  rw [ht] at hP1
  exact kk r w1 H1 locs1 hp ⟨hP1, hD1.weaken (fun _ _ _ h => freeW hS _ h), hS1, hS.2.2.2⟩
/-- a call of a nest mate's private static method -/
theorem q_cnI {host : String} {post : Int32 → Wd → Prop} (hC : Cx p s m args c cc own nL g) (hS : St t A s.heap g w H locs) (hls : ls.size = nL) (hM : MtI t l y bs maxL ret k1 g w As post) (hcd : Cond.code y bs maxL ret ∈ wsL_law) (hst2 : Cond.static y ∈ wsL_law) (hin : Cond.initialized y.cls ∈ wsL_law) (hnw : va_Nw (.methodLinkNest own index y host) s) (hy : Ys y n) (hn : As.length = n) (hst : st = As.reverse ++ rest) (hw : (rest.map fun v => v.category).sum ≤ 8) (hR : Rm R k1 maxL cells slots) (hd : decode cc pc = .ok (.invokestatic index, 3))
    (kk : ∀ (r : Int32) (w1 : Wd) (H1 : Heap) (locs1 : List Loc), post r w1 → St t A s.heap g w1 H1 locs1 → W p l e R s m args below meth c H1 locs1 cells slots Q (F0 m (pc + 3) ls (.int r :: rest))) : W p l e R s m args below meth c H locs cells slots Q (F0 m pc ls st) := by
  obtain ⟨hx, hb, hml, hown, hts, hK⟩ := hC
  subst hst
  refine va_calli (va_runSN (As := As) (rest := rest) ⟨hx, hb, hml, hown, hts⟩ (hM H.size) ⟨va_cnB n hts (gUm (fun w h => (List.mem_cons.mp h).elim (fun z => z ▸ hcd) id)) rfl rfl rfl hnw (hts _ hin) hy hR.1, hts _ hst2, trivial⟩ ⟨blindW, fun U hU hW => ⟨rfl, by rw [hU], by rw [hU]; exact hS.1, KW.warm hW hK, hS.2.1.weaken (fun _ _ _ _ => trivial)⟩⟩ rfl hn hls rfl (lv_room hw) hd hR.2) hS.2.2.1 (fun q _ h => freeW hS q h) (freeW hS) (fun r w1 t9 H1 locs1 ht hvm hp hB hz hk hS1 => ?_)
  obtain ⟨hP1, hD1⟩ := hB
  rw [ht] at hP1
  exact kk r w1 H1 locs1 hp ⟨hP1, hD1.weaken (fun _ _ _ h => freeW hS _ h), hS1, hS.2.2.2⟩
end CL
theorem rmk {k1 k2 maxL : Nat} (h : k1 < k2) (hm : maxL ≤ 41) : Rm (rk k2) k1 maxL 0 0 := ⟨⟨h, by show _ ≤ 60 * k2; omega⟩, Nat.le_refl 0, Nat.le_refl 0⟩
theorem rmm {k : Nat} {rest : List Value} (h : 0 < k) (hw : (rest.map fun v => v.category).sum ≤ 8) : 1 ≤ (rk k).frames ∧ (rest.map fun v => v.category).sum + 13 ≤ (rk k).locals ∧ 0 ≤ (rk k).cells ∧ 0 ≤ (rk k).slots := ⟨h, by show _ ≤ 60 * k; omega, Nat.zero_le _, Nat.zero_le _⟩
theorem rmc {k : Nat} {rest : List Value} (h : 0 < k) (hw : (rest.map fun v => v.category).sum ≤ 8) : 1 ≤ (rk k).frames ∧ (rest.map fun v => v.category).sum + (nativeFrameWords "java/lang/System" "arraycopy" 5 + 11) ≤ (rk k).locals := ⟨h, by
  have h2 : nativeFrameWords "java/lang/System" "arraycopy" 5 ≤ 20 := by decide +kernel
  show _ ≤ 60 * k; omega⟩
/-- the objects of Court -/
def cOk (o : Nat) : Prop := o = 160 ∨ o = 180 ∨ o = 200 ∨ o = 220
