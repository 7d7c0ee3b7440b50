/-! ===== objects as they are made: cells as lists ===== -/
def rc (k mc ms : Nat) : Room := { frames := k, cells := mc, slots := ms, locals := 60 * k }
def PcE (g : Gw) (ws : va_W) (sz : Nat) (av : List Value) (X : State → Prop) : Array Value → State → Prop := va_Pc av (fun U => U.heap.size = sz ∧ va_P g.1 vwCl ws U.heap ∧ KW g U ∧ va_D (fun _ => True) ws ∧ X U)
def BcE {S : Type} (g : Gw) (A : Nat → Prop) (L : S → va_W) (u : S) (t : State) : Prop := va_P g.1 vwCl (L u) t.heap ∧ va_D A (L u)
def MtE {S : Type} (l : Launch) (y : MethodName) (bs : ByteArray) (n k mc ms : Nat) (g : Gw) (ws : va_W) (av : List Value) (X : Nat → State → Prop) (post : S → Prop) (L : S → va_W) : Prop := ∀ sz : Nat, Met l y (.code y bs n none :: wsL_law) (rc k mc ms) (PcE g ws sz av (X sz)) (va_Qv post (BcE g (va_A ws sz) L) (va_A ws sz)) mc ms (va_A ws sz)
abbrev XT : Nat → State → Prop := fun _ _ => True
theorem e_ent {l : Launch} {y : MethodName} {cc : ByteArray} {nL k mc ms : Nat} {g : Gw} {ws : va_W} {av : List Value} {own : String} {S : Type} {X : Nat → State → Prop} {post : S → Prop} {L : S → va_W} (hy : plainName y.cls = true) (hown : y.cls = own) (hlen : (lg_sl av).length ≤ nL)
    (body : ∀ (p : Program) (e : Env) (s : State) (m : MethodId) (args : Array Value) (below : List Frame) (meth : Method) (c : Code) (A : Nat → Prop) (Q : State → Prop) (ls : Array Slot), A = va_A ws s.heap.size → Cx p s m args c cc own nL g → meth.name = y.name → X s.heap.size s → (∀ (u : S) (H : Heap) (locs : List Loc) (ls : Array Slot) (pc : Nat), decode cc pc = .ok (.return_, 1) → post u → va_P g.1 vwCl (L u) H → va_D A (L u) → va_S A s.heap H locs → W p l e (rc k mc ms) s m args below meth c H locs mc ms Q (F0 m pc ls [])) → va_P g.1 vwCl ws s.heap → va_D A ws → va_S A s.heap s.heap [] → (∀ q, s.heap.size ≤ q → A q) → lv_has ls nL (lv_args 0 av) → W p l e (rc k mc ms) s m args below meth c s.heap [] 0 0 Q (F0 m 0 ls [])) : MtE l y cc nL k mc ms g ws av X post L := by
  intro sz
  refine Met.ofW (cc := cc) (maxL := nL) (ret := none) hy rfl ?_
  intro p e s m args below meth c s₁ B hml hv
  obtain ⟨rfl, hsz, hP, hK, hD0, hX⟩ := hv
  have hts := atoms_spec (ws := .code y cc nL none :: wsL_law) B.pre
  have hown2 : s.vm.findClass own = some m.cls := by rw [← hown]; exact findClass_of_methodNamed B.named
  have hlocks := B.notSynchronized
  have hin : meth.name = y.name := (name_of_methodNamed B.named B.method).1
  subst hsz
  have hl := lv_entry av (n := nL) hlen
  rw [lg_entry_eq]
  refine body p e s m _ below meth c _ _ _ rfl ⟨B.exec, B.bytes, hml, hown2, fun w h => hts w (List.mem_cons_of_mem _ h), hK⟩ hin hX ?_ hP hD0.self va_S.rf (fun q h => Or.inr h) hl
  intro u H locs ls pc hd hp hP1 hD1 hS
  exact W.vret B.exec B.bytes B.returns (fun t9 ht hW => ⟨⟨u, rfl, hp, by rw [ht]; exact hP1, hD1⟩, hS.F ht⟩) hS.2.2 hd hlocks
theorem e_join {A0 : Nat → Prop} {D : va_G} {cl : List vw_C} {wr wc w1 : va_W} {H H1 : Heap} (hP : va_P D cl (wr ++ wc) H) (hD : va_D A0 (wr ++ wc))
    (hk : ∀ q : Nat, q < H.size → ¬ va_A wc H.size q → H1[q]? = H[q]?) (hF : ∀ q, va_A wc H.size q → A0 q) (hP1 : va_P D cl w1 H1) (hD1 : va_D (va_A wc H.size) w1) : va_P D cl (wr ++ w1) H1 ∧ va_D A0 (wr ++ w1) := by
  have atL : ∀ (k : Nat) (q : Nat × va_E), wr[k]? = some q → (wr ++ wc)[k]? = some q := fun k q h => by rw [List.getElem?_append_left (List.getElem?_eq_some_iff.mp h).1]; exact h
  have atR : ∀ (k : Nat) (q : Nat × va_E), wc[k]? = some q → (wr ++ wc)[wr.length + k]? = some q := by
    intro k q h
    rw [List.getElem?_append_right (by omega), show wr.length + k - wr.length = k by omega]
    exact h
  have apart : ∀ (k : Nat) (q : Nat × va_E), wr[k]? = some q → q.1 < H.size ∧ ¬ va_A wc H.size q.1 := by
    intro k q hq
    have h2 := atL k q hq
    have hl := (hP k q h2).lt
    refine ⟨hl, fun h => ?_⟩
    rcases h with ⟨k2, e, h⟩ | h
    · have h4 := atR k2 (q.1, e) h
      have hij := hD.1 k (wr.length + k2) q (q.1, e) h2 h4 rfl
      have := (List.getElem?_eq_some_iff.mp hq).1
      omega
    · omega
  refine ⟨va_P.app (fun k q hq => ?_) hP1, va_D.app ⟨fun i j p q h1 h2 h3 => hD.1 i j p q (atL _ _ h1) (atL _ _ h2) h3, fun k q h => hD.2 k q (atL _ _ h)⟩ (hD1.weaken (fun k q _ h => hF q.1 h)) (fun i j x y hx hy hxy => ?_)⟩
  · exact (hP k q (atL k q hq)).kept (hk q.1 (apart k q hq).1 (apart k q hq).2)
  · exact (apart i x hx).2 (by rw [hxy]; exact hD1.2 j y hy)
theorem e_swapP {D : va_G} {cl : List vw_C} {a b : va_W} {H : Heap} (h : va_P D cl (a ++ b) H) : va_P D cl (b ++ a) H := by
  intro k q hk
  have h1 : q ∈ b ++ a := List.mem_of_getElem? hk
  have h2 : q ∈ a ++ b := List.mem_append.mpr (List.mem_append.mp h1).symm
  obtain ⟨i, hi⟩ := List.getElem?_of_mem h2
  exact h i q hi
theorem e_swapD {A : Nat → Prop} {a b : va_W} (h : va_D A (a ++ b)) : va_D A (b ++ a) := by
  have key : ∀ (k : Nat) (q : Nat × va_E), (b ++ a)[k]? = some q → (a ++ b)[if k < b.length then a.length + k else k - b.length]? = some q := by
    intro k q hk
    by_cases hl : k < b.length
    · rw [if_pos hl, List.getElem?_append_right (by omega), show a.length + k - a.length = k by omega]
      rw [List.getElem?_append_left hl] at hk
      exact hk
    · rw [if_neg hl]
      rw [List.getElem?_append_right (by omega)] at hk
      rw [List.getElem?_append_left (List.getElem?_eq_some_iff.mp hk).1]
      exact hk
  refine ⟨fun i j p q h1 h2 h3 => ?_, fun k q hk => h.2 _ q (key k q hk)⟩
  have h4 := h.1 _ _ p q (key i p h1) (key j q h2) h3
  have l1 := (List.getElem?_eq_some_iff.mp h1).1
  have l2 := (List.getElem?_eq_some_iff.mp h2).1
  rw [List.length_append] at l1 l2
  by_cases c1 : i < b.length <;> by_cases c2 : j < b.length
  · rw [if_pos c1, if_pos c2] at h4; omega
  · rw [if_pos c1, if_neg c2] at h4; omega
  · rw [if_neg c1, if_pos c2] at h4; omega
  · rw [if_neg c1, if_neg c2] at h4; omega
section EW
variable {p : Program} {l : Launch} {e : Env} {R : Room} {s : State} {m : MethodId} {args : Array Value} {below : List Frame} {meth : Method} {c : Code} {H : Heap} {locs : List Loc} {cells slots : Nat} {Q : State → Prop} {cc : ByteArray} {pc : Nat} {ls : Array Slot} {rest st : List Value} {A : Nat → Prop} {g : Gw} {own C : String} {nL h0 ci N k index : Nat} {T : u_T} {ty0 : Nat → FieldType} {fs : List Value} {P : va_W}
theorem e_free {wr wc : va_W} (hD : va_D A (wr ++ wc)) (hS : va_S A s.heap H locs) (hA : ∀ q, s.heap.size ≤ q → A q) : ∀ q, va_A wc H.size q → A q := by
  intro q h
  rcases h with ⟨k, e, h⟩ | h
  · have h4 : (wr ++ wc)[wr.length + k]? = some (q, e) := by
      rw [List.getElem?_append_right (by omega), show wr.length + k - wr.length = k by omega]
      exact h
    exact hD.2 _ (q, e) h4
  · exact hA q (Nat.le_trans hS.1 h)
theorem e_obj (hC : Cx p s m args c cc own nL g) (hls : ls.size = nL) (h1 : Cond.methodLink own index objectInit ∈ wsL_law) (h2 : Cond.instanceMethod objectInit ∈ wsL_law) (h3 : Cond.code objectInit ⟨#[0xb1]⟩ 1 none ∈ wsL_law) (hf : 1 ≤ R.frames ∧ 12 ≤ R.locals) (hd : decode cc pc = .ok (.invokespecial index, 3))
    (kk : W p l e R s m args below meth c H locs cells slots Q (F0 m (pc + 3) ls [])) : W p l e R s m args below meth c H locs cells slots Q (F0 m pc ls [.ref h0]) := by
  obtain ⟨hx, hb, hml, hown, hts, hK⟩ := hC
  exact W.objInit hx hb hown (hts _ h1) (hts _ h2) (hts _ h3) rfl (by rw [hml]; exact hls) rfl hd hf.1 hf.2 kk
/-- a final field is put -/
theorem e_putF {ty : FieldType} {v : Value} (hC : Cx p s m args c cc own nL g) (hin : meth.name = "<init>") (hP : va_P g.1 vwCl ((h0, .inr (ci, fs)) :: P) H) (hD : va_D A ((h0, .inr (ci, fs)) :: P)) (hS : va_S A s.heap H locs) (hc : vwCl[ci]? = some (C, T, N)) (hinl : ∀ w ∈ u_ws C T N, w ∈ wsL_law) (hty : ∀ k, k < N → parseFieldDescriptor (T k).2.2.1 = some (ty0 k)) (hnm : ∀ a, a < N → ∀ b, b < N → a ≠ b → (T a).2.1 ≠ (T b).2.1) (k : Nat) (hk : k < N) (hfin : (T k).2.2.2 = true) (hdecl : (T k).1 = own) (hdesc : parseFieldDescriptor (T k).2.2.1 = some ty) (hn : narrow ty v = v) (hfit : fits ty v = true) (hfs : fs.length = N) (hl : Cond.fieldLink own index (T k).1 (T k).2.1 (T k).2.2.1 ∈ wsL_law) (hd : decode cc pc = .ok (.putfield index, 3))
    (kk : ∀ (H1 : Heap) (locs1 : List Loc), va_P g.1 vwCl ((h0, .inr (ci, fs.set k v)) :: P) H1 → va_D A ((h0, .inr (ci, fs.set k v)) :: P) → va_S A s.heap H1 locs1 → W p l e R s m args below meth c H1 locs1 cells slots Q (F0 m (pc + 3) ls rest)) : W p l e R s m args below meth c H locs cells slots Q (F0 m pc ls (v :: .ref h0 :: rest)) := by
  obtain ⟨hx, hb, hml, hown, hts, hK⟩ := hC
  exact va_putF (D := g.1) (ci := ci) (v := v) (ty := ty) hx hb hts hinl ty0 hty hnm hown hK.1 hP hD hS 0 rfl hc k hk (hts _ hl) (fun _ h9 => h9) hfin hin hdecl hdesc hn hfit (by rw [hfs]; exact hk) hd (fun H1 locs1 a b c => kk H1 locs1 a b c)
/-- a field that isn't final is put -/
theorem e_putV {ty : FieldType} {v : Value} (hC : Cx p s m args c cc own nL g) (hP : va_P g.1 vwCl ((h0, .inr (ci, fs)) :: P) H) (hD : va_D A ((h0, .inr (ci, fs)) :: P)) (hS : va_S A s.heap H locs) (hc : vwCl[ci]? = some (C, T, N)) (hinl : ∀ w ∈ u_ws C T N, w ∈ wsL_law) (hty : ∀ k, k < N → parseFieldDescriptor (T k).2.2.1 = some (ty0 k)) (hnm : ∀ a, a < N → ∀ b, b < N → a ≠ b → (T a).2.1 ≠ (T b).2.1) (k : Nat) (hk : k < N) (hfin : (T k).2.2.2 = false) (hdesc : parseFieldDescriptor (T k).2.2.1 = some ty) (hn : narrow ty v = v) (hfit : fits ty v = true) (hfs : fs.length = N) (hl : Cond.fieldLink own index (T k).1 (T k).2.1 (T k).2.2.1 ∈ wsL_law) (hd : decode cc pc = .ok (.putfield index, 3))
    (kk : ∀ (H1 : Heap) (locs1 : List Loc), va_P g.1 vwCl ((h0, .inr (ci, fs.set k v)) :: P) H1 → va_D A ((h0, .inr (ci, fs.set k v)) :: P) → va_S A s.heap H1 locs1 → W p l e R s m args below meth c H1 locs1 cells slots Q (F0 m (pc + 3) ls rest)) : W p l e R s m args below meth c H locs cells slots Q (F0 m pc ls (v :: .ref h0 :: rest)) := by
  obtain ⟨hx, hb, hml, hown, hts, hK⟩ := hC
  exact va_put (D := g.1) (ci := ci) (v := v) (ty := ty) hx hb hts hinl ty0 hty hnm hown hK.1 hP hD hS 0 rfl hc k hk (hts _ hl) (fun _ h9 => h9) hfin hdesc hn hfit (by rw [hfs]; exact hk) hd (fun H1 locs1 a b c => kk H1 locs1 a b c)
/-- a field is read -/
theorem e_get {v : Value} (hC : Cx p s m args c cc own nL g) (hP : va_P g.1 vwCl ((h0, .inr (ci, fs)) :: P) H) (hc : vwCl[ci]? = some (C, T, N)) (hinl : ∀ w ∈ u_ws C T N, w ∈ wsL_law) (k : Nat) (hk : k < N) (hv : fs[k]? = some v) (hl : Cond.fieldLink own index (T k).1 (T k).2.1 (T k).2.2.1 ∈ wsL_law) (hd : decode cc pc = .ok (.getfield index, 3))
    (kk : W p l e R s m args below meth c H locs cells slots Q (F0 m (pc + 3) ls (v :: rest))) : W p l e R s m args below meth c H locs cells slots Q (F0 m pc ls (.ref h0 :: rest)) := by
  obtain ⟨hx, hb, hml, hown, hts, hK⟩ := hC
  exact va_get (D := g.1) (ci := ci) (v := v) hx hb hts hinl hown hK.1 hP 0 rfl hc k hk (hts _ hl) (fun _ h9 => h9) hv hd kk
/-- a new array goes into a final field: .int -/
theorem e_npI {n : Int32} {N' : Nat} (hC : Cx p s m args c cc own nL g) (hin : meth.name = "<init>") (hP : va_P g.1 vwCl ((h0, .inr (ci, fs)) :: P) H) (hD : va_D A ((h0, .inr (ci, fs)) :: P)) (hS : va_S A s.heap H locs) (hA : ∀ q, s.heap.size ≤ q → A q) (harr : Cond.arrayClass .int ∈ wsL_law) (hc : vwCl[ci]? = some (C, T, N)) (hinl : ∀ w ∈ u_ws C T N, w ∈ wsL_law) (hty : ∀ k, k < N → parseFieldDescriptor (T k).2.2.1 = some (ty0 k)) (hnm : ∀ a, a < N → ∀ b, b < N → a ≠ b → (T a).2.1 ≠ (T b).2.1) (k : Nat) (hk : k < N) (hfin : (T k).2.2.2 = true) (hdecl : (T k).1 = own) (hdesc : parseFieldDescriptor (T k).2.2.1 = some (.array .int)) (hfs : fs.length = N) (hl : Cond.fieldLink own index (T k).1 (T k).2.1 (T k).2.2.1 ∈ wsL_law) (hn : ¬ n < 0) (hN : n.toNatClampNeg = N') (hbytes : N' * componentBytes .int ≤ 536870912) (hcells : cells + 1 ≤ R.cells) (hslots : slots + N' ≤ R.slots) (hd1 : decode cc pc = .ok (.newarray .int, 2)) (hd2 : decode cc (pc + 2) = .ok (.putfield index, 3))
    (kk : ∀ (q : Nat) (H1 : Heap) (locs1 : List Loc), va_P g.1 vwCl ((h0, .inr (ci, fs.set k (.ref q))) :: (P ++ [(q, .inl (g.2.1 0, N', .inl (fun _ => 0)))])) H1 → va_D A ((h0, .inr (ci, fs.set k (.ref q))) :: (P ++ [(q, .inl (g.2.1 0, N', .inl (fun _ => 0)))])) → va_S A s.heap H1 locs1 → W p l e R s m args below meth c H1 locs1 (cells + 1) (slots + N') Q (F0 m (pc + 2 + 3) ls rest)) : W p l e R s m args below meth c H locs cells slots Q (F0 m pc ls (.int n :: .ref h0 :: rest)) := by
  obtain ⟨hx, hb, hml, hown, hts, hK⟩ := id hC
  refine va_newa (atype := .int) (a0 := (N', .inl (fun _ => 0))) (ty := .int) hx hb (hts _ harr) rfl hK.1 hP hD hS hA (fun cA => rfl) hn hN hbytes hcells hslots hd1 (fun q cA H1 hK1 hP1 hD1 hS1 => ?_)
  have h1 : s.vm.findClass ("[" ++ (FieldType.int).toString) = some cA := (hK1.2 5 (cA, .int) rfl).2
  have h2 : s.vm.findClass ("[" ++ (FieldType.int).toString) = some (g.2.1 0) := (hK.1.2 0 (g.2.1 0, .int) rfl).2
  have h3 : cA = g.2.1 0 := Option.some.inj (h1.symm.trans h2)
  subst h3
  exact e_putF (v := .ref q) hC hin hP1 hD1 hS1 hc hinl hty hnm k hk hfin hdecl hdesc rfl rfl hfs hl hd2 (fun H2 locs2 a b c => kk q H2 locs2 a b c)
/-- a new array goes into a final field: .byte -/
theorem e_npB {n : Int32} {N' : Nat} (hC : Cx p s m args c cc own nL g) (hin : meth.name = "<init>") (hP : va_P g.1 vwCl ((h0, .inr (ci, fs)) :: P) H) (hD : va_D A ((h0, .inr (ci, fs)) :: P)) (hS : va_S A s.heap H locs) (hA : ∀ q, s.heap.size ≤ q → A q) (harr : Cond.arrayClass .byte ∈ wsL_law) (hc : vwCl[ci]? = some (C, T, N)) (hinl : ∀ w ∈ u_ws C T N, w ∈ wsL_law) (hty : ∀ k, k < N → parseFieldDescriptor (T k).2.2.1 = some (ty0 k)) (hnm : ∀ a, a < N → ∀ b, b < N → a ≠ b → (T a).2.1 ≠ (T b).2.1) (k : Nat) (hk : k < N) (hfin : (T k).2.2.2 = true) (hdecl : (T k).1 = own) (hdesc : parseFieldDescriptor (T k).2.2.1 = some (.array .byte)) (hfs : fs.length = N) (hl : Cond.fieldLink own index (T k).1 (T k).2.1 (T k).2.2.1 ∈ wsL_law) (hn : ¬ n < 0) (hN : n.toNatClampNeg = N') (hbytes : N' * componentBytes .byte ≤ 536870912) (hcells : cells + 1 ≤ R.cells) (hslots : slots + N' ≤ R.slots) (hd1 : decode cc pc = .ok (.newarray .byte, 2)) (hd2 : decode cc (pc + 2) = .ok (.putfield index, 3))
    (kk : ∀ (q : Nat) (H1 : Heap) (locs1 : List Loc), va_P g.1 vwCl ((h0, .inr (ci, fs.set k (.ref q))) :: (P ++ [(q, .inl (g.2.1 1, N', .inl (fun _ => 0)))])) H1 → va_D A ((h0, .inr (ci, fs.set k (.ref q))) :: (P ++ [(q, .inl (g.2.1 1, N', .inl (fun _ => 0)))])) → va_S A s.heap H1 locs1 → W p l e R s m args below meth c H1 locs1 (cells + 1) (slots + N') Q (F0 m (pc + 2 + 3) ls rest)) : W p l e R s m args below meth c H locs cells slots Q (F0 m pc ls (.int n :: .ref h0 :: rest)) := by
  obtain ⟨hx, hb, hml, hown, hts, hK⟩ := id hC
  refine va_newa (atype := .byte) (a0 := (N', .inl (fun _ => 0))) (ty := .byte) hx hb (hts _ harr) rfl hK.1 hP hD hS hA (fun cA => rfl) hn hN hbytes hcells hslots hd1 (fun q cA H1 hK1 hP1 hD1 hS1 => ?_)
  have h1 : s.vm.findClass ("[" ++ (FieldType.byte).toString) = some cA := (hK1.2 5 (cA, .byte) rfl).2
  have h2 : s.vm.findClass ("[" ++ (FieldType.byte).toString) = some (g.2.1 1) := (hK.1.2 1 (g.2.1 1, .byte) rfl).2
  have h3 : cA = g.2.1 1 := Option.some.inj (h1.symm.trans h2)
  subst h3
  exact e_putF (v := .ref q) hC hin hP1 hD1 hS1 hc hinl hty hnm k hk hfin hdecl hdesc rfl rfl hfs hl hd2 (fun H2 locs2 a b c => kk q H2 locs2 a b c)
/-- a new array goes into a final field: .boolean -/
theorem e_npZ {n : Int32} {N' : Nat} (hC : Cx p s m args c cc own nL g) (hin : meth.name = "<init>") (hP : va_P g.1 vwCl ((h0, .inr (ci, fs)) :: P) H) (hD : va_D A ((h0, .inr (ci, fs)) :: P)) (hS : va_S A s.heap H locs) (hA : ∀ q, s.heap.size ≤ q → A q) (harr : Cond.arrayClass .boolean ∈ wsL_law) (hc : vwCl[ci]? = some (C, T, N)) (hinl : ∀ w ∈ u_ws C T N, w ∈ wsL_law) (hty : ∀ k, k < N → parseFieldDescriptor (T k).2.2.1 = some (ty0 k)) (hnm : ∀ a, a < N → ∀ b, b < N → a ≠ b → (T a).2.1 ≠ (T b).2.1) (k : Nat) (hk : k < N) (hfin : (T k).2.2.2 = true) (hdecl : (T k).1 = own) (hdesc : parseFieldDescriptor (T k).2.2.1 = some (.array .boolean)) (hfs : fs.length = N) (hl : Cond.fieldLink own index (T k).1 (T k).2.1 (T k).2.2.1 ∈ wsL_law) (hn : ¬ n < 0) (hN : n.toNatClampNeg = N') (hbytes : N' * componentBytes .boolean ≤ 536870912) (hcells : cells + 1 ≤ R.cells) (hslots : slots + N' ≤ R.slots) (hd1 : decode cc pc = .ok (.newarray .boolean, 2)) (hd2 : decode cc (pc + 2) = .ok (.putfield index, 3))
    (kk : ∀ (q : Nat) (H1 : Heap) (locs1 : List Loc), va_P g.1 vwCl ((h0, .inr (ci, fs.set k (.ref q))) :: (P ++ [(q, .inl (g.2.1 2, N', .inl (fun _ => 0)))])) H1 → va_D A ((h0, .inr (ci, fs.set k (.ref q))) :: (P ++ [(q, .inl (g.2.1 2, N', .inl (fun _ => 0)))])) → va_S A s.heap H1 locs1 → W p l e R s m args below meth c H1 locs1 (cells + 1) (slots + N') Q (F0 m (pc + 2 + 3) ls rest)) : W p l e R s m args below meth c H locs cells slots Q (F0 m pc ls (.int n :: .ref h0 :: rest)) := by
  obtain ⟨hx, hb, hml, hown, hts, hK⟩ := id hC
  refine va_newa (atype := .boolean) (a0 := (N', .inl (fun _ => 0))) (ty := .boolean) hx hb (hts _ harr) rfl hK.1 hP hD hS hA (fun cA => rfl) hn hN hbytes hcells hslots hd1 (fun q cA H1 hK1 hP1 hD1 hS1 => ?_)
  have h1 : s.vm.findClass ("[" ++ (FieldType.boolean).toString) = some cA := (hK1.2 5 (cA, .boolean) rfl).2
  have h2 : s.vm.findClass ("[" ++ (FieldType.boolean).toString) = some (g.2.1 2) := (hK.1.2 2 (g.2.1 2, .boolean) rfl).2
  have h3 : cA = g.2.1 2 := Option.some.inj (h1.symm.trans h2)
  subst h3
  exact e_putF (v := .ref q) hC hin hP1 hD1 hS1 hc hinl hty hnm k hk hfin hdecl hdesc rfl rfl hfs hl hd2 (fun H2 locs2 a b c => kk q H2 locs2 a b c)
/-- a new array goes into a final field: .long -/
theorem e_npJ {n : Int32} {N' : Nat} (hC : Cx p s m args c cc own nL g) (hin : meth.name = "<init>") (hP : va_P g.1 vwCl ((h0, .inr (ci, fs)) :: P) H) (hD : va_D A ((h0, .inr (ci, fs)) :: P)) (hS : va_S A s.heap H locs) (hA : ∀ q, s.heap.size ≤ q → A q) (harr : Cond.arrayClass .long ∈ wsL_law) (hc : vwCl[ci]? = some (C, T, N)) (hinl : ∀ w ∈ u_ws C T N, w ∈ wsL_law) (hty : ∀ k, k < N → parseFieldDescriptor (T k).2.2.1 = some (ty0 k)) (hnm : ∀ a, a < N → ∀ b, b < N → a ≠ b → (T a).2.1 ≠ (T b).2.1) (k : Nat) (hk : k < N) (hfin : (T k).2.2.2 = true) (hdecl : (T k).1 = own) (hdesc : parseFieldDescriptor (T k).2.2.1 = some (.array .long)) (hfs : fs.length = N) (hl : Cond.fieldLink own index (T k).1 (T k).2.1 (T k).2.2.1 ∈ wsL_law) (hn : ¬ n < 0) (hN : n.toNatClampNeg = N') (hbytes : N' * componentBytes .long ≤ 536870912) (hcells : cells + 1 ≤ R.cells) (hslots : slots + N' ≤ R.slots) (hd1 : decode cc pc = .ok (.newarray .long, 2)) (hd2 : decode cc (pc + 2) = .ok (.putfield index, 3))
    (kk : ∀ (q : Nat) (H1 : Heap) (locs1 : List Loc), va_P g.1 vwCl ((h0, .inr (ci, fs.set k (.ref q))) :: (P ++ [(q, .inl (g.2.1 3, N', .inr (.inl (fun _ => 0))))])) H1 → va_D A ((h0, .inr (ci, fs.set k (.ref q))) :: (P ++ [(q, .inl (g.2.1 3, N', .inr (.inl (fun _ => 0))))])) → va_S A s.heap H1 locs1 → W p l e R s m args below meth c H1 locs1 (cells + 1) (slots + N') Q (F0 m (pc + 2 + 3) ls rest)) : W p l e R s m args below meth c H locs cells slots Q (F0 m pc ls (.int n :: .ref h0 :: rest)) := by
  obtain ⟨hx, hb, hml, hown, hts, hK⟩ := id hC
  refine va_newa (atype := .long) (a0 := (N', .inr (.inl (fun _ => 0)))) (ty := .long) hx hb (hts _ harr) rfl hK.1 hP hD hS hA (fun cA => rfl) hn hN hbytes hcells hslots hd1 (fun q cA H1 hK1 hP1 hD1 hS1 => ?_)
  have h1 : s.vm.findClass ("[" ++ (FieldType.long).toString) = some cA := (hK1.2 5 (cA, .long) rfl).2
  have h2 : s.vm.findClass ("[" ++ (FieldType.long).toString) = some (g.2.1 3) := (hK.1.2 3 (g.2.1 3, .long) rfl).2
  have h3 : cA = g.2.1 3 := Option.some.inj (h1.symm.trans h2)
  subst h3
  exact e_putF (v := .ref q) hC hin hP1 hD1 hS1 hc hinl hty hnm k hk hfin hdecl hdesc rfl rfl hfs hl hd2 (fun H2 locs2 a b c => kk q H2 locs2 a b c)
/-- a new object -/
theorem e_new {ws : va_W} {fs0 : List Value} (hC : Cx p s m args c cc own nL g) (hP : va_P g.1 vwCl ws H) (hD : va_D A ws) (hS : va_S A s.heap H locs) (hA : ∀ q, s.heap.size ≤ q → A q) (hc : vwCl[ci]? = some (C, T, N)) (hinl : ∀ w ∈ u_ws C T N, w ∈ wsL_law) (hty : ∀ k, k < N → parseFieldDescriptor (T k).2.2.1 = some (ty0 k)) (hcl : Cond.classLink own index C ∈ wsL_law) (hinst : Cond.instantiable C N ∈ wsL_law) (hini : Cond.initialized C ∈ wsL_law) (hfs : ∀ j, j < N → defaultValue (ty0 j) = vp_V fs0 j) (hcells : cells + 1 ≤ R.cells) (hslots : slots + N ≤ R.slots) (hd : decode cc pc = .ok (.new index, 3))
    (kk : ∀ (q : Nat) (H1 : Heap), va_P g.1 vwCl (ws ++ [(q, .inr (ci, fs0))]) H1 → va_D A (ws ++ [(q, .inr (ci, fs0))]) → va_S A s.heap H1 locs → W p l e R s m args below meth c H1 locs (cells + 1) (slots + N) Q (F0 m (pc + 3) ls (.ref q :: rest))) : W p l e R s m args below meth c H locs cells slots Q (F0 m pc ls rest) := by
  obtain ⟨hx, hb, hml, hown, hts, hK⟩ := hC
  exact va_new (ci := ci) (fs := fs0) hx hb hts hinl ty0 hty hown (hts _ hcl) (hts _ hinst) (hts _ hini) hK.1 hP hD hS hA hc hfs hcells hslots hd kk
theorem blindE {ws : va_W} {sz : Nat} {av : List Value} {X : State → Prop} (hX : ∀ (U : State) (gg : JFrame) (mk : MethodId) (a : Array Value), X U → X (U.calling gg mk a)) : FrameBlind (PcE g ws sz av X) := by
  intro a U gg mk h
  obtain ⟨q0, q1, qP, qK, qD, qX⟩ := h
  exact ⟨q0, q1, qP, KW.same (s := U) (U := U.calling gg mk a) rfl qK, qD, hX U gg mk a qX⟩
/-- a constructor is called on the last cells -/
theorem e_callI {wr wc : va_W} {b n maxL k1 mc ms : Nat} {As : List Value} {y : MethodName} {bs : ByteArray} {S : Type} {X : Nat → State → Prop} {post : S → Prop} {L : S → va_W} (hC : Cx p s m args c cc own nL g) (hP : va_P g.1 vwCl (wr ++ wc) H) (hD : va_D A (wr ++ wc)) (hS : va_S A s.heap H locs) (hA : ∀ q, s.heap.size ≤ q → A q) (hls : ls.size = nL) (hM : MtE l y bs maxL k1 mc ms g wc (.ref b :: As) X post L) (hXb : ∀ (U : State) (gg : JFrame) (mk : MethodId) (a : Array Value), X H.size U → X H.size (U.calling gg mk a)) (hX : ∀ U : State, U.heap = H → s.WarmedH U.vm → X H.size U) (hini : Cond.initialized y.cls ∈ wsL_law) (hl : Cond.methodLink own index y ∈ wsL_law) (hinst : Cond.instanceMethod y ∈ wsL_law) (hcode : Cond.code y bs maxL none ∈ wsL_law) (hy1 : y.name = "<init>") (hy : Ys y n) (hn : As.length = n) (hst : st = As.reverse ++ .ref b :: rest) (hw : (rest.map fun v => v.category).sum ≤ 8) (hR : (k1 + 1 ≤ R.frames ∧ 8 + (maxL + 11) + 60 * k1 ≤ R.locals) ∧ cells + mc ≤ R.cells ∧ slots + ms ≤ R.slots) (hd : decode cc pc = .ok (.invokespecial index, 3))
    (kk : ∀ (u : S) (H1 : Heap) (locs1 : List Loc), post u → va_P g.1 vwCl (wr ++ L u) H1 → va_D A (wr ++ L u) → va_S A s.heap H1 locs1 → W p l e R s m args below meth c H1 locs1 (cells + mc) (slots + ms) Q (F0 m (pc + 3) ls rest)) : W p l e R s m args below meth c H locs cells slots Q (F0 m pc ls st) := by
  obtain ⟨hx, hb, hml, hown, hts, hK⟩ := hC
  subst hst
  have hF := e_free hD hS hA
  refine va_callv (va_runI (As := As) (rest := rest) ⟨hx, hb, hml, hown, hts⟩ (hM H.size) (cwI n hts (gUm (fun w h => (List.mem_cons.mp h).elim (fun z => z ▸ hcode) id)) rfl rfl rfl (hts _ hini) (hts _ hl) (hts _ hinst) hy1 hy hR.1) ⟨blindE hXb, fun U hU hW => ⟨rfl, by rw [hU], by rw [hU]; exact fun k q hk => hP (wr.length + k) q (by rw [List.getElem?_append_right (by omega), show wr.length + k - wr.length = k by omega]; exact hk), KW.warm hW hK, ⟨fun i j x y h1 h2 h3 => by
      have a1 : (wr ++ wc)[wr.length + i]? = some x := by rw [List.getElem?_append_right (by omega), show wr.length + i - wr.length = i by omega]; exact h1
      have a2 : (wr ++ wc)[wr.length + j]? = some y := by rw [List.getElem?_append_right (by omega), show wr.length + j - wr.length = j by omega]; exact h2
      have := hD.1 _ _ x y a1 a2 h3
      omega, fun _ _ _ => trivial⟩, hX U hU hW⟩⟩ rfl hn hls rfl (lv_room hw) hd hR.2) hS (fun q _ h => hF q h) hF (fun u t9 H1 locs1 ht hvm hp hB hz hk hS1 => ?_)
  obtain ⟨hP1, hD1⟩ := hB
  rw [ht] at hP1
  obtain ⟨hP2, hD2⟩ := e_join hP hD hk hF hP1 hD1
  exact kk u H1 locs1 hp hP2 hD2 hS1
/-- a method that gives nothing is called on the last cells -/
theorem e_callV {wr wc : va_W} {b n maxL k1 mc ms : Nat} {As : List Value} {y : MethodName} {bs : ByteArray} {S : Type} {post : S → Prop} {L : S → va_W} (hC : Cx p s m args c cc own nL g) (hP : va_P g.1 vwCl (wr ++ wc) H) (hD : va_D A (wr ++ wc)) (hS : va_S A s.heap H locs) (hA : ∀ q, s.heap.size ≤ q → A q) (hls : ls.size = nL) (hM : MtE l y bs maxL k1 mc ms g wc (.ref b :: As) XT post L) (hG : GoodIn wsL_law (wsV own index C y (.code y bs maxL none :: wsL_law))) (hy : Yv y C n) (hr : Rc s H C b) (hn : As.length = n) (hst : st = As.reverse ++ .ref b :: rest) (hw : (rest.map fun v => v.category).sum ≤ 8) (hR : (k1 + 1 ≤ R.frames ∧ 8 + (maxL + 11) + 60 * k1 ≤ R.locals) ∧ cells + mc ≤ R.cells ∧ slots + ms ≤ R.slots) (hd : decode cc pc = .ok (.invokevirtual index, 3))
    (kk : ∀ (u : S) (H1 : Heap) (locs1 : List Loc), post u → va_P g.1 vwCl (wr ++ L u) H1 → va_D A (wr ++ L u) → va_S A s.heap H1 locs1 → W p l e R s m args below meth c H1 locs1 (cells + mc) (slots + ms) Q (F0 m (pc + 3) ls rest)) : W p l e R s m args below meth c H locs cells slots Q (F0 m pc ls st) := by
  obtain ⟨hx, hb, hml, hown, hts, hK⟩ := hC
  subst hst
  have hF := e_free hD hS hA
  refine va_callv (va_runV (As := As) (rest := rest) ⟨hx, hb, hml, hown, hts⟩ (hM H.size) (cwV n hts hG rfl rfl rfl hy hR.1) ⟨blindE (fun _ _ _ _ h => h), hr, fun U hU hW => ⟨rfl, by rw [hU], by rw [hU]; exact fun k q hk => hP (wr.length + k) q (by rw [List.getElem?_append_right (by omega), show wr.length + k - wr.length = k by omega]; exact hk), KW.warm hW hK, ⟨fun i j x y h1 h2 h3 => by
      have a1 : (wr ++ wc)[wr.length + i]? = some x := by rw [List.getElem?_append_right (by omega), show wr.length + i - wr.length = i by omega]; exact h1
      have a2 : (wr ++ wc)[wr.length + j]? = some y := by rw [List.getElem?_append_right (by omega), show wr.length + j - wr.length = j by omega]; exact h2
      have := hD.1 _ _ x y a1 a2 h3
      omega, fun _ _ _ => trivial⟩, trivial⟩⟩ rfl hn hls rfl (lv_room hw) hd hR.2) hS (fun q _ h => hF q h) hF (fun u t9 H1 locs1 ht hvm hp hB hz hk hS1 => ?_)
  obtain ⟨hP1, hD1⟩ := hB
  rw [ht] at hP1
  obtain ⟨hP2, hD2⟩ := e_join hP hD hk hF hP1 hD1
  exact kk u H1 locs1 hp hP2 hD2 hS1
end EW
