/-! ===== the world: a fixed set of cells, numbered by ids; w says what they hold ===== -/
/-- ints of objects, ints of arrays, longs of objects, longs of arrays, which Rules a field names -/
abbrev Wd : Type := (Nat → Nat → Int32) × (Nat → Nat → Int32) × (Nat → Nat → Int64) × (Nat → Nat → Int64) × (Nat → Bool)
/-- class numbers, array classes by kind, addresses by id -/
abbrev Gw : Type := va_G × (Nat → ClassId) × (Nat → Nat)
abbrev Ds : Type := (Nat × List (Nat × Nat)) ⊕ (Nat × Nat)
def rl (b : Bool) : Nat := bif b then 140 else 120
def wf (g : Gw) (w : Wd) (o f : Nat) (q : Nat × Nat) : Value := match q.1 with
  | 0 => .ref (g.2.2 q.2)
  | 1 => .int (w.1 o f)
  | 2 => .long (w.2.2.1 o f)
  | _ => .ref (g.2.2 (rl (w.2.2.2.2 q.2)))
def wA (g : Gw) (w : Wd) (id k n : Nat) : vp_A := (n, match k with
  | 3 => .inr (.inl (w.2.2.2.1 id))
  | 4 => .inr (.inr (.inr (.inr (fun i => some (g.2.2 (180 + 20 * i))))))
  | _ => .inl (w.2.1 id))
def wE (g : Gw) (w : Wd) (q : Nat × Ds) : va_E := match q.2 with
  | .inl d => .inr (d.1, d.2.mapIdx (fun f k => wf g w q.1 f k))
  | .inr d => .inl (g.2.1 d.1, wA g w q.1 d.1 d.2)
def tab : List (Nat × Ds) := [(0, .inl (10, [(0, 1), (0, 20), (0, 30), (0, 160), (0, 40), (0, 50), (0, 60), (0, 70), (0, 90), (0, 110), (0, 11), (0, 12), (0, 13), (1, 0), (1, 0), (1, 0), (3, 0), (3, 1)])),
  (1, .inr (1, 1600)),
  (11, .inr (4, 3)),
  (12, .inr (2, 3)),
  (13, .inr (0, 4096)),
  (20, .inl (8, [(0, 21), (0, 22), (0, 23), (1, 0), (0, 25)])),
  (21, .inr (0, 1602)),
  (22, .inr (0, 1602)),
  (23, .inr (3, 1602)),
  (25, .inr (3, 17)),
  (30, .inl (6, [(0, 20), (3, 2), (1, 0), (1, 0), (1, 0), (1, 0), (2, 0), (1, 0), (1, 0)])),
  (40, .inl (1, [(0, 160), (3, 3), (0, 43), (0, 44), (0, 45), (0, 46)])),
  (43, .inr (0, 4160)),
  (44, .inr (0, 4160)),
  (45, .inr (0, 40)),
  (46, .inr (0, 8)),
  (50, .inl (0, [(0, 160), (0, 40), (0, 53), (0, 54), (0, 55), (0, 56), (0, 57), (1, 0), (1, 0)])),
  (53, .inr (0, 40)),
  (54, .inr (0, 40)),
  (55, .inr (0, 40)),
  (56, .inr (0, 40)),
  (57, .inr (0, 40)),
  (60, .inl (9, [(0, 160), (0, 40), (0, 63), (1, 0), (1, 0), (1, 0)])),
  (63, .inr (0, 12288)),
  (70, .inl (3, [(1, 0), (1, 0), (0, 73), (0, 74), (0, 75), (0, 76), (0, 77), (0, 78), (0, 79), (0, 80)])),
  (73, .inr (0, 40)),
  (74, .inr (0, 40)),
  (75, .inr (0, 40)),
  (76, .inr (0, 40)),
  (77, .inr (0, 40)),
  (78, .inr (0, 40)),
  (79, .inr (0, 8)),
  (80, .inr (0, 8)),
  (90, .inl (5, [(1, 0), (1, 0), (1, 0), (0, 94), (0, 95), (0, 96), (1, 0), (0, 98), (0, 99), (0, 100)])),
  (94, .inr (0, 7)),
  (95, .inr (0, 7)),
  (96, .inr (0, 49)),
  (98, .inr (0, 7)),
  (99, .inr (0, 8)),
  (100, .inr (0, 7)),
  (110, .inl (4, [(0, 111), (1, 0)])),
  (111, .inr (0, 16)),
  (120, .inl (7, [(1, 0), (1, 0), (1, 0), (1, 0), (1, 0), (1, 0), (0, 127), (0, 128), (0, 129), (1, 0), (0, 131), (1, 0), (0, 133)])),
  (127, .inr (3, 4)),
  (128, .inr (0, 4)),
  (129, .inr (0, 1600)),
  (131, .inr (0, 9)),
  (133, .inr (0, 32)),
  (140, .inl (7, [(1, 0), (1, 0), (1, 0), (1, 0), (1, 0), (1, 0), (0, 147), (0, 148), (0, 149), (1, 0), (0, 151), (1, 0), (0, 153)])),
  (147, .inr (3, 4)),
  (148, .inr (0, 4)),
  (149, .inr (0, 1600)),
  (151, .inr (0, 9)),
  (153, .inr (0, 32)),
  (160, .inl (2, [(1, 0), (0, 162), (0, 163), (0, 164), (0, 165), (0, 166), (1, 0), (0, 168), (0, 169), (0, 170), (1, 0), (1, 0), (1, 0), (1, 0)])),
  (162, .inr (0, 24)),
  (163, .inr (0, 24)),
  (164, .inr (0, 24)),
  (165, .inr (0, 24)),
  (166, .inr (0, 24)),
  (168, .inr (0, 40)),
  (169, .inr (0, 40)),
  (170, .inr (0, 40)),
  (180, .inl (2, [(1, 0), (0, 182), (0, 183), (0, 184), (0, 185), (0, 186), (1, 0), (0, 188), (0, 189), (0, 190), (1, 0), (1, 0), (1, 0), (1, 0)])),
  (182, .inr (0, 24)),
  (183, .inr (0, 24)),
  (184, .inr (0, 24)),
  (185, .inr (0, 24)),
  (186, .inr (0, 24)),
  (188, .inr (0, 40)),
  (189, .inr (0, 40)),
  (190, .inr (0, 40)),
  (200, .inl (2, [(1, 0), (0, 202), (0, 203), (0, 204), (0, 205), (0, 206), (1, 0), (0, 208), (0, 209), (0, 210), (1, 0), (1, 0), (1, 0), (1, 0)])),
  (202, .inr (0, 24)),
  (203, .inr (0, 24)),
  (204, .inr (0, 24)),
  (205, .inr (0, 24)),
  (206, .inr (0, 24)),
  (208, .inr (0, 40)),
  (209, .inr (0, 40)),
  (210, .inr (0, 40)),
  (220, .inl (2, [(1, 0), (0, 222), (0, 223), (0, 224), (0, 225), (0, 226), (1, 0), (0, 228), (0, 229), (0, 230), (1, 0), (1, 0), (1, 0), (1, 0)])),
  (222, .inr (0, 24)),
  (223, .inr (0, 24)),
  (224, .inr (0, 24)),
  (225, .inr (0, 24)),
  (226, .inr (0, 24)),
  (228, .inr (0, 40)),
  (229, .inr (0, 40)),
  (230, .inr (0, 40)),
  (300, .inl (11, [(0, 301), (0, 302), (1, 0), (1, 0), (1, 0), (1, 0), (1, 0), (1, 0), (1, 0), (1, 0), (2, 0), (0, 312), (0, 313), (0, 314), (0, 315), (0, 316), (0, 317), (0, 318), (0, 319), (0, 320), (0, 321), (0, 322), (0, 323), (0, 324), (0, 325), (0, 326), (0, 327), (0, 328), (0, 329), (1, 0), (1, 0), (1, 0), (1, 0), (1, 0), (1, 0), (1, 0), (1, 0), (1, 0), (1, 0), (1, 0), (0, 341), (0, 342), (1, 0), (1, 0), (0, 345), (0, 346), (0, 347), (0, 348), (1, 0), (0, 350), (0, 351), (0, 352), (0, 353), (0, 354), (0, 355), (0, 356), (0, 357), (0, 358), (1, 0), (1, 0), (0, 361), (0, 362), (0, 363), (1, 0), (0, 365), (0, 366), (0, 367), (0, 368), (0, 369)])),
  (301, .inr (1, 1620)),
  (302, .inr (1, 1600)),
  (312, .inr (0, 2)),
  (313, .inr (0, 2)),
  (314, .inr (0, 2)),
  (315, .inr (0, 2)),
  (316, .inr (0, 2)),
  (317, .inr (0, 2)),
  (318, .inr (0, 2)),
  (319, .inr (0, 16)),
  (320, .inr (0, 16)),
  (321, .inr (2, 2)),
  (322, .inr (2, 2)),
  (323, .inr (2, 2)),
  (324, .inr (3, 8)),
  (325, .inr (0, 1120)),
  (326, .inr (0, 1120)),
  (327, .inr (0, 90)),
  (328, .inr (0, 90)),
  (329, .inr (0, 60)),
  (341, .inr (0, 221)),
  (342, .inr (0, 9061)),
  (345, .inr (0, 100)),
  (346, .inr (0, 4)),
  (347, .inr (0, 4)),
  (348, .inr (0, 12)),
  (350, .inr (0, 4096)),
  (351, .inr (0, 20480)),
  (352, .inr (0, 65536)),
  (353, .inr (0, 40)),
  (354, .inr (0, 40)),
  (355, .inr (0, 40)),
  (356, .inr (0, 40)),
  (357, .inr (0, 40)),
  (358, .inr (0, 40)),
  (361, .inr (0, 7)),
  (362, .inr (0, 7)),
  (363, .inr (0, 49)),
  (365, .inr (0, 7)),
  (366, .inr (0, 8)),
  (367, .inr (0, 8)),
  (368, .inr (0, 663)),
  (369, .inr (2, 3))]
def wsW (g : Gw) (w : Wd) : va_W := tab.map (fun q => (g.2.2 q.1, wE g w q))
def tyl (g : Gw) : List (ClassId × FieldType) := [(g.2.1 0, .int), (g.2.1 1, .byte), (g.2.1 2, .boolean), (g.2.1 3, .long), (g.2.1 4, .object "SealCasts$Court")]
def sI (w : Wd) (o f : Nat) (v : Int32) : Wd := (fun a b => if a = o ∧ b = f then v else w.1 a b, w.2)
def sA (w : Wd) (o i : Nat) (v : Int32) : Wd := (w.1, fun a b => if a = o ∧ b = i then v else w.2.1 a b, w.2.2)
def sJ (w : Wd) (o f : Nat) (v : Int64) : Wd := (w.1, w.2.1, fun a b => if a = o ∧ b = f then v else w.2.2.1 a b, w.2.2.2)
def sB (w : Wd) (o i : Nat) (v : Int64) : Wd := (w.1, w.2.1, w.2.2.1, fun a b => if a = o ∧ b = i then v else w.2.2.2.1 a b, w.2.2.2.2)
def sR (w : Wd) (k : Nat) (v : Bool) : Wd := (w.1, w.2.1, w.2.2.1, w.2.2.2.1, fun a => if a = k then v else w.2.2.2.2 a)
/-- a stretch of an array copied -/
def sC (w : Wd) (o : Nat) (h : Nat → Int32) : Wd := (w.1, fun a b => if a = o then h b else w.2.1 a b, w.2.2)
theorem tab_nd : (tab.map (fun q => q.1)).Nodup := by decide +kernel
theorem tab_inj {i j : Nat} {p q : Nat × Ds} (h1 : tab[i]? = some p) (h2 : tab[j]? = some q) (h : p.1 = q.1) : i = j := by
  have e1 : (tab.map (fun q => q.1))[i]? = some p.1 := by rw [List.getElem?_map, h1]; rfl
  have e2 : (tab.map (fun q => q.1))[j]? = some q.1 := by rw [List.getElem?_map, h2]; rfl
  have hi : i < (tab.map (fun q => q.1)).length := (List.getElem?_eq_some_iff.mp e1).1
  exact (List.getElem?_inj hi tab_nd).mp (by rw [e1, e2, h])
theorem wk_at {g : Gw} {w : Wd} {q0 : Nat} {q : Nat × Ds} (h : tab[q0]? = some q) : (wsW g w)[q0]? = some (g.2.2 q.1, wE g w q) := by
  unfold wsW
  rw [List.getElem?_map, h]
  rfl
theorem wk_set {g : Gw} {w w' : Wd} {q0 : Nat} {q : Nat × Ds} {e : va_E} (h : tab[q0]? = some q) (he : e = wE g w' q) (ho : ∀ r : Nat × Ds, r.1 ≠ q.1 → wE g w' r = wE g w r) : (wsW g w).set q0 (g.2.2 q.1, e) = wsW g w' := by
  apply List.ext_getElem?
  intro k
  rw [List.getElem?_set]
  by_cases hk : q0 = k
  · subst hk
    have hl : q0 < (wsW g w).length := (List.getElem?_eq_some_iff.mp (wk_at (g := g) (w := w) h)).1
    rw [if_pos rfl, if_pos hl, wk_at h, he]
  · rw [if_neg hk]
    unfold wsW
    rw [List.getElem?_map, List.getElem?_map]
    cases hr : tab[k]? with
    | none => rfl
    | some r =>
      have hne : r.1 ≠ q.1 := fun z => hk (tab_inj h hr z.symm)
      show some (g.2.2 r.1, wE g w r) = some (g.2.2 r.1, wE g w' r)
      rw [ho r hne]
theorem wk_mapIdx {l : List (Nat × Nat)} {f : Nat} {F G : Nat → Nat × Nat → Value} {v : Value} {k : Nat × Nat} (hk : l[f]? = some k) (hv : G f k = v) (ho : ∀ j q, j ≠ f → l[j]? = some q → G j q = F j q) : (l.mapIdx F).set f v = l.mapIdx G := by
  apply List.ext_getElem?
  intro j
  rw [List.getElem?_set, List.getElem?_mapIdx, List.getElem?_mapIdx]
  by_cases hj : f = j
  · subst hj
    have hl : f < (l.mapIdx F).length := by rw [List.length_mapIdx]; exact (List.getElem?_eq_some_iff.mp hk).1
    rw [if_pos rfl, if_pos hl, hk]
    show some v = some (G f k)
    rw [hv]
  · rw [if_neg hj]
    cases hq : l[j]? with
    | none => rfl
    | some q =>
      show some (F j q) = some (G j q)
      rw [ho j q (fun z => hj z.symm) hq]
theorem wf_sI {g : Gw} {w : Wd} {o f a b : Nat} {v : Int32} {q : Nat × Nat} (h : ¬ (a = o ∧ b = f)) : wf g (sI w o f v) a b q = wf g w a b q := by
  unfold wf sI
  simp only [if_neg h]
theorem wf_sJ {g : Gw} {w : Wd} {o f a b : Nat} {v : Int64} {q : Nat × Nat} (h : ¬ (a = o ∧ b = f)) : wf g (sJ w o f v) a b q = wf g w a b q := by
  unfold wf sJ
  simp only [if_neg h]
theorem wE_sI {g : Gw} {w : Wd} {o f : Nat} {v : Int32} (r : Nat × Ds) (h : r.1 ≠ o) : wE g (sI w o f v) r = wE g w r := by
  obtain ⟨i, d⟩ := r
  cases d with
  | inl d =>
    unfold wE
    simp only [wf_sI (show ¬ (i = o ∧ _ = f) from fun z => h z.1)]
  | inr d => rfl
theorem wE_sJ {g : Gw} {w : Wd} {o f : Nat} {v : Int64} (r : Nat × Ds) (h : r.1 ≠ o) : wE g (sJ w o f v) r = wE g w r := by
  obtain ⟨i, d⟩ := r
  cases d with
  | inl d =>
    unfold wE
    simp only [wf_sJ (show ¬ (i = o ∧ _ = f) from fun z => h z.1)]
  | inr d => rfl
theorem wA_2 {g : Gw} {w w' : Wd} {id k n : Nat} (h1 : w'.2.1 id = w.2.1 id) (h2 : w'.2.2.2.1 id = w.2.2.2.1 id) : wA g w' id k n = wA g w id k n := by
  unfold wA
  rw [h1, h2]
theorem wE_A {g : Gw} {w w' : Wd} (r : Nat × Ds) (h0 : w'.1 = w.1) (h3 : w'.2.2.1 = w.2.2.1) (h4 : w'.2.2.2.2 = w.2.2.2.2) (h1 : w'.2.1 r.1 = w.2.1 r.1) (h2 : w'.2.2.2.1 r.1 = w.2.2.2.1 r.1) : wE g w' r = wE g w r := by
  obtain ⟨i, d⟩ := r
  cases d with
  | inl d =>
    unfold wE wf
    simp only [h0, h3, h4]
  | inr d =>
    unfold wE
    simp only [wA_2 h1 h2]
theorem sA_ne {w : Wd} {o i a : Nat} {v : Int32} (h : a ≠ o) : (sA w o i v).2.1 a = w.2.1 a := by
  funext b
  unfold sA
  simp only [if_neg (show ¬ (a = o ∧ b = i) from fun z => h z.1)]
theorem sA_eq {w : Wd} {o i : Nat} {v : Int32} : (sA w o i v).2.1 o = upd (w.2.1 o) i v := by
  funext b
  unfold sA upd
  simp
theorem sC_ne {w : Wd} {o a : Nat} {h : Nat → Int32} (hn : a ≠ o) : (sC w o h).2.1 a = w.2.1 a := by
  funext b
  unfold sC
  simp only [if_neg hn]
theorem sC_eq {w : Wd} {o : Nat} {h : Nat → Int32} : (sC w o h).2.1 o = h := by
  funext b
  unfold sC
  simp
theorem sB_ne {w : Wd} {o i a : Nat} {v : Int64} (h : a ≠ o) : (sB w o i v).2.2.2.1 a = w.2.2.2.1 a := by
  funext b
  unfold sB
  simp only [if_neg (show ¬ (a = o ∧ b = i) from fun z => h z.1)]
theorem sB_eq {w : Wd} {o i : Nat} {v : Int64} : (sB w o i v).2.2.2.1 o = vp_updL (w.2.2.2.1 o) i v := by
  funext b
  unfold sB vp_updL
  simp
/-- the words of all methods, their membership by places -/
theorem mU {w : Cond} (i : Nat) (h : wsL_law[i]? = some w) : w ∈ wsL_law := List.mem_of_getElem? h
theorem gUm {ws : List Cond} (h : ∀ w ∈ ws, w ∈ wsL_law) : GoodIn wsL_law ws := fun w hw => gU w (h w hw)
theorem gV {own C : String} {idx : Nat} {y : MethodName} {cd : Cond} (h1 : Cond.methodLink own idx y ∈ wsL_law) (h2 : Cond.instanceMethod y ∈ wsL_law) (h3 : Cond.selects C y y ∈ wsL_law) (h4 : Cond.initialized C ∈ wsL_law) (h5 : cd ∈ wsL_law) : GoodIn wsL_law (wsV own idx C y (cd :: wsL_law)) := by
  refine gUm fun w hw => ?_
  unfold wsV at hw
  rcases List.mem_append.mp hw with h | h
  · simp only [List.mem_cons, List.not_mem_nil, or_false] at h
    rcases h with rfl | rfl | rfl | rfl
    · exact h1
    · exact h2
    · exact h3
    · exact h4
  · rcases List.mem_cons.mp h with rfl | h
    · exact h5
    · exact h
theorem gS {own : String} {idx : Nat} {y : MethodName} {cd : Cond} (h1 : Cond.methodLink own idx y ∈ wsL_law) (h2 : Cond.static y ∈ wsL_law) (h4 : Cond.initialized y.cls ∈ wsL_law) (h5 : cd ∈ wsL_law) : GoodIn wsL_law (va_wsS own idx y (cd :: wsL_law)) := by
  refine gUm fun w hw => ?_
  unfold va_wsS at hw
  rcases List.mem_append.mp hw with h | h
  · simp only [List.mem_cons, List.not_mem_nil, or_false] at h
    rcases h with rfl | rfl | rfl
    · exact h1
    · exact h2
    · exact h4
  · rcases List.mem_cons.mp h with rfl | h
    · exact h5
    · exact h
section WR
variable {p : Program} {l : Launch} {e : Env} {R : Room} {s : State} {m : MethodId} {args : Array Value} {below : List Frame} {meth : Method} {c : Code} {H H0 : Heap} {locs : List Loc} {cells slots : Nat} {Q : State → Prop} {cc : ByteArray} {pc : Nat} {ls : Array Slot} {rest : List Value} {A : Nat → Prop} {g : Gw} {w : Wd} {own : String} {nL : Nat}
def Cx (p : Program) (s : State) (m : MethodId) (args : Array Value) (c : Code) (cc : ByteArray) (own : String) (nL : Nat) (g : Gw) : Prop :=
  p.tables.exec = Jvm.exec ∧ c.code = cc ∧ c.maxLocals = nL ∧ s.vm.findClass own = some m.cls ∧ (∀ w ∈ wsL_law, w.before args s = true) ∧ va_K g.1 vwCl (tyl g) s
def St (A : Nat → Prop) (H0 : Heap) (g : Gw) (w : Wd) (H : Heap) (locs : List Loc) : Prop := va_P g.1 vwCl (wsW g w) H ∧ va_D A (wsW g w) ∧ va_S A H0 H locs ∧ ∀ q, H0.size ≤ q → A q
theorem q_get {o f ci N q0 index : Nat} {C : String} {T : u_T} {fl : List (Nat × Nat)} {k : Nat × Nat} (hC : Cx p s m args c cc own nL g) (hS : St A H0 g w H locs) (ht : tab[q0]? = some (o, .inl (ci, fl))) (hc : vwCl[ci]? = some (C, T, N)) (hin : ∀ w ∈ u_ws C T N, w ∈ wsL_law) (hf : f < N) (hk : fl[f]? = some k) (hl : Cond.fieldLink own index (T f).1 (T f).2.1 (T f).2.2.1 ∈ wsL_law) (hd : decode cc pc = .ok (.getfield index, 3))
    (kk : W p l e R s m args below meth c H locs cells slots Q (F0 m (pc + 3) ls (wf g w o f k :: rest))) : W p l e R s m args below meth c H locs cells slots Q (F0 m pc ls (.ref (g.2.2 o) :: rest)) := by
  obtain ⟨hx, hb, hml, hown, hts, hK⟩ := hC
  have he := wk_at (g := g) (w := w) ht
  refine va_get (D := g.1) (ci := ci) (v := wf g w o f k) hx hb hts hin hown hK hS.1 q0 he hc f hf (hts _ hl) (fun _ h9 => h9) ?_ hd kk
  rw [List.getElem?_mapIdx, hk]
  rfl
theorem q_putI {o f ci N q0 index : Nat} {C : String} {T : u_T} {ty0 : Nat → FieldType} {fl : List (Nat × Nat)} {k : Nat} {v : Int32} (hC : Cx p s m args c cc own nL g) (hS : St A H0 g w H locs) (ht : tab[q0]? = some (o, .inl (ci, fl))) (hc : vwCl[ci]? = some (C, T, N)) (hin : ∀ w ∈ u_ws C T N, w ∈ wsL_law) (hty : ∀ k, k < N → parseFieldDescriptor (T k).2.2.1 = some (ty0 k)) (hnm : ∀ a, a < N → ∀ b, b < N → a ≠ b → (T a).2.1 ≠ (T b).2.1) (hf : f < N) (hfin : (T f).2.2.2 = false) (hdesc : parseFieldDescriptor (T f).2.2.1 = some .int) (hk : fl[f]? = some (1, k)) (hl : Cond.fieldLink own index (T f).1 (T f).2.1 (T f).2.2.1 ∈ wsL_law) (hd : decode cc pc = .ok (.putfield index, 3))
    (kk : ∀ (w1 : Wd) (H1 : Heap) (locs1 : List Loc), w1 = sI w o f v → St A H0 g w1 H1 locs1 → W p l e R s m args below meth c H1 locs1 cells slots Q (F0 m (pc + 3) ls rest)) : W p l e R s m args below meth c H locs cells slots Q (F0 m pc ls (.int v :: .ref (g.2.2 o) :: rest)) := by
  obtain ⟨hx, hb, hml, hown, hts, hK⟩ := hC
  have he := wk_at (g := g) (w := w) ht
  have hlt : f < fl.length := (List.getElem?_eq_some_iff.mp hk).1
  refine va_put (D := g.1) (ci := ci) (v := .int v) (ty := .int) hx hb hts hin ty0 hty hnm hown hK hS.1 hS.2.1 hS.2.2.1 q0 he hc f hf (hts _ hl) (fun _ h9 => h9) hfin hdesc rfl rfl (by rw [List.length_mapIdx]; exact hlt) hd (fun H1 locs1 hP hD hS1 => ?_)
  have e1 : (wsW g w).set q0 (g.2.2 o, .inr (ci, (fl.mapIdx (fun f k => wf g w o f k)).set f (.int v))) = wsW g (sI w o f v) := by
    refine wk_set (q := (o, .inl (ci, fl))) ht ?_ (fun r h => wE_sI r h)
    show Sum.inr _ = Sum.inr _
    congr 2
    refine wk_mapIdx hk ?_ (fun j q hj _ => wf_sI (fun z => hj z.2))
    unfold wf sI
    simp
  have hP : va_P g.1 vwCl ((wsW g w).set q0 (g.2.2 o, .inr (ci, (fl.mapIdx (fun f k => wf g w o f k)).set f (.int v)))) H1 := hP
  have hD : va_D A ((wsW g w).set q0 (g.2.2 o, .inr (ci, (fl.mapIdx (fun f k => wf g w o f k)).set f (.int v)))) := hD
  rw [e1] at hP hD
  exact kk _ H1 locs1 rfl ⟨hP, hD, hS1, hS.2.2.2⟩
theorem q_putJ {o f ci N q0 index : Nat} {C : String} {T : u_T} {ty0 : Nat → FieldType} {fl : List (Nat × Nat)} {k : Nat} {v : Int64} (hC : Cx p s m args c cc own nL g) (hS : St A H0 g w H locs) (ht : tab[q0]? = some (o, .inl (ci, fl))) (hc : vwCl[ci]? = some (C, T, N)) (hin : ∀ w ∈ u_ws C T N, w ∈ wsL_law) (hty : ∀ k, k < N → parseFieldDescriptor (T k).2.2.1 = some (ty0 k)) (hnm : ∀ a, a < N → ∀ b, b < N → a ≠ b → (T a).2.1 ≠ (T b).2.1) (hf : f < N) (hfin : (T f).2.2.2 = false) (hdesc : parseFieldDescriptor (T f).2.2.1 = some .long) (hk : fl[f]? = some (2, k)) (hl : Cond.fieldLink own index (T f).1 (T f).2.1 (T f).2.2.1 ∈ wsL_law) (hd : decode cc pc = .ok (.putfield index, 3))
    (kk : ∀ (w1 : Wd) (H1 : Heap) (locs1 : List Loc), w1 = sJ w o f v → St A H0 g w1 H1 locs1 → W p l e R s m args below meth c H1 locs1 cells slots Q (F0 m (pc + 3) ls rest)) : W p l e R s m args below meth c H locs cells slots Q (F0 m pc ls (.long v :: .ref (g.2.2 o) :: rest)) := by
  obtain ⟨hx, hb, hml, hown, hts, hK⟩ := hC
  have he := wk_at (g := g) (w := w) ht
  have hlt : f < fl.length := (List.getElem?_eq_some_iff.mp hk).1
  refine va_put (D := g.1) (ci := ci) (v := .long v) (ty := .long) hx hb hts hin ty0 hty hnm hown hK hS.1 hS.2.1 hS.2.2.1 q0 he hc f hf (hts _ hl) (fun _ h9 => h9) hfin hdesc rfl rfl (by rw [List.length_mapIdx]; exact hlt) hd (fun H1 locs1 hP hD hS1 => ?_)
  have e1 : (wsW g w).set q0 (g.2.2 o, .inr (ci, (fl.mapIdx (fun f k => wf g w o f k)).set f (.long v))) = wsW g (sJ w o f v) := by
    refine wk_set (q := (o, .inl (ci, fl))) ht ?_ (fun r h => wE_sJ r h)
    show Sum.inr _ = Sum.inr _
    congr 2
    refine wk_mapIdx hk ?_ (fun j q hj _ => wf_sJ (fun z => hj z.2))
    unfold wf sJ
    simp
  have hP : va_P g.1 vwCl ((wsW g w).set q0 (g.2.2 o, .inr (ci, (fl.mapIdx (fun f k => wf g w o f k)).set f (.long v)))) H1 := hP
  have hD : va_D A ((wsW g w).set q0 (g.2.2 o, .inr (ci, (fl.mapIdx (fun f k => wf g w o f k)).set f (.long v)))) := hD
  rw [e1] at hP hD
  exact kk _ H1 locs1 rfl ⟨hP, hD, hS1, hS.2.2.2⟩
/-- an array's cell -/
theorem q_ar {o k n q0 : Nat} {f : Nat → Int32} (hS : St A H0 g w H locs) (ht : tab[q0]? = some (o, .inr (k, n))) (hk : wA g w o k n = (n, .inl f)) : (wsW g w)[q0]? = some (g.2.2 o, .inl (g.2.1 k, n, .inl f)) := by
  rw [wk_at ht]
  show some (g.2.2 o, Sum.inl (g.2.1 k, wA g w o k n)) = _
  rw [hk]
theorem q_iald {o n q0 : Nat} {i : Int32} (hC : Cx p s m args c cc own nL g) (hS : St A H0 g w H locs) (ht : tab[q0]? = some (o, .inr (0, n))) (hin : vp_in i n) (hd : decode cc pc = .ok (.iaload, 1))
    (kk : W p l e R s m args below meth c H locs cells slots Q (F0 m (pc + 1) ls (.int (w.2.1 o i.toNatClampNeg) :: rest))) : W p l e R s m args below meth c H locs cells slots Q (F0 m pc ls (.int i :: .ref (g.2.2 o) :: rest)) := by
  obtain ⟨hx, hb, hml, hown, hts, hK⟩ := hC
  exact va_iald hx hb hK hS.1 q0 0 (q_ar hS ht rfl) rfl hin hd kk
theorem q_bald {o n q0 : Nat} {i : Int32} (hC : Cx p s m args c cc own nL g) (hS : St A H0 g w H locs) (ht : tab[q0]? = some (o, .inr (1, n))) (hin : vp_in i n) (hd : decode cc pc = .ok (.baload, 1))
    (kk : W p l e R s m args below meth c H locs cells slots Q (F0 m (pc + 1) ls (.int (w.2.1 o i.toNatClampNeg) :: rest))) : W p l e R s m args below meth c H locs cells slots Q (F0 m pc ls (.int i :: .ref (g.2.2 o) :: rest)) := by
  obtain ⟨hx, hb, hml, hown, hts, hK⟩ := hC
  exact va_bald hx hb hK hS.1 q0 1 (q_ar hS ht rfl) rfl hin hd kk
theorem q_zald {o n q0 : Nat} {i : Int32} (hC : Cx p s m args c cc own nL g) (hS : St A H0 g w H locs) (ht : tab[q0]? = some (o, .inr (2, n))) (hin : vp_in i n) (hd : decode cc pc = .ok (.baload, 1))
    (kk : W p l e R s m args below meth c H locs cells slots Q (F0 m (pc + 1) ls (.int (w.2.1 o i.toNatClampNeg) :: rest))) : W p l e R s m args below meth c H locs cells slots Q (F0 m pc ls (.int i :: .ref (g.2.2 o) :: rest)) := by
  obtain ⟨hx, hb, hml, hown, hts, hK⟩ := hC
  exact va_zald hx hb hK hS.1 q0 2 (q_ar hS ht rfl) rfl hin hd kk
theorem q_lald {o n q0 : Nat} {i : Int32} (hC : Cx p s m args c cc own nL g) (hS : St A H0 g w H locs) (ht : tab[q0]? = some (o, .inr (3, n))) (hin : vp_in i n) (hd : decode cc pc = .ok (.laload, 1))
    (kk : W p l e R s m args below meth c H locs cells slots Q (F0 m (pc + 1) ls (.long (w.2.2.2.1 o i.toNatClampNeg) :: rest))) : W p l e R s m args below meth c H locs cells slots Q (F0 m pc ls (.int i :: .ref (g.2.2 o) :: rest)) := by
  obtain ⟨hx, hb, hml, hown, hts, hK⟩ := hC
  exact va_lald hx hb hK hS.1 q0 3 (wk_at ht) rfl hin hd kk
theorem q_aald {o n q0 : Nat} {i : Int32} (hC : Cx p s m args c cc own nL g) (hS : St A H0 g w H locs) (ht : tab[q0]? = some (o, .inr (4, n))) (hin : vp_in i n) (hd : decode cc pc = .ok (.aaload, 1))
    (kk : W p l e R s m args below meth c H locs cells slots Q (F0 m (pc + 1) ls (.ref (g.2.2 (180 + 20 * i.toNatClampNeg)) :: rest))) : W p l e R s m args below meth c H locs cells slots Q (F0 m pc ls (.int i :: .ref (g.2.2 o) :: rest)) := by
  obtain ⟨hx, hb, hml, hown, hts, hK⟩ := hC
  exact va_aldq hx hb hK hS.1 q0 4 (wk_at ht) rfl hin hd kk
theorem q_alen {o k n q0 : Nat} {v : Int32} (hC : Cx p s m args c cc own nL g) (hS : St A H0 g w H locs) (ht : tab[q0]? = some (o, .inr (k, n))) (hk : k < 5) (hv : Int32.ofNat n = v) (hd : decode cc pc = .ok (.arraylength, 1))
    (kk : W p l e R s m args below meth c H locs cells slots Q (F0 m (pc + 1) ls (.int v :: rest))) : W p l e R s m args below meth c H locs cells slots Q (F0 m pc ls (.ref (g.2.2 o) :: rest)) := by
  obtain ⟨hx, hb, hml, hown, hts, hK⟩ := hC
  have hty : ∃ ty, (tyl g)[k]? = some (g.2.1 k, ty) := by
    rcases (show k = 0 ∨ k = 1 ∨ k = 2 ∨ k = 3 ∨ k = 4 by omega) with rfl | rfl | rfl | rfl | rfl <;> exact ⟨_, rfl⟩
  obtain ⟨ty, hty⟩ := hty
  exact va_alen hx hb hK hS.1 q0 k (wk_at ht) hty hv hd kk
theorem q_arS {o k n q0 : Nat} {w1 : Wd} {f : Nat → Int32} (ht : tab[q0]? = some (o, .inr (k, n))) (hk : wA g w1 o k n = (n, .inl f)) (ho : ∀ r : Nat × Ds, r.1 ≠ o → wE g w1 r = wE g w r) : (wsW g w).set q0 (g.2.2 o, .inl (g.2.1 k, n, .inl f)) = wsW g w1 := by
  refine wk_set (q := (o, .inr (k, n))) ht ?_ ho
  show Sum.inl _ = Sum.inl (g.2.1 k, wA g w1 o k n)
  rw [hk]
theorem q_iast {o n q0 : Nat} {i x : Int32} (hC : Cx p s m args c cc own nL g) (hS : St A H0 g w H locs) (ht : tab[q0]? = some (o, .inr (0, n))) (hin : vp_in i n) (hd : decode cc pc = .ok (.iastore, 1))
    (kk : ∀ (w1 : Wd) (H1 : Heap) (locs1 : List Loc), w1 = sA w o i.toNatClampNeg x → St A H0 g w1 H1 locs1 → W p l e R s m args below meth c H1 locs1 cells slots Q (F0 m (pc + 1) ls rest)) : W p l e R s m args below meth c H locs cells slots Q (F0 m pc ls (.int x :: .int i :: .ref (g.2.2 o) :: rest)) := by
  obtain ⟨hx, hb, hml, hown, hts, hK⟩ := hC
  refine va_iast hx hb hK hS.1 hS.2.1 hS.2.2.1 q0 0 (q_ar hS ht rfl) rfl hin hd (fun H1 locs1 hP hD hS1 => ?_)
  rw [q_arS (g := g) (w := w) (k := 0) (f := upd (w.2.1 o) i.toNatClampNeg x) (w1 := sA w o i.toNatClampNeg x) ht (by unfold wA; rw [sA_eq]; rfl) (fun r h => wE_A r rfl rfl rfl (sA_ne h) rfl)] at hP hD
  exact kk _ H1 locs1 rfl ⟨hP, hD, hS1, hS.2.2.2⟩
theorem q_bast {o n q0 : Nat} {i x : Int32} (hC : Cx p s m args c cc own nL g) (hS : St A H0 g w H locs) (ht : tab[q0]? = some (o, .inr (1, n))) (hin : vp_in i n) (hd : decode cc pc = .ok (.bastore, 1))
    (kk : ∀ (w1 : Wd) (H1 : Heap) (locs1 : List Loc), w1 = sA w o i.toNatClampNeg (vp_nar .byte x) → St A H0 g w1 H1 locs1 → W p l e R s m args below meth c H1 locs1 cells slots Q (F0 m (pc + 1) ls rest)) : W p l e R s m args below meth c H locs cells slots Q (F0 m pc ls (.int x :: .int i :: .ref (g.2.2 o) :: rest)) := by
  obtain ⟨hx, hb, hml, hown, hts, hK⟩ := hC
  refine va_bast hx hb hK hS.1 hS.2.1 hS.2.2.1 q0 1 (q_ar hS ht rfl) rfl hin hd (fun H1 locs1 hP hD hS1 => ?_)
  rw [q_arS (g := g) (w := w) (k := 1) (f := upd (w.2.1 o) i.toNatClampNeg (vp_nar .byte x)) (w1 := sA w o i.toNatClampNeg (vp_nar .byte x)) ht (by unfold wA; rw [sA_eq]; rfl) (fun r h => wE_A r rfl rfl rfl (sA_ne h) rfl)] at hP hD
  exact kk _ H1 locs1 rfl ⟨hP, hD, hS1, hS.2.2.2⟩
theorem q_zast {o n q0 : Nat} {i x : Int32} (hC : Cx p s m args c cc own nL g) (hS : St A H0 g w H locs) (ht : tab[q0]? = some (o, .inr (2, n))) (hin : vp_in i n) (hd : decode cc pc = .ok (.bastore, 1))
    (kk : ∀ (w1 : Wd) (H1 : Heap) (locs1 : List Loc), w1 = sA w o i.toNatClampNeg (vp_nar .boolean x) → St A H0 g w1 H1 locs1 → W p l e R s m args below meth c H1 locs1 cells slots Q (F0 m (pc + 1) ls rest)) : W p l e R s m args below meth c H locs cells slots Q (F0 m pc ls (.int x :: .int i :: .ref (g.2.2 o) :: rest)) := by
  obtain ⟨hx, hb, hml, hown, hts, hK⟩ := hC
  refine va_zast hx hb hK hS.1 hS.2.1 hS.2.2.1 q0 2 (q_ar hS ht rfl) rfl hin hd (fun H1 locs1 hP hD hS1 => ?_)
  rw [q_arS (g := g) (w := w) (k := 2) (f := upd (w.2.1 o) i.toNatClampNeg (vp_nar .boolean x)) (w1 := sA w o i.toNatClampNeg (vp_nar .boolean x)) ht (by unfold wA; rw [sA_eq]; rfl) (fun r h => wE_A r rfl rfl rfl (sA_ne h) rfl)] at hP hD
  exact kk _ H1 locs1 rfl ⟨hP, hD, hS1, hS.2.2.2⟩
theorem q_last {o n q0 : Nat} {i : Int32} {x : Int64} (hC : Cx p s m args c cc own nL g) (hS : St A H0 g w H locs) (ht : tab[q0]? = some (o, .inr (3, n))) (hin : vp_in i n) (hd : decode cc pc = .ok (.lastore, 1))
    (kk : ∀ (w1 : Wd) (H1 : Heap) (locs1 : List Loc), w1 = sB w o i.toNatClampNeg x → St A H0 g w1 H1 locs1 → W p l e R s m args below meth c H1 locs1 cells slots Q (F0 m (pc + 1) ls rest)) : W p l e R s m args below meth c H locs cells slots Q (F0 m pc ls (.long x :: .int i :: .ref (g.2.2 o) :: rest)) := by
  obtain ⟨hx, hb, hml, hown, hts, hK⟩ := hC
  refine va_last (f := w.2.2.2.1 o) hx hb hK hS.1 hS.2.1 hS.2.2.1 q0 3 (wk_at ht) rfl hin hd (fun H1 locs1 hP hD hS1 => ?_)
  have e1 : (wsW g w).set q0 (g.2.2 o, .inl (g.2.1 3, n, .inr (.inl (vp_updL (w.2.2.2.1 o) i.toNatClampNeg x)))) = wsW g (sB w o i.toNatClampNeg x) := by
    refine wk_set (q := (o, .inr (3, n))) ht ?_ (fun r h => wE_A r rfl rfl rfl rfl (sB_ne h))
    show Sum.inl _ = Sum.inl (g.2.1 3, n, Sum.inr (Sum.inl ((sB w o i.toNatClampNeg x).2.2.2.1 o)))
    rw [sB_eq]
  have hP : va_P g.1 vwCl ((wsW g w).set q0 (g.2.2 o, .inl (g.2.1 3, n, .inr (.inl (vp_updL (w.2.2.2.1 o) i.toNatClampNeg x))))) H1 := hP
  have hD : va_D A ((wsW g w).set q0 (g.2.2 o, .inl (g.2.1 3, n, .inr (.inl (vp_updL (w.2.2.2.1 o) i.toNatClampNeg x))))) := hD
  rw [e1] at hP hD
  exact kk _ H1 locs1 rfl ⟨hP, hD, hS1, hS.2.2.2⟩
end WR
