/-! ===== the two big constructors: the whole worlds as they are made ===== -/
def lk : List (Nat × Nat) → Nat → Nat
  | [], _ => 0
  | (a, b) :: r, i => bif Nat.beq a i then b else lk r i
theorem e_alt {D : va_G} {cl : List vw_C} {ws : va_W} {H : Heap} {A : Nat → Prop} {k a n : Nat} {cA : ClassId} {f f' : ((Nat → Int32) ⊕ (Nat → Int64) ⊕ (Nat → UInt32) ⊕ (Nat → UInt64) ⊕ (Nat → Option Nat))} (hP : va_P D cl ws H) (hD : va_D A ws) (hk : ws[k]? = some (a, .inl (cA, n, f))) (he : vp_cell cA (n, f') = vp_cell cA (n, f)) : va_P D cl (ws.set k (a, .inl (cA, n, f'))) H ∧ va_D A (ws.set k (a, .inl (cA, n, f'))) := by
  refine ⟨fun i q hq => ?_, hD.set hk⟩
  rw [List.getElem?_set] at hq
  by_cases hi : k = i
  · subst hi
    have hl : k < ws.length := (List.getElem?_eq_some_iff.mp hk).1
    rw [if_pos rfl, if_pos hl] at hq
    cases hq
    have h1 := hP k _ hk
    show H[a]? = some (vp_cell cA (n, f'))
    rw [he]
    exact h1
  · rw [if_neg hi] at hq
    exact hP i q hq
section EQ
variable {p : Program} {l : Launch} {e : Env} {R : Room} {s : State} {m : MethodId} {args : Array Value} {below : List Frame} {meth : Method} {c : Code} {H : Heap} {locs : List Loc} {cells slots : Nat} {Q : State → Prop} {cc : ByteArray} {pc : Nat} {ls : Array Slot} {rest st : List Value} {A : Nat → Prop} {g : Gw} {own C : String} {nL h0 ci N k index i2 : Nat} {T : u_T} {ty0 : Nat → FieldType} {fs : List Value} {P : va_W}
/-- a new array of Courts goes into a final field -/
theorem e_npQ {n : Int32} {N' : Nat} (hC : Cx p s m args c cc own nL g) (hin : meth.name = "<init>") (hao : va_AO "SealCasts$Court" s) (hP : va_P g.1 vwCl ((h0, .inr (ci, fs)) :: P) H) (hD : va_D A ((h0, .inr (ci, fs)) :: P)) (hS : va_S A s.heap H locs) (hA : ∀ q, s.heap.size ≤ q → A q) (hcl : Cond.classLink own i2 "SealCasts$Court" ∈ wsL_law) (hc : vwCl[ci]? = some (C, T, N)) (hinl : ∀ w ∈ u_ws C T N, w ∈ wsL_law) (hty : ∀ k, k < N → parseFieldDescriptor (T k).2.2.1 = some (ty0 k)) (hnm : ∀ a, a < N → ∀ b, b < N → a ≠ b → (T a).2.1 ≠ (T b).2.1) (k : Nat) (hk : k < N) (hfin : (T k).2.2.2 = true) (hdecl : (T k).1 = own) (hdesc : parseFieldDescriptor (T k).2.2.1 = some (.array (.object "SealCasts$Court"))) (hfs : fs.length = N) (hl : Cond.fieldLink own index (T k).1 (T k).2.1 (T k).2.2.1 ∈ wsL_law) (hn : ¬ n < 0) (hN : n.toNatClampNeg = N') (hbytes : N' * 4 ≤ 536870912) (hcells : cells + 1 ≤ R.cells) (hslots : slots + N' ≤ R.slots) (hd1 : decode cc pc = .ok (.anewarray i2, 3)) (hd2 : decode cc (pc + 3) = .ok (.putfield index, 3))
    (kk : ∀ (q : Nat) (H1 : Heap) (locs1 : List Loc), va_P g.1 vwCl ((h0, .inr (ci, fs.set k (.ref q))) :: (P ++ [(q, .inl (g.2.1 4, N', .inr (.inr (.inr (.inr (fun _ => none))))))])) H1 → va_D A ((h0, .inr (ci, fs.set k (.ref q))) :: (P ++ [(q, .inl (g.2.1 4, N', .inr (.inr (.inr (.inr (fun _ => none))))))])) → va_S A s.heap H1 locs1 → W p l e R s m args below meth c H1 locs1 (cells + 1) (slots + N') Q (F0 m (pc + 3 + 3) ls rest)) : W p l e R s m args below meth c H locs cells slots Q (F0 m pc ls (.int n :: .ref h0 :: rest)) := by
  obtain ⟨hx, hb, hml, hown, hts, hK⟩ := id hC
  refine va_newq hx hb hown (hts _ hcl) hao hK.1 hP hD hS hA hn hN hbytes hcells hslots hd1 (fun q cA H1 hK1 hP1 hD1 hS1 => ?_)
  obtain ⟨_, _, _, _, _, h1⟩ := (hK1.2 5 (cA, .object "SealCasts$Court") rfl).2
  obtain ⟨_, _, _, _, _, h2⟩ := (hK.1.2 4 (g.2.1 4, .object "SealCasts$Court") rfl).2
  have h3 : cA = g.2.1 4 := Option.some.inj (h1.symm.trans h2)
  subst h3
  exact e_putF (v := .ref q) hC hin hP1 hD1 hS1 hc hinl hty hnm k hk hfin hdecl hdesc rfl rfl hfs hl hd2 (fun H2 locs2 a b c => kk q H2 locs2 a b c)
end EQ
/-! the same world, by a plain recursion over fields -/
def mpi (F : Nat → Nat × Nat → Value) : List (Nat × Nat) → Nat → List Value
  | [], _ => []
  | a :: r, n => F n a :: mpi F r (n + 1)
theorem mpi_get (F : Nat → Nat × Nat → Value) : ∀ (l : List (Nat × Nat)) (n j : Nat), (mpi F l n)[j]? = (l[j]?).map (F (n + j)) := by
  intro l
  induction l with
  | nil => intro n j; rfl
  | cons a r ih =>
    intro n j
    cases j with
    | zero => rfl
    | succ j =>
      show (mpi F r (n + 1))[j]? = (r[j]?).map (F (n + (j + 1)))
      rw [ih, show n + 1 + j = n + (j + 1) by omega]
theorem mpi_eq (F : Nat → Nat × Nat → Value) (l : List (Nat × Nat)) : l.mapIdx F = mpi F l 0 := by
  apply List.ext_getElem?
  intro j
  rw [List.getElem?_mapIdx, mpi_get, Nat.zero_add]
def wEv (g : Gw) (w : Wd) (q : Nat × Ds) : va_E := match q.2 with
  | .inl d => .inr (d.1, mpi (fun f k => wf g w q.1 f k) d.2 0)
  | .inr d => .inl (g.2.1 d.1, wA g w q.1 d.1 d.2)
def wsP : List (Nat × Ds) → Gw → Wd → va_W
  | [], _, _ => []
  | q :: r, g, w => (g.2.2 q.1, wEv g w q) :: wsP r g w
theorem wsP_eq (t : List (Nat × Ds)) (g : Gw) (w : Wd) : wsW t g w = wsP t g w := by
  induction t with
  | nil => rfl
  | cons q r ih =>
    show (g.2.2 q.1, wE g w q) :: wsW r g w = (g.2.2 q.1, wEv g w q) :: wsP r g w
    rw [ih]
    obtain ⟨i, d⟩ := q
    cases d with
    | inl d =>
      show (g.2.2 i, Sum.inr (d.1, d.2.mapIdx (fun f k => wf g w i f k))) :: _ = _
      rw [mpi_eq]
      rfl
    | inr d => rfl
/-! ===== what is read from a changed world ===== -/
section RD
variable {w : Wd} {o f i a b k : Nat} {v : Int32} {x : Int64} {t : Bool} {h : Nat → Int32}
theorem rI1 : (sI w o f v).1 a b = if a = o ∧ b = f then v else w.1 a b := rfl
theorem rI2 : (sI w o f v).2.1 a b = w.2.1 a b := rfl
theorem rI3 : (sI w o f v).2.2.1 a b = w.2.2.1 a b := rfl
theorem rI4 : (sI w o f v).2.2.2.1 a b = w.2.2.2.1 a b := rfl
theorem rI5 : (sI w o f v).2.2.2.2 a = w.2.2.2.2 a := rfl
theorem rA1 : (sA w o i v).1 a b = w.1 a b := rfl
theorem rA2 : (sA w o i v).2.1 a b = if a = o ∧ b = i then v else w.2.1 a b := rfl
theorem rA3 : (sA w o i v).2.2.1 a b = w.2.2.1 a b := rfl
theorem rA4 : (sA w o i v).2.2.2.1 a b = w.2.2.2.1 a b := rfl
theorem rA5 : (sA w o i v).2.2.2.2 a = w.2.2.2.2 a := rfl
theorem rJ1 : (sJ w o f x).1 a b = w.1 a b := rfl
theorem rJ2 : (sJ w o f x).2.1 a b = w.2.1 a b := rfl
theorem rJ3 : (sJ w o f x).2.2.1 a b = if a = o ∧ b = f then x else w.2.2.1 a b := rfl
theorem rJ4 : (sJ w o f x).2.2.2.1 a b = w.2.2.2.1 a b := rfl
theorem rJ5 : (sJ w o f x).2.2.2.2 a = w.2.2.2.2 a := rfl
theorem rB1 : (sB w o i x).1 a b = w.1 a b := rfl
theorem rB2 : (sB w o i x).2.1 a b = w.2.1 a b := rfl
theorem rB3 : (sB w o i x).2.2.1 a b = w.2.2.1 a b := rfl
theorem rB4 : (sB w o i x).2.2.2.1 a b = if a = o ∧ b = i then x else w.2.2.2.1 a b := rfl
theorem rB5 : (sB w o i x).2.2.2.2 a = w.2.2.2.2 a := rfl
theorem rR1 : (sR w k t).1 a b = w.1 a b := rfl
theorem rR2 : (sR w k t).2.1 a b = w.2.1 a b := rfl
theorem rR3 : (sR w k t).2.2.1 a b = w.2.2.1 a b := rfl
theorem rR4 : (sR w k t).2.2.2.1 a b = w.2.2.2.1 a b := rfl
theorem rR5 : (sR w k t).2.2.2.2 a = if a = k then t else w.2.2.2.2 a := rfl
theorem rC1 : (sC w o h).1 a b = w.1 a b := rfl
theorem rC2 : (sC w o h).2.1 a b = if a = o then h b else w.2.1 a b := rfl
theorem rC3 : (sC w o h).2.2.1 a b = w.2.2.1 a b := rfl
theorem rC4 : (sC w o h).2.2.2.1 a b = w.2.2.2.1 a b := rfl
theorem rC5 : (sC w o h).2.2.2.2 a = w.2.2.2.2 a := rfl
theorem sA_id (h : w.2.1 o i = v) : sA w o i v = w := by
  subst h
  refine Prod.ext rfl (Prod.ext (funext fun a => funext fun b => ?_) rfl)
  show (if a = o ∧ b = i then w.2.1 o i else w.2.1 a b) = w.2.1 a b
  by_cases c : a = o ∧ b = i
  · rw [if_pos c, c.1, c.2]
  · rw [if_neg c]
theorem sI_id (h : w.1 o f = v) : sI w o f v = w := by
  subst h
  refine Prod.ext (funext fun a => funext fun b => ?_) rfl
  show (if a = o ∧ b = f then w.1 o f else w.1 a b) = w.1 a b
  by_cases c : a = o ∧ b = f
  · rw [if_pos c, c.1, c.2]
  · rw [if_neg c]
end RD
/-- a loop that counts up to N: an invariant by places -/
theorem loop_up {S : Type} (p : Nat → Int32 → S → Prop) (I : Nat → S → Prop) (N : Nat) (step : ∀ (n i : Nat) (w : S), i < N → I i w → (∀ w', I (i + 1) w' → p n (nI (i + 1)) w') → p (n + 1) (nI i) w) (stop : ∀ (n : Nat) (w : S), I N w → p (n + 1) (nI N) w) : ∀ (d i : Nat) (w : S), i + d = N → I i w → p (d + 1) (nI i) w := by
  intro d
  induction d with
  | zero => intro i w h hI; rw [show i = N by omega] at hI ⊢; exact stop 0 w hI
  | succ d ih => intro i w h hI; exact step (d + 1) i w (by omega) hI (fun w' hI' => ih (i + 1) w' (by omega) hI')
theorem vp_lt {n N : Nat} (h : n < N) (hN : N < 2 ^ 31) : vp_in (nI n) N := vp_in_nI h hN
/-! ===== the model, fresh ===== -/
def w0M : Wd := (fun o f => bif Nat.beq o 300 && Nat.beq f 5 then -1 else 0, fun _ _ => 0, fun _ _ => 0, fun _ _ => 0, fun _ => false)
def w1M : Wd := sA (sA w0M 312 0 8) 316 0 100
def wFM : Wd := sA (sA (sA (sA w1M 341 1 (-1)) 341 2 (-1)) 341 216 1) 341 218 100
def FM (w : Wd) : Prop := w = wFM
theorem sM0 {o i : Nat} (h : o ≠ 312) (h2 : o ≠ 316) : w1M.2.1 o i = 0 := by
  show (if o = 316 ∧ i = 0 then (100 : Int32) else if o = 312 ∧ i = 0 then 8 else 0) = 0
  rw [if_neg (fun z => h2 z.1), if_neg (fun z => h z.1)]
set_option maxRecDepth 100000 in
theorem startAnew_fresh : pX11_startAnew FM w1M := by
  refine ⟨222, ?_⟩
  refine loop_up (fun n x w => pX11_startAnew_2 FM n x w) (fun _ w => w = w1M) 221 ?_ ?_ 221 0 w1M rfl rfl
  · intro n i w hi hI k
    subst hI
    refine ⟨fun c => absurd c (nI_ge (b := 221) hi (by decide)), fun _ => ⟨vp_lt hi (by decide), fun w2 e2 x e3 => ?_⟩⟩
    rw [e3, nI_1]
    refine k w2 ?_
    rw [e2]
    exact sA_id (sM0 (by decide) (by decide))
  · intro n w hI
    subst hI
    refine ⟨fun _ => ?_, fun c => absurd (by decide) c⟩
    refine ⟨by unfold vp_in; decide, ?_⟩
    intro w2 e2
    rw [show sA w1M 341 (0 : Int32).toNatClampNeg (w1M.2.1 313 (w1M.1 300 29).toNatClampNeg) = w1M from sA_id rfl] at e2
    subst e2
    intro w3 e3 w4 e4 w5 e5
    subst e3 e4 e5
    refine ⟨by unfold vp_in; decide, ?_⟩
    intro w6 e6
    subst e6
    refine ⟨by unfold vp_in; decide, ?_⟩
    intro w7 e7 w8 e8 w9 e9 w10 e10 w11 e11
    have e7 : w7 = wFM := by rw [e7]; exact sA_id rfl
    subst e7
    have e8 : w8 = wFM := by rw [e8]; exact sI_id rfl
    subst e8
    have e9 : w9 = wFM := by rw [e9]; exact sI_id rfl
    subst e9
    have e10 : w10 = wFM := by rw [e10]; exact sI_id rfl
    subst e10
    have e11 : w11 = wFM := by rw [e11]; exact sI_id rfl
    subst e11
    refine ⟨4, ?_⟩
    refine loop_up (fun n x w => pX11_startAnew_116 FM n x w) (fun _ w => w = wFM) 3 ?_ ?_ 3 0 wFM rfl rfl
    · intro n i w hi hI k
      subst hI
      refine ⟨fun c => absurd c (nI_ge (b := 3) hi (by decide)), fun _ => ⟨vp_lt hi (by decide), fun w2 e2 x e3 => ?_⟩⟩
      rw [e3, nI_1]
      refine k w2 ?_
      rw [e2]
      refine sA_id ?_
      show wFM.2.1 369 _ = 0
      simp [wFM, w1M, w0M, rA2]
    · intro n w hI
      exact ⟨fun _ => hI, fun c => absurd (by decide) c⟩
set_option maxRecDepth 100000 in
theorem clearBank_fresh : pX11_clearBank (fun w => pX11_startAnew FM w) w0M := by
  refine ⟨by unfold vp_in; decide, ?_⟩
  intro w1 e1
  subst e1
  refine ⟨by unfold vp_in; decide, ?_⟩
  intro w2 e2
  have e2 : w2 = sA w0M 312 0 8 := by rw [e2]; exact sA_id rfl
  subst e2
  refine ⟨by unfold vp_in; decide, ?_⟩
  intro w3 e3
  have e3 : w3 = sA w0M 312 0 8 := by rw [e3]; exact sA_id rfl
  subst e3
  refine ⟨by unfold vp_in; decide, ?_⟩
  intro w4 e4
  have e4 : w4 = sA w0M 312 0 8 := by rw [e4]; exact sA_id rfl
  subst e4
  refine ⟨by unfold vp_in; decide, ?_⟩
  intro w5 e5
  have e5 : w5 = w1M := e5
  subst e5
  refine ⟨by unfold vp_in; decide, ?_⟩
  intro w6 e6
  have e6 : w6 = w1M := by rw [e6]; exact sA_id rfl
  subst e6
  refine ⟨by unfold vp_in; decide, ?_⟩
  intro w7 e7
  have e7 : w7 = w1M := by rw [e7]; exact sA_id rfl
  subst e7
  refine ⟨by unfold vp_in; decide, ?_⟩
  intro w8 e8
  have e8 : w8 = w1M := by rw [e8]; exact sA_id rfl
  subst e8
  refine ⟨by unfold vp_in; decide, ?_⟩
  intro w9 e9
  have e9 : w9 = w1M := by rw [e9]; exact sA_id rfl
  subst e9
  refine ⟨by unfold vp_in; decide, ?_⟩
  intro w10 e10
  have e10 : w10 = w1M := by rw [e10]; exact sA_id rfl
  subst e10
  intro w11 e11
  have e11 : w11 = w1M := by rw [e11]; exact sI_id rfl
  subst e11
  exact startAnew_fresh
/-! ===== the class, fresh; f: the words of its Tokens ===== -/
def w0X (f : Nat → Int64) : Wd := (fun o i => bif Nat.beq o 0 && Nat.beq i 15 then -1 else bif (Nat.beq o 120 || Nat.beq o 140) && Nat.beq i 0 then 8 else bif (Nat.beq o 120 || Nat.beq o 140) && Nat.beq i 3 then 100 else 0, fun _ _ => 0, fun _ _ => 0, fun o i => bif Nat.beq o 25 then f i else 0, fun k => Nat.beq k 1 || Nat.beq k 2)
def k45 (i : Nat) (b : Nat) : Int32 := if b < i then -1 else 0
def w1X (f : Nat → Int64) : Wd := sC (w0X f) 45 (k45 40)
def wFX (f : Nat → Int64) : Wd := sI (sI (sI (sA (sA (w1X f) 163 0 (-1)) 164 0 (-1)) 160 0 1) 160 10 8) 160 11 100
def FX (w : Wd) : Prop := ∃ f : Nat → Int64, w = wFX f
theorem box_eq {g : Gw} {ad : Nat → Nat} {q0 q1 q2 : Nat} (h0 : ad 180 = q0) (h1 : ad 200 = q1) (h2 : ad 220 = q2) : vp_cell (g.2.1 4) (3, .inr (.inr (.inr (.inr (fun i => some (ad (180 + 20 * i))))))) = vp_cell (g.2.1 4) (3, .inr (.inr (.inr (.inr (va_up (va_up (va_up (fun _ => none) (0 : Int32).toNatClampNeg (some q0)) (1 : Int32).toNatClampNeg (some q1)) (2 : Int32).toNatClampNeg (some q2)))))) := by
  subst h0 h1 h2
  rfl
theorem sR_id {w : Wd} {k : Nat} {t : Bool} (h : w.2.2.2.2 k = t) : sR w k t = w := by
  subst h
  refine Prod.ext rfl (Prod.ext rfl (Prod.ext rfl (Prod.ext rfl (funext fun a => ?_))))
  show (if a = k then w.2.2.2.2 k else w.2.2.2.2 a) = w.2.2.2.2 a
  by_cases c : a = k
  · rw [if_pos c, c]
  · rw [if_neg c]
theorem sC_0 (f : Nat → Int64) : sC (w0X f) 45 (k45 0) = w0X f := by
  refine Prod.ext rfl (Prod.ext (funext fun a => funext fun b => ?_) rfl)
  show (if a = 45 then k45 0 b else 0) = 0
  unfold k45
  simp
theorem sC_s (f : Nat → Int64) (i : Nat) : sA (sC (w0X f) 45 (k45 i)) 45 i (-1) = sC (w0X f) 45 (k45 (i + 1)) := by
  refine Prod.ext rfl (Prod.ext (funext fun a => funext fun b => ?_) rfl)
  show (if a = 45 ∧ b = i then (-1 : Int32) else if a = 45 then k45 i b else 0) = if a = 45 then k45 (i + 1) b else 0
  by_cases ha : a = 45
  · rw [if_pos ha, if_pos ha]
    unfold k45
    by_cases hb : b = i
    · rw [if_pos ⟨ha, hb⟩, if_pos (by omega)]
    · rw [if_neg (fun z => hb z.2)]
      by_cases hc : b < i
      · rw [if_pos hc, if_pos (by omega)]
      · rw [if_neg hc, if_neg (by omega)]
  · rw [if_neg (fun z => ha z.1), if_neg ha, if_neg ha]
set_option maxRecDepth 100000 in
theorem beginAnew_fresh (f : Nat → Int64) : pX10_beginAnew FX (w0X f) := by
  intro w1 e1
  have e1 : w1 = w0X f := by rw [e1]; exact sI_id rfl
  subst e1
  intro w2 e2
  have e2 : w2 = w0X f := by rw [e2]; exact sR_id rfl
  subst e2
  refine ⟨41, ?_⟩
  refine loop_up (fun n x w => pX1_takeRules_7 _ _ n x w) (fun i w => w = sC (w0X f) 45 (k45 i)) 40 ?_ ?_ 40 0 (w0X f) rfl (sC_0 f).symm
  · intro n i w hi hI k
    subst hI
    refine ⟨fun c => absurd c (nI_ge (b := 40) hi (by decide)), fun _ => ⟨vp_lt hi (by decide), fun w2 e2 x e3 => ?_⟩⟩
    rw [e3, nI_1]
    refine k w2 ?_
    rw [e2, nI_clamp (by omega)]
    exact sC_s f i
  · intro n w hI
    refine ⟨fun _ => ?_, fun c => absurd (by decide) c⟩
    have hI : w = w1X f := hI
    subst hI
    intro w1 e1
    have e1 : w1 = w1X f := by rw [e1]; exact sA_id rfl
    subst e1
    intro w2 e2 w3 e3 w4 e4
    subst e2 e3
    have e4 : w4 = sA (sA (w1X f) 163 0 (-1)) 164 0 (-1) := by rw [e4]; exact sA_id rfl
    subst e4
    intro w5 e5
    have e5 : w5 = sA (sA (w1X f) 163 0 (-1)) 164 0 (-1) := by rw [e5]; exact sA_id rfl
    subst e5
    intro w6 e6 w7 e7
    subst e6
    have e7 : w7 = sI (sA (sA (w1X f) 163 0 (-1)) 164 0 (-1)) 160 0 1 := by rw [e7]; exact sI_id rfl
    subst e7
    intro w8 e8 w9 e9 w10 e10
    have e8 : w8 = sI (sI (sA (sA (w1X f) 163 0 (-1)) 164 0 (-1)) 160 0 1) 160 10 8 := e8
    subst e8
    have e9 : w9 = wFX f := e9
    subst e9
    have e10 : w10 = wFX f := by rw [e10]; exact sI_id rfl
    subst e10
    intro w11 e11
    have e11 : w11 = wFX f := by rw [e11]; exact sI_id rfl
    subst e11
    intro w12 e12
    have e12 : w12 = wFX f := by rw [e12]; exact sI_id rfl
    subst e12
    intro w13 e13
    have e13 : w13 = wFX f := by rw [e13]; exact sI_id rfl
    subst e13
    intro w14 e14
    have e14 : w14 = wFX f := by rw [e14]; exact sI_id rfl
    subst e14
    intro w15 e15
    have e15 : w15 = wFX f := by rw [e15]; exact sI_id rfl
    subst e15
    refine ⟨4, ?_⟩
    refine loop_up (fun n x w => pX10_beginAnew_52 FX n x w) (fun _ w => w = wFX f) 3 ?_ ?_ 3 0 (wFX f) rfl rfl
    · intro n i w hi hI k
      subst hI
      refine ⟨fun c => absurd c (nI_ge (b := 3) hi (by decide)), fun _ => ⟨vp_lt hi (by decide), fun w2 e2 x e3 => ?_⟩⟩
      rw [e3, nI_1]
      refine k w2 ?_
      rw [e2]
      refine sA_id ?_
      show (wFX f).2.1 12 _ = 0
      simp [wFX, w1X, w0X, rI2, rA2, rC2]
    · intro n w hI
      exact ⟨fun _ => ⟨f, hI⟩, fun c => absurd (by decide) c⟩
