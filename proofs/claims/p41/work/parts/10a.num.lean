/-! ===== numbers: Int32 read as Int ===== -/
theorem i_lt {a b : Int32} (h : a < b) : a.toInt < b.toInt := Int32.lt_iff_toInt_lt.mp h
theorem i_nlt {a b : Int32} (h : ¬ a < b) : b.toInt ≤ a.toInt := Int.not_lt.mp (fun z => h (Int32.lt_iff_toInt_lt.mpr z))
theorem i_le {a b : Int32} (h : a ≤ b) : a.toInt ≤ b.toInt := Int32.le_iff_toInt_le.mp h
theorem i_nle {a b : Int32} (h : ¬ a ≤ b) : b.toInt < a.toInt := Int.not_le.mp (fun z => h (Int32.le_iff_toInt_le.mpr z))
theorem i_eq {a b : Int32} (h : a = b) : a.toInt = b.toInt := congrArg _ h
theorem i_neq {a b : Int32} (h : ¬ a = b) : ¬ a.toInt = b.toInt := fun z => h (Int32.toInt_inj.mp z)
theorem i_rng (x : Int32) : -2147483648 ≤ x.toInt ∧ x.toInt < 2147483648 := by
  have h1 := x.le_toInt
  have h2 := x.toInt_lt
  omega
theorem i_bm {z : Int} (h : -2147483648 ≤ z ∧ z < 2147483648) : z.bmod (2 ^ 32) = z := Int.bmod_eq_of_le (by omega) (by omega)
theorem i_add {a b : Int32} (h : -2147483648 ≤ a.toInt + b.toInt ∧ a.toInt + b.toInt < 2147483648) : (a + b).toInt = a.toInt + b.toInt := by
  rw [Int32.toInt_add]; exact i_bm h
theorem i_sub {a b : Int32} (h : -2147483648 ≤ a.toInt - b.toInt ∧ a.toInt - b.toInt < 2147483648) : (a - b).toInt = a.toInt - b.toInt := by
  rw [Int32.toInt_sub]; exact i_bm h
theorem i_mull {a b : Int32} {n : Int} (hn : a.toInt = n) (h : -2147483648 ≤ n * b.toInt ∧ n * b.toInt < 2147483648) : (a * b).toInt = n * b.toInt := by
  rw [Int32.toInt_mul, hn]; exact i_bm h
theorem i_mulr {a b : Int32} {n : Int} (hn : b.toInt = n) (h : -2147483648 ≤ a.toInt * n ∧ a.toInt * n < 2147483648) : (a * b).toInt = a.toInt * n := by
  rw [Int32.toInt_mul, hn]; exact i_bm h
theorem i_mulv {a b : Int32} (h1 : 0 ≤ a.toInt) (h2 : a.toInt ≤ 20000) (h3 : 0 ≤ b.toInt) (h4 : b.toInt ≤ 20000) : 0 ≤ (a * b).toInt ∧ (a * b).toInt ≤ 400000000 ∧ (a * b).toInt = a.toInt * b.toInt := by
  have e1 : 0 ≤ a.toInt * b.toInt := Int.mul_nonneg h1 h3
  have e2 : a.toInt * b.toInt ≤ 20000 * 20000 := Int.mul_le_mul h2 h4 h3 (by decide)
  have e3 : (a * b).toInt = a.toInt * b.toInt := by rw [Int32.toInt_mul]; exact i_bm ⟨by omega, by omega⟩
  exact ⟨by omega, by omega, e3⟩
theorem i_divg {a b : Int32} {n : Int} (hn : b.toInt = n) (h0 : 0 < n) (ha : 0 ≤ a.toInt) : (a / b).toInt = a.toInt / n ∧ 0 ≤ a.toInt / n ∧ a.toInt / n ≤ a.toInt := by
  have r := i_rng a
  have e1 : 0 ≤ a.toInt / n := Int.ediv_nonneg ha (Int.le_of_lt h0)
  have e2 : a.toInt / n ≤ a.toInt := Int.ediv_le_self n ha
  refine ⟨?_, e1, e2⟩
  rw [Int32.toInt_div, hn, Int.tdiv_eq_ediv_of_nonneg ha]
  exact i_bm ⟨by omega, by omega⟩
theorem i_divl {a b : Int32} {n : Int} (hn : b.toInt = n) (h0 : 0 < n) (ha : 0 ≤ a.toInt) : (a / b).toInt = a.toInt / n := (i_divg hn h0 ha).1
theorem i_reml {a b : Int32} {n : Int} (hn : b.toInt = n) (h0 : 0 < n) (ha : 0 ≤ a.toInt) : (a - a / b * b).toInt = a.toInt % n := by
  have r := i_rng a
  obtain ⟨e1, e2, e3⟩ := i_divg hn h0 ha
  have e4 : a.toInt / n * n ≤ a.toInt := Int.ediv_mul_le _ (by omega)
  have e5 : 0 ≤ a.toInt / n * n := Int.mul_nonneg e2 (by omega)
  have e6 : (a / b * b).toInt = a.toInt / n * n := by
    rw [Int32.toInt_mul, e1, hn]
    exact i_bm ⟨by omega, by omega⟩
  have e7 : (a - a / b * b).toInt = a.toInt - a.toInt / n * n := by
    rw [Int32.toInt_sub, e6]
    exact i_bm ⟨by omega, by omega⟩
  rw [e7, Int.emod_def, Int.mul_comm n]
theorem i_divv {a b : Int32} (ha : 0 ≤ a.toInt) (hb : 0 < b.toInt) : 0 ≤ (a / b).toInt ∧ (a / b).toInt ≤ a.toInt := by
  obtain ⟨e1, e2, e3⟩ := i_divg (n := b.toInt) rfl hb ha
  omega
theorem i_remv {a b : Int32} (ha : 0 ≤ a.toInt) (hb : 0 < b.toInt) : 0 ≤ (a - a / b * b).toInt ∧ (a - a / b * b).toInt < b.toInt := by
  rw [i_reml (n := b.toInt) rfl hb ha]
  exact ⟨Int.emod_nonneg _ (by omega), Int.emod_lt_of_pos _ hb⟩
theorem i_tn (x : Int32) : x.toInt = if x.toBitVec.toNat < 2147483648 then (x.toBitVec.toNat : Int) else (x.toBitVec.toNat : Int) - 4294967296 := by
  have h := BitVec.toInt_eq_toNat_cond x.toBitVec
  rw [Int32.toInt_toBitVec] at h
  rw [h]
  split <;> split <;> omega
theorem i_tp {x : Int32} (h : x.toBitVec.toNat < 2147483648) : x.toInt = (x.toBitVec.toNat : Int) := by rw [i_tn, if_pos h]
theorem i_tq {x : Int32} (h : 0 ≤ x.toInt) : x.toBitVec.toNat < 2147483648 := by
  have e := i_tn x
  have h2 := x.toBitVec.isLt
  by_cases c : x.toBitVec.toNat < 2147483648
  · exact c
  · rw [if_neg c] at e
    omega
theorem i_and {x m : Int32} (h : 0 ≤ m.toInt) : 0 ≤ (x &&& m).toInt ∧ (x &&& m).toInt ≤ m.toInt := by
  have h1 := i_tq h
  have h2 : (x &&& m).toBitVec.toNat ≤ m.toBitVec.toNat := by
    rw [Int32.toBitVec_and, BitVec.toNat_and]
    exact Nat.and_le_right
  rw [i_tp h1, i_tp (Nat.lt_of_le_of_lt h2 h1)]
  omega
theorem i_ite {a b c d : Int32} : (a.toInt < b.toInt ∧ (if a < b then c else d).toInt = c.toInt) ∨ (b.toInt ≤ a.toInt ∧ (if a < b then c else d).toInt = d.toInt) := by
  by_cases h : a < b
  · exact Or.inl ⟨i_lt h, by rw [if_pos h]⟩
  · exact Or.inr ⟨i_nlt h, by rw [if_neg h]⟩
theorem i_nI {x : Int32} {n : Nat} (h0 : 0 ≤ x.toInt) (h1 : x.toInt ≤ (n : Int)) : ∃ j : Nat, j ≤ n ∧ x = nI j := by
  obtain ⟨j, hj, rfl⟩ := nI_of (x := x) (fun z => by have := i_lt z; have e : (0 : Int32).toInt = 0 := rfl; omega)
  refine ⟨j, ?_, rfl⟩
  rw [nI_toInt hj] at h1
  omega
theorem shl_tab : ∀ j : Nat, j < 31 → ((1 : Int32) <<< (nI j &&& 31)).toInt = 2 ^ j := by decide +kernel
theorem i_shl {x : Int32} (h0 : 0 ≤ x.toInt) (h1 : x.toInt ≤ 12) : 1 ≤ ((1 : Int32) <<< (x &&& 31)).toInt ∧ ((1 : Int32) <<< (x &&& 31)).toInt ≤ 4096 := by
  obtain ⟨j, hj, rfl⟩ := i_nI (n := 12) h0 h1
  have key : ∀ j : Nat, j < 13 → 1 ≤ ((1 : Int32) <<< (nI j &&& 31)).toInt ∧ ((1 : Int32) <<< (nI j &&& 31)).toInt ≤ 4096 := by decide +kernel
  exact key j (by omega)
theorem sI_ne {w : Wd} {o f a b : Nat} {v : Int32} (h : ¬ (a = o ∧ b = f)) : (sI w o f v).1 a b = w.1 a b := by
  show (if a = o ∧ b = f then v else w.1 a b) = w.1 a b
  rw [if_neg h]
theorem sI_at {w : Wd} {o f : Nat} {v : Int32} : (sI w o f v).1 o f = v := by
  show (if o = o ∧ f = f then v else w.1 o f) = v
  rw [if_pos ⟨rfl, rfl⟩]
theorem rl_or (b : Bool) : rl b = 120 ∨ rl b = 140 := by cases b <;> simp [rl]
theorem e1_A {w w9 : Wd} {o i : Nat} {v : Int32} (e : w9 = sA w o i v) : w9.1 = w.1 := by rw [e]; rfl
theorem e1_C {w w9 : Wd} {o : Nat} {g : Nat → Int32} (e : w9 = sC w o g) : w9.1 = w.1 := by rw [e]; rfl
theorem e1_J {w w9 : Wd} {o i : Nat} {v : Int64} (e : w9 = sJ w o i v) : w9.1 = w.1 := by rw [e]; rfl
theorem e1_B {w w9 : Wd} {o i : Nat} {v : Int64} (e : w9 = sB w o i v) : w9.1 = w.1 := by rw [e]; rfl
theorem e1_R {w w9 : Wd} {o : Nat} {v : Bool} (e : w9 = sR w o v) : w9.1 = w.1 := by rw [e]; rfl
theorem i_cl (x : Int32) : x.toNatClampNeg = x.toInt.toNat := rfl
/-- the Int of an Int32, kept closed -/
def Ti (x : Int32) (z : Int) : Prop := x.toInt = z
def Fit (z : Int) : Prop := -2147483648 ≤ z ∧ z < 2147483648
theorem t_any (x : Int32) : ∃ z : Int, Ti x z := ⟨_, rfl⟩
theorem t_rng {x : Int32} {z : Int} (t : Ti x z) : -2147483648 ≤ z ∧ z < 2147483648 := by
  have t : x.toInt = z := t
  rw [← t]; exact i_rng x
section TI
variable {a b c d : Int32} {x y u v : Int}
theorem t_add (ta : Ti a x) (tb : Ti b y) : ∃ z : Int, Ti (a + b) z ∧ ((-2147483648 ≤ x + y ∧ x + y < 2147483648) → z = x + y) := by
  have ta : a.toInt = x := ta
  have tb : b.toInt = y := tb
  exact ⟨_, rfl, fun h => by rw [← ta, ← tb] at h ⊢; exact i_add h⟩
theorem t_sub (ta : Ti a x) (tb : Ti b y) : ∃ z : Int, Ti (a - b) z ∧ ((-2147483648 ≤ x - y ∧ x - y < 2147483648) → z = x - y) := by
  have ta : a.toInt = x := ta
  have tb : b.toInt = y := tb
  exact ⟨_, rfl, fun h => by rw [← ta, ← tb] at h ⊢; exact i_sub h⟩
theorem t_mul (ta : Ti a x) (tb : Ti b y) : ∃ z : Int, Ti (a * b) z ∧ ((-2147483648 ≤ x * y ∧ x * y < 2147483648) → z = x * y) := by
  have tb : b.toInt = y := tb
  exact ⟨_, rfl, fun h => by rw [← tb] at h ⊢; exact i_mull ta h⟩
theorem t_mulv (ta : Ti a x) (tb : Ti b y) : ∃ z : Int, Ti (a * b) z ∧ ((0 ≤ x ∧ x ≤ 20000 ∧ 0 ≤ y ∧ y ≤ 20000) → 0 ≤ z ∧ z ≤ 400000000) := by
  have ta : a.toInt = x := ta
  have tb : b.toInt = y := tb
  refine ⟨_, rfl, fun h => ?_⟩
  rw [← ta, ← tb] at h
  have q := i_mulv h.1 h.2.1 h.2.2.1 h.2.2.2
  exact ⟨q.1, q.2.1⟩
theorem t_div (ta : Ti a x) (tb : Ti b y) : ∃ z : Int, Ti (a / b) z ∧ ((0 ≤ x ∧ 0 < y) → z = x / y) := by
  have ta : a.toInt = x := ta
  exact ⟨_, rfl, fun h => by rw [← ta] at h ⊢; exact i_divl tb h.2 h.1⟩
theorem t_divv (ta : Ti a x) (tb : Ti b y) : ∃ z : Int, Ti (a / b) z ∧ ((0 ≤ x ∧ 0 < y) → 0 ≤ z ∧ z ≤ x) := by
  have ta : a.toInt = x := ta
  have tb : b.toInt = y := tb
  exact ⟨_, rfl, fun h => by rw [← ta, ← tb] at h; rw [← ta]; exact i_divv h.1 h.2⟩
theorem t_rem (ta : Ti a x) (tb : Ti b y) : ∃ z : Int, Ti (a - a / b * b) z ∧ ((0 ≤ x ∧ 0 < y) → z = x % y) := by
  have ta : a.toInt = x := ta
  exact ⟨_, rfl, fun h => by rw [← ta] at h ⊢; exact i_reml tb h.2 h.1⟩
theorem t_remv (ta : Ti a x) (tb : Ti b y) : ∃ z : Int, Ti (a - a / b * b) z ∧ ((0 ≤ x ∧ 0 < y) → 0 ≤ z ∧ z < y) := by
  have ta : a.toInt = x := ta
  have tb : b.toInt = y := tb
  exact ⟨_, rfl, fun h => by rw [← ta, ← tb] at h; rw [← tb]; exact i_remv h.1 h.2⟩
theorem t_and {x m : Int32} {n : Int} (tm : Ti m n) (h : 0 ≤ n) : ∃ z : Int, Ti (x &&& m) z ∧ (0 ≤ z ∧ z ≤ n) := by
  have tm : m.toInt = n := tm
  rw [← tm] at h ⊢
  exact ⟨_, rfl, i_and h⟩
theorem t_ite (ta : Ti a x) (tb : Ti b y) (tc : Ti c u) (td : Ti d v) : ∃ z : Int, Ti (if a < b then c else d) z ∧ ((x < y ∧ z = u) ∨ (y ≤ x ∧ z = v)) := by
  have ta : a.toInt = x := ta
  have tb : b.toInt = y := tb
  have tc : c.toInt = u := tc
  have td : d.toInt = v := td
  rw [← ta, ← tb, ← tc, ← td]
  exact ⟨_, rfl, i_ite⟩
theorem t_shl (ta : Ti a x) : ∃ z : Int, Ti ((1 : Int32) <<< (a &&& 31)) z ∧ ((0 ≤ x ∧ x ≤ 12) → 1 ≤ z ∧ z ≤ 4096) := by
  have ta : a.toInt = x := ta
  exact ⟨_, rfl, fun h => by rw [← ta] at h; exact i_shl h.1 h.2⟩
theorem c_lt (ta : Ti a x) (tb : Ti b y) (h : a < b) : x < y := by
  have ta : a.toInt = x := ta
  have tb : b.toInt = y := tb
  rw [← ta, ← tb]; exact i_lt h
theorem c_nlt (ta : Ti a x) (tb : Ti b y) (h : ¬ a < b) : y ≤ x := by
  have ta : a.toInt = x := ta
  have tb : b.toInt = y := tb
  rw [← ta, ← tb]; exact i_nlt h
theorem c_le (ta : Ti a x) (tb : Ti b y) (h : a ≤ b) : x ≤ y := by
  have ta : a.toInt = x := ta
  have tb : b.toInt = y := tb
  rw [← ta, ← tb]; exact i_le h
theorem c_nle (ta : Ti a x) (tb : Ti b y) (h : ¬ a ≤ b) : y < x := by
  have ta : a.toInt = x := ta
  have tb : b.toInt = y := tb
  rw [← ta, ← tb]; exact i_nle h
theorem c_eq (ta : Ti a x) (tb : Ti b y) (h : a = b) : x = y := by
  have ta : a.toInt = x := ta
  have tb : b.toInt = y := tb
  rw [← ta, ← tb]; exact i_eq h
theorem c_neq (ta : Ti a x) (tb : Ti b y) (h : ¬ a = b) : ¬ x = y := by
  have ta : a.toInt = x := ta
  have tb : b.toInt = y := tb
  rw [← ta, ← tb]; exact i_neq h
theorem cq_eq (ta : Ti a x) (tb : Ti b y) (h : x = y) : a = b := Int32.toInt_inj.mp ((show a.toInt = x from ta).trans (h.trans (show b.toInt = y from tb).symm))
theorem cq_neq (ta : Ti a x) (tb : Ti b y) (h : ¬ x = y) : ¬ a = b := fun z => h (c_eq ta tb z)
end TI
theorem t_un {a : Int32} {x y : Int} (h : Ti a x) (h2 : Ti a y) : x = y := (show _ = x from h).symm.trans h2
theorem vp_of {x : Int32} {z : Int} {n : Nat} (t : Ti x z) (h : 0 ≤ z) (h2 : z < (n : Int)) : vp_in x n := by
  have t : x.toInt = z := t
  rw [← t] at h h2
  exact vp_in_iff.mpr ⟨h, h2⟩
theorem nz_of {x : Int32} {z : Int} (t : Ti x z) (h : z ≠ 0) : ¬ x = 0 := fun q => h (by rw [q] at t; exact (show _ = z from t).symm)
theorem nar_ok {r : Int32} {z : Int} (t : Ti r z) (h : z = 0 ∨ z = 1) : r = vp_nar .boolean r := by
  have t : r.toInt = z := t
  rcases h with h | h
  · have e : r = 0 := Int32.toInt_inj.mp (t.trans (h.trans (by decide)))
    rw [e]; rfl
  · have e : r = 1 := Int32.toInt_inj.mp (t.trans (h.trans (by decide)))
    rw [e]; rfl
theorem e2_I {w w9 : Wd} {o i : Nat} {v : Int32} (e : w9 = sI w o i v) : w9.2.1 = w.2.1 := by rw [e]; rfl
theorem e2_J {w w9 : Wd} {o i : Nat} {v : Int64} (e : w9 = sJ w o i v) : w9.2.1 = w.2.1 := by rw [e]; rfl
theorem e2_B {w w9 : Wd} {o i : Nat} {v : Int64} (e : w9 = sB w o i v) : w9.2.1 = w.2.1 := by rw [e]; rfl
theorem e2_R {w w9 : Wd} {o : Nat} {v : Bool} (e : w9 = sR w o v) : w9.2.1 = w.2.1 := by rw [e]; rfl
theorem sA_at {w : Wd} {o i : Nat} {v : Int32} : (sA w o i v).2.1 o i = v := by rw [sA_eq, pk_us]
theorem sA_nx {w : Wd} {o i j : Nat} {v : Int32} (h : j ≠ i) : (sA w o i v).2.1 o j = w.2.1 o j := by rw [sA_eq, pk_un h]
theorem lit_m8 : Ti (-8 : Int32) (-8) := by unfold Ti; decide
theorem lit_m2 : Ti (-2 : Int32) (-2) := by unfold Ti; decide
theorem lit_m1 : Ti (-1 : Int32) (-1) := by unfold Ti; decide
theorem lit_0 : Ti (0 : Int32) (0) := by unfold Ti; decide
theorem lit_1 : Ti (1 : Int32) (1) := by unfold Ti; decide
theorem lit_2 : Ti (2 : Int32) (2) := by unfold Ti; decide
theorem lit_3 : Ti (3 : Int32) (3) := by unfold Ti; decide
theorem lit_4 : Ti (4 : Int32) (4) := by unfold Ti; decide
theorem lit_5 : Ti (5 : Int32) (5) := by unfold Ti; decide
theorem lit_6 : Ti (6 : Int32) (6) := by unfold Ti; decide
theorem lit_7 : Ti (7 : Int32) (7) := by unfold Ti; decide
theorem lit_8 : Ti (8 : Int32) (8) := by unfold Ti; decide
theorem lit_9 : Ti (9 : Int32) (9) := by unfold Ti; decide
theorem lit_10 : Ti (10 : Int32) (10) := by unfold Ti; decide
theorem lit_11 : Ti (11 : Int32) (11) := by unfold Ti; decide
theorem lit_12 : Ti (12 : Int32) (12) := by unfold Ti; decide
theorem lit_16 : Ti (16 : Int32) (16) := by unfold Ti; decide
theorem lit_17 : Ti (17 : Int32) (17) := by unfold Ti; decide
theorem lit_20 : Ti (20 : Int32) (20) := by unfold Ti; decide
theorem lit_21 : Ti (21 : Int32) (21) := by unfold Ti; decide
theorem lit_22 : Ti (22 : Int32) (22) := by unfold Ti; decide
theorem lit_23 : Ti (23 : Int32) (23) := by unfold Ti; decide
theorem lit_24 : Ti (24 : Int32) (24) := by unfold Ti; decide
theorem lit_30 : Ti (30 : Int32) (30) := by unfold Ti; decide
theorem lit_32 : Ti (32 : Int32) (32) := by unfold Ti; decide
theorem lit_37 : Ti (37 : Int32) (37) := by unfold Ti; decide
theorem lit_38 : Ti (38 : Int32) (38) := by unfold Ti; decide
theorem lit_39 : Ti (39 : Int32) (39) := by unfold Ti; decide
theorem lit_40 : Ti (40 : Int32) (40) := by unfold Ti; decide
theorem lit_41 : Ti (41 : Int32) (41) := by unfold Ti; decide
theorem lit_42 : Ti (42 : Int32) (42) := by unfold Ti; decide
theorem lit_43 : Ti (43 : Int32) (43) := by unfold Ti; decide
theorem lit_45 : Ti (45 : Int32) (45) := by unfold Ti; decide
theorem lit_47 : Ti (47 : Int32) (47) := by unfold Ti; decide
theorem lit_48 : Ti (48 : Int32) (48) := by unfold Ti; decide
theorem lit_57 : Ti (57 : Int32) (57) := by unfold Ti; decide
theorem lit_59 : Ti (59 : Int32) (59) := by unfold Ti; decide
theorem lit_60 : Ti (60 : Int32) (60) := by unfold Ti; decide
theorem lit_61 : Ti (61 : Int32) (61) := by unfold Ti; decide
theorem lit_62 : Ti (62 : Int32) (62) := by unfold Ti; decide
theorem lit_63 : Ti (63 : Int32) (63) := by unfold Ti; decide
theorem lit_71 : Ti (71 : Int32) (71) := by unfold Ti; decide
theorem lit_90 : Ti (90 : Int32) (90) := by unfold Ti; decide
theorem lit_96 : Ti (96 : Int32) (96) := by unfold Ti; decide
theorem lit_97 : Ti (97 : Int32) (97) := by unfold Ti; decide
theorem lit_99 : Ti (99 : Int32) (99) := by unfold Ti; decide
theorem lit_100 : Ti (100 : Int32) (100) := by unfold Ti; decide
theorem lit_104 : Ti (104 : Int32) (104) := by unfold Ti; decide
theorem lit_106 : Ti (106 : Int32) (106) := by unfold Ti; decide
theorem lit_108 : Ti (108 : Int32) (108) := by unfold Ti; decide
theorem lit_109 : Ti (109 : Int32) (109) := by unfold Ti; decide
theorem lit_110 : Ti (110 : Int32) (110) := by unfold Ti; decide
theorem lit_114 : Ti (114 : Int32) (114) := by unfold Ti; decide
theorem lit_116 : Ti (116 : Int32) (116) := by unfold Ti; decide
theorem lit_121 : Ti (121 : Int32) (121) := by unfold Ti; decide
theorem lit_122 : Ti (122 : Int32) (122) := by unfold Ti; decide
theorem lit_124 : Ti (124 : Int32) (124) := by unfold Ti; decide
theorem lit_126 : Ti (126 : Int32) (126) := by unfold Ti; decide
theorem lit_128 : Ti (128 : Int32) (128) := by unfold Ti; decide
theorem lit_137 : Ti (137 : Int32) (137) := by unfold Ti; decide
theorem lit_216 : Ti (216 : Int32) (216) := by unfold Ti; decide
theorem lit_217 : Ti (217 : Int32) (217) := by unfold Ti; decide
theorem lit_218 : Ti (218 : Int32) (218) := by unfold Ti; decide
theorem lit_219 : Ti (219 : Int32) (219) := by unfold Ti; decide
theorem lit_220 : Ti (220 : Int32) (220) := by unfold Ti; decide
theorem lit_221 : Ti (221 : Int32) (221) := by unfold Ti; decide
theorem lit_255 : Ti (255 : Int32) (255) := by unfold Ti; decide
theorem lit_560 : Ti (560 : Int32) (560) := by unfold Ti; decide
theorem lit_999 : Ti (999 : Int32) (999) := by unfold Ti; decide
theorem lit_1000 : Ti (1000 : Int32) (1000) := by unfold Ti; decide
theorem lit_1580 : Ti (1580 : Int32) (1580) := by unfold Ti; decide
theorem lit_1600 : Ti (1600 : Int32) (1600) := by unfold Ti; decide
theorem lit_1602 : Ti (1602 : Int32) (1602) := by unfold Ti; decide
theorem lit_3855 : Ti (3855 : Int32) (3855) := by unfold Ti; decide
theorem lit_4096 : Ti (4096 : Int32) (4096) := by unfold Ti; decide
theorem lit_4160 : Ti (4160 : Int32) (4160) := by unfold Ti; decide
theorem lit_8840 : Ti (8840 : Int32) (8840) := by unfold Ti; decide
theorem lit_12288 : Ti (12288 : Int32) (12288) := by unfold Ti; decide
theorem lit_13107 : Ti (13107 : Int32) (13107) := by unfold Ti; decide
theorem lit_16384 : Ti (16384 : Int32) (16384) := by unfold Ti; decide
theorem lit_21845 : Ti (21845 : Int32) (21845) := by unfold Ti; decide
theorem lit_100000 : Ti (100000 : Int32) (100000) := by unfold Ti; decide
theorem lit_1000000 : Ti (1000000 : Int32) (1000000) := by unfold Ti; decide
theorem lit_252645135 : Ti (252645135 : Int32) (252645135) := by unfold Ti; decide
theorem lit_858993459 : Ti (858993459 : Int32) (858993459) := by unfold Ti; decide
theorem lit_1431655765 : Ti (1431655765 : Int32) (1431655765) := by unfold Ti; decide
