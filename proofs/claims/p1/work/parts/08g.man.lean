/-! ===== the calls with longer loops ===== -/
/-- year: the model keeps all first -/
theorem keepAct_M {post : Wd → Prop} (h : ∀ w : Wd, (∀ i, w.2.1 341 i = wFM.2.1 341 i) → (∀ i, w.2.1 312 i = wFM.2.1 312 i) → (∀ o i, o ≠ 300 → w.1 o i = wFM.1 o i) → (∀ i, i ≠ 42 → i ≠ 43 → w.1 300 i = wFM.1 300 i) → post w) : pX11_keepAct post wFM := by
  refine ⟨fun _ => ?_, fun c => absurd c (by decide)⟩
  refine ⟨222, ?_⟩
  refine loop_up (fun n x w => pX11_keepAct_52 post n x w) (fun _ w => w.1 = wFM.1 ∧ (∀ a, a ≠ 342 → w.2.1 a = wFM.2.1 a)) 221 ?_ ?_ 221 0 wFM rfl ⟨rfl, fun _ _ => rfl⟩
  · intro n i w hi hI k
    obtain ⟨h1, h2⟩ := hI
    refine ⟨fun c => absurd c (nI_ge (b := 221) hi (by decide)), fun _ => ⟨vp_lt hi (by decide), ?_, ?_⟩⟩
    · rw [h1]
      show vp_in ((221 : Int32) * 0 + nI i) 9061
      rw [show (221 : Int32) * 0 + nI i = nI i by rw [show (221 : Int32) * 0 = nI 0 by decide, nI_add, Nat.zero_add]]
      exact vp_in_nI (by omega) (by decide)
    · intro w4 e4 x e5
      rw [e5, nI_1]
      refine k w4 ⟨by rw [e4]; exact h1, fun a ha => ?_⟩
      rw [e4, sA_ne ha]
      exact h2 a ha
  · intro n w hI
    obtain ⟨h1, h2⟩ := hI
    refine ⟨fun _ => ?_, fun c => absurd (by decide) c⟩
    intro w2 e2 w3 e3
    subst e2
    subst e3
    refine h _ (fun i => ?_) (fun i => ?_) (fun o i ho => ?_) (fun i hi hi2 => ?_)
    · show w.2.1 341 i = _
      rw [h2 341 (by decide)]
    · show w.2.1 312 i = _
      rw [h2 312 (by decide)]
    · rw [rI1, if_neg (fun z => ho z.1), rI1, if_neg (fun z => ho z.1), h1]
    · rw [rI1, if_neg (fun z => hi2 z.2), rI1, if_neg (fun z => hi z.2), h1]
