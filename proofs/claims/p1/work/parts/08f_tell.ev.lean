theorem zz_tell {f : Nat → Int64}  (h : zX10_tell (fun r _ => zX11_tell (fun r2 _ => decide (r2 = r))  vFM)  vFX = true) : pX10_tell (fun r _ => pX11_tell (fun r2 _ => r2 = r)  wFM)  (wFX f) := by
  have e1 : vFX = prj (wFX f) := rfl
  rw [e1] at h
  refine tX10_tell (pb := fun r _ => zX11_tell (fun r2 _ => decide (r2 = r))  vFM) ?_ h
  intro r w h2
  have h2 : zX11_tell (fun r2 _ => decide (r2 = r))  vFM = true := h2
  have e2 : vFM = prj wFM := rfl
  rw [e2] at h2
  exact tX11_tell (pb := fun r2 _ => decide (r2 = r)) (fun r2 w2 h3 => of_decide_eq_true h3) h2
set_option maxHeartbeats 1000000 in
set_option maxRecDepth 100000 in
theorem ev_tell {f : Nat → Int64}  : pX10_tell (fun r _ => pX11_tell (fun r2 _ => r2 = r)  wFM)  (wFX f) := by
  exact zz_tell (by decide +kernel)
