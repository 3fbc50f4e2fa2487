theorem Fit_turnR {P Q T : PT} {x y : Nat} (hT : TurnD Q T) (hP : wfP P) (hQ : wfP Q) (hD : wfD Q) (hy : y < 60) (hx : x < 60) (hd : ¬ pDp Q x = 0) (h : Fit P Q y x) : Fit P T y x := by
  obtain ⟨R, h0, hR⟩ := h
  exact ⟨_, ⟨h0, 0, y, x, rfl, by omega, hy, hx, hd⟩, FitR_turn hT hP hQ hD hR⟩
theorem Fit_turnL {P Q T : PT} {x y : Nat} (hT : TurnD Q T) (hP : wfP P) (hQ : wfP Q) (hD : wfD Q) (hx : x < 60) (hy : y < 60) (hd : ¬ pDp Q x = 0) (h : Fit Q P x y) : Fit T P x y := by
  obtain ⟨R, h0, hR⟩ := h
  exact ⟨_, ⟨0, x, y, rfl, by omega, hx, hy, ⟨⟨1, x, y, rfl, by omega, hx, hy, h0⟩, 1, x, y, rfl, by omega, hx, hy, hd⟩⟩, FitR_swap hP (hT.wf hQ) (FitR_turn hT hP hQ hD (FitR_swap hQ hP hR))⟩
