/-! what the law asks of two made PROTOCOLS and their DUALS -/
theorem pair_dual {n n2 : Nat} {w w2 : Bool} {T T2 : Tre} {P P' Q Q' : PT} (hP : MadeP n w T P) (dP : TurnD P P') (hQ : MadeP n2 w2 T2 Q) (dQ : TurnD Q Q') : Fit Q' P' (sN Q' 0) (sN P' 0) ↔ Fit P Q (sN P 0) (sN Q 0) := by
  rw [dQ.esN, dP.esN, hP.beg.1, hQ.beg.1]
  exact Fit_dual_iff dP dQ hP.tab.wfP_ hQ.tab.wfP_ hP.tab.wfD_ hQ.tab.wfD_ hP.beg.2.1 hQ.beg.2.1 hP.beg.2.2.1 hQ.beg.2.2.1
theorem pair_meet {n n2 : Nat} {w w2 : Bool} {T T2 : Tre} {P Q Q' : PT} (hP : MadeP n w T P) (hQ : MadeP n2 w2 T2 Q) (dQ : TurnD Q Q') (h : Fit P Q (sN P 0) (sN Q 0)) : ∃ W : Nat → Nat → Prop, MeetW P Q' W ∧ W (sN P 0) (sN Q' 0) := by
  rw [dQ.esN]
  rw [hP.beg.1, hQ.beg.1] at h ⊢
  exact Fit_meet dQ hP.tab.wfP_ hQ.tab.wfP_ hP.tab.wfD_ hQ.tab.wfD_ hP.beg.2.1 hQ.beg.2.1 hP.beg.2.2.2 hQ.beg.2.2.1 h
theorem pair_fit {n : Nat} {T : Tre} {P Q : PT} (hP : MadeP n false T P) (hQ : MadeP n true T Q) : Fit P Q (sN P 0) (sN Q 0) := by
  rw [hP.beg.1, hQ.beg.1]
  exact made_fit hP hQ
theorem send_kind {n : Nat} {w : Bool} {T : Tre} {P : PT} (hP : MadeP (n + 1) w T P) (h2 : (T []).1 = 2) : pK P (sN P 0) = 1 := by
  have ha := hP.2.2.2.2.1
  rw [AtT_2 h2] at ha
  rw [hP.beg.1, sgm_self ha.1.1 (Or.inr (Or.inl rfl))]
  exact ha.1.1
theorem pair_kind {n n2 : Nat} {w w2 : Bool} {T T2 : Tre} {P Q : PT} (hP : MadeP (n + 1) w T P) (h2 : (T []).1 = 2) (hQ : MadeP n2 w2 T2 Q) (h : Fit P Q (sN P 0) (sN Q 0)) : pK Q (sN Q 0) = 1 := by
  have hk := send_kind hP h2
  have e := fit_kind (x := sN P 0) (y := sN Q 0) (by rw [hP.beg.1]; exact hP.beg.2.1) (by rw [hQ.beg.1]; exact hQ.beg.2.1) h
  rw [← e]; exact hk
/-- the five made trees' measures -/
theorem five_ok {cn : Nat → Nat} (w2 : Bool) : (okT 3 0 (mkT cn 3 0 0).1 ∧ ∀ w, siz 3 w (mkT cn 3 0 0).1 ≤ 22) ∧ (okT 2 0 (mkT cn 2 0 24).1 ∧ ∀ w, siz 2 w (mkT cn 2 0 24).1 ≤ 10) ∧ (okT 4 0 (tN (2, 105) (mkT cn 3 0 0).1 tEnd tEnd) ∧ ∀ w, siz 4 w (tN (2, 105) (mkT cn 3 0 0).1 tEnd tEnd) ≤ 23) :=
  ⟨mk_ok cn 3 3 0 0 (by decide) (by decide), mk_ok cn 2 2 0 24 (by decide) (by decide), okT_23 (Or.inl rfl) (Or.inl rfl) (by decide) (mk_ok cn 3 3 0 0 (by decide) (by decide))⟩
theorem five_txt {cn : Nat → Nat} (w : Bool) : txt 4 w 0 (tN (2, 105) (mkT cn 3 0 0).1 tEnd tEnd) = kT 0 ++ txt 3 w 0 (mkT cn 3 0 0).1 := by
  rw [txt_2 rfl]; rfl
