theorem Fit_dual {P Q TP TQ : PT} (hTP : TurnD P TP) (hTQ : TurnD Q TQ) (hP : wfP P) (hQ : wfP Q) (hDP : wfD P) (hDQ : wfD Q) {x y : Nat} (hx : x < pcap P) (hy : y < pcap Q) (hdx : pDp P x = 0) (hdy : pDp Q y = 0) (h : Fit P Q x y) : Fit TQ TP y x := by
  have hP1 := hP.1
  have hQ1 := hQ.1
  have wTP := hTP.wf hP
  have wTQ := hTQ.wf hQ
  obtain ⟨W, w0, hW⟩ := (fit_iff hP hQ hx hy).mpr h
  refine (fit_iff wTQ wTP (by rw [hTQ.1]; exact hy) (by rw [hTP.1]; exact hx)).mp ⟨fun c => ∃ u v, c = 60 * v + u ∧ u < pcap P ∧ v < pcap Q ∧ W (60 * u + v) ∧ pDp P u = 0 ∧ pDp Q v = 0, ⟨x, y, rfl, hx, hy, w0, hdx, hdy⟩, ?_⟩
  intro v u hv hu hc
  obtain ⟨u', v', e, hu', hv', w, d1, d2⟩ := hc
  have hu2 : u < pcap P := by rw [hTP.1] at hu; exact hu
  obtain rfl : u = u' := by omega
  obtain rfl : v = v' := by omega
  obtain ⟨⟨pl, br⟩, fl⟩ := hW u v hu' hv' w
  obtain ⟨kk, ss, ll⟩ := plh_0.mp pl
  obtain ⟨p1, p2, p3⟩ := hDP u hu'
  obtain ⟨q1, q2, q3⟩ := hDQ v hv'
  have kP : pK TP u = turnK (pK P u) := by rw [hTP.2.2.2 u hu', if_pos d1]
  have kQ : pK TQ v = turnK (pK P u) := by rw [hTQ.2.2.2 v hv', if_pos d2, kk]
  have sP := (hTP.2.1 u hu').1
  have sQ := (hTQ.2.1 v hv').1
  have lP := (hTP.2.1 u hu').2.1
  have lQ := (hTQ.2.1 v hv').2.1
  have b1 : inn P u < 60 := Nat.lt_of_lt_of_le (sN_eq hP _).2 hP.1
  have b2 : inn Q v < 60 := Nat.lt_of_lt_of_le (sN_eq hQ _).2 hQ.1
  obtain ⟨a1, a2⟩ := nlab_eq hP hu'
  obtain ⟨c1, c2⟩ := nlab_eq hQ hv'
  have L1 : ∀ j, stp P u j < pcap P := fun j => (stp_eq hP u j).2
  have L2 : ∀ j, stp Q v j < pcap Q := fun j => (stp_eq hQ v j).2
  refine ⟨⟨plh_0.mpr ⟨kQ.trans kP.symm, by rw [sQ, sP, ss], fun k34 => ?_⟩, fun s4 => ?_⟩, fun c hc => ?_⟩
  · rw [kQ, turnK_34] at k34
    rw [kQ, lQ, lP, a1, c1]
    have le := (lfit_eq (k := pK P u) a2 c2).mp (by rw [← a1, ← c1]; exact (lfit_01 _ _ _).resolve_left (ll k34))
    have g : lfit (turnK (pK P u)) (nI (2 ^ nlab Q v - 1)) (nI (2 ^ nlab P u - 1)) = 1 := (lfit_eq c2 a2).mpr (by
      rcases k34 with k | k
      · rw [k] at le ⊢; rw [if_pos rfl] at le; rw [if_neg (by decide)]; exact le
      · rw [k] at le ⊢; rw [if_neg (by decide)] at le; rw [if_pos (by decide)]; exact le)
    rw [g]; decide
  · rw [hTQ.einn, hTP.einn, kQ]
    have s4' : pS P u = 40 := by rw [ss, ← sQ]; exact s4
    have n1 := p3 s4'
    have n2 := q3 (ss.symm.trans s4')
    rcases hP.2.2.2.2.1 u hu' s4' with k | k
    · refine ⟨fun q9 => absurd q9 (by rw [k]; decide), fun _ => ?_⟩
      exact Fit_turnR hTP wTQ hP hDP b2 b1 n1 (Fit_turnL hTQ hP hQ hDQ b2 b1 n2 ((br s4').1 k))
    · refine ⟨fun _ => ?_, fun q9 => absurd (by rw [k]; decide) q9⟩
      exact Fit_turnR hTQ wTP hQ hDQ b1 b2 n2 (Fit_turnL hTP hQ hP hDP b1 b2 n1 ((br s4').2 (by rw [k]; decide)))
  · unfold fol at hc
    simp only [kQ, turnK_12, turnK_34, hTQ.enlab hv', hTP.enlab hu', hTQ.estp, hTP.estp] at hc
    unfold fol at fl
    by_cases k12 : pK P u = 1 ∨ pK P u = 2
    · rw [if_pos k12] at hc fl
      rw [List.mem_singleton] at hc
      exact ⟨stp P u 0, stp Q v 0, hc, L1 0, L2 0, fl _ (List.mem_singleton_self _), (p1 k12).1.mpr d1, (q1 (by rw [← kk]; exact k12)).1.mpr d2⟩
    · rw [if_neg k12] at hc fl
      by_cases k34 : pK P u = 3 ∨ pK P u = 4
      · rw [if_pos k34] at hc fl
        obtain ⟨j, hj, rfl⟩ := List.mem_map.mp hc
        have hj2 := List.mem_range.mp hj
        exact ⟨stp P u j, stp Q v j, rfl, L1 j, L2 j, fl _ (List.mem_map.mpr ⟨j, List.mem_range.mpr (by omega), rfl⟩), (p2 j (by omega)).1.mpr d1, (q2 j (by omega)).1.mpr d2⟩
      · rw [if_neg k34] at hc
        simp at hc
