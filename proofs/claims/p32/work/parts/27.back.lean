theorem turnK_turnK (k : Int32) : turnK (turnK k) = k := by
  by_cases h1 : k = 1
  · subst h1; decide
  · by_cases h2 : k = 2
    · subst h2; decide
    · by_cases h3 : k = 3
      · subst h3; decide
      · by_cases h4 : k = 4
        · subst h4; decide
        · have e : turnK k = k := by unfold turnK; rw [if_neg h1, if_neg h2, if_neg h3, if_neg h4]
          rw [e, e]
theorem TurnD.back {Q T : PT} (h : TurnD Q T) : TurnD T Q := by
  obtain ⟨t1, t2, t3, t4⟩ := h
  refine ⟨t1.symm, fun i hi => ?_, fun i hi => ?_, fun i hi => ?_⟩
  · rw [t1] at hi
    obtain ⟨a, b, c, d, e⟩ := t2 i hi
    exact ⟨a.symm, b.symm, c.symm, d.symm, e.symm⟩
  · rw [t1] at hi; exact (t3 i hi).symm
  · rw [t1] at hi
    rw [(t2 i hi).2.2.1, t4 i hi]
    by_cases hd : pDp Q i = 0
    · rw [if_pos hd, if_pos hd, turnK_turnK]
    · rw [if_neg hd, if_neg hd]
theorem stK_turn {k : Int32} (h : stK k) : stK (turnK k) := by
  rcases h with rfl | rfl | rfl | rfl | rfl
  · exact Or.inl (by decide)
  · exact Or.inr (Or.inr (Or.inl (by decide)))
  · exact Or.inr (Or.inl (by decide))
  · exact Or.inr (Or.inr (Or.inr (Or.inr (by decide))))
  · exact Or.inr (Or.inr (Or.inr (Or.inl (by decide))))
theorem TurnD.stK {Q T : PT} (h : TurnD Q T) {u : Nat} (hu : u < pcap Q) (q : stK (pK Q u)) : stK (pK T u) := by
  rw [h.2.2.2 u hu]
  by_cases hd : pDp Q u = 0
  · rw [if_pos hd]; exact stK_turn q
  · rw [if_neg hd]; exact q
theorem TurnD.deeps {Q T : PT} (h : TurnD Q T) (hQ : wfP Q) (hD : wfD Q) : wfD T := by
  intro u hu
  rw [h.1] at hu
  obtain ⟨d1, d2, d3⟩ := hD u hu
  have L1 : ∀ j, stp Q u j < pcap Q := fun j => (stp_eq hQ u j).2
  have e1 : ∀ j, pDp T (stp Q u j) = pDp Q (stp Q u j) := fun j => (h.2.1 _ (L1 j)).2.2.1
  have e2 := (h.2.1 u hu).2.2.1
  refine ⟨fun k => ?_, fun j hj => ?_, fun s4 => ?_⟩
  · have k12 : pK Q u = 1 ∨ pK Q u = 2 := by
      rw [h.2.2.2 u hu] at k
      by_cases hd : pDp Q u = 0
      · rw [if_pos hd] at k; exact turnK_12.mp k
      · rw [if_neg hd] at k; exact k
    rw [h.estp, e1, e2]
    exact ⟨(d1 k12).1, h.stK (L1 0) (d1 k12).2⟩
  · rw [h.enlab hu] at hj
    rw [h.estp, e1, e2]
    exact ⟨(d2 j hj).1, h.stK (L1 j) (d2 j hj).2⟩
  · rw [(h.2.1 u hu).1] at s4
    have i1 : inn Q u < pcap Q := (sN_eq hQ _).2
    rw [h.einn, (h.2.1 _ i1).2.2.1]
    exact d3 s4
theorem Fit_dual_iff {P Q TP TQ : PT} (hTP : TurnD P TP) (hTQ : TurnD Q TQ) (hP : wfP P) (hQ : wfP Q) (hDP : wfD P) (hDQ : wfD Q) {x y : Nat} (hx : x < pcap P) (hy : y < pcap Q) (hdx : pDp P x = 0) (hdy : pDp Q y = 0) : Fit TQ TP y x ↔ Fit P Q x y := by
  refine ⟨fun h => ?_, Fit_dual hTP hTQ hP hQ hDP hDQ hx hy hdx hdy⟩
  exact Fit_dual hTQ.back hTP.back (hTQ.wf hQ) (hTP.wf hP) (hTQ.deeps hQ hDQ) (hTP.deeps hP hDP) (by rw [hTQ.1]; exact hy) (by rw [hTP.1]; exact hx) ((hTQ.2.1 y hy).2.2.1.trans hdy) ((hTP.2.1 x hx).2.2.1.trans hdx) h
