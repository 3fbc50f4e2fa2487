/-- the STATES' depths go together, and no STATE is a LOOP -/
def stK (k : Int32) : Prop := k = 0 ∨ k = 1 ∨ k = 2 ∨ k = 3 ∨ k = 4
def wfD (Q : PT) : Prop := ∀ u, u < pcap Q → (pK Q u = 1 ∨ pK Q u = 2 → (pDp Q (stp Q u 0) = 0 ↔ pDp Q u = 0) ∧ stK (pK Q (stp Q u 0))) ∧ (∀ j, j < nlab Q u → (pDp Q (stp Q u j) = 0 ↔ pDp Q u = 0) ∧ stK (pK Q (stp Q u j))) ∧ (pS Q u = 40 → ¬ pDp Q (inn Q u) = 0)
theorem turnK_34 {k : Int32} : (turnK k = 3 ∨ turnK k = 4) ↔ (k = 3 ∨ k = 4) := by
  unfold turnK
  by_cases h1 : k = 1
  · subst h1; decide
  · by_cases h2 : k = 2
    · subst h2; decide
    · by_cases h3 : k = 3
      · subst h3; decide
      · by_cases h4 : k = 4
        · subst h4; decide
        · rw [if_neg h1, if_neg h2, if_neg h3, if_neg h4]
theorem turnK_12 {k : Int32} : (turnK k = 1 ∨ turnK k = 2) ↔ (k = 1 ∨ k = 2) := by
  unfold turnK
  by_cases h1 : k = 1
  · subst h1; decide
  · by_cases h2 : k = 2
    · subst h2; decide
    · by_cases h3 : k = 3
      · subst h3; decide
      · by_cases h4 : k = 4
        · subst h4; decide
        · rw [if_neg h1, if_neg h2, if_neg h3, if_neg h4]
theorem TurnD.wf {Q T : PT} (h : TurnD Q T) (hw : wfP Q) : wfP T := by
  obtain ⟨a, b, c, d, e, f⟩ := hw
  obtain ⟨t1, t2, t3, t4⟩ := h
  unfold wfP
  rw [t1]
  refine ⟨a, b, fun i hi => ?_, fun i hi => ?_, fun i hi hs => ?_, fun i hi => ?_⟩
  · obtain ⟨j, hj, q⟩ := c i hi; exact ⟨j, hj, (t2 i hi).2.2.2.2.trans q⟩
  · obtain ⟨n, hn, q⟩ := d i hi; exact ⟨n, hn, (t2 i hi).2.1.trans q⟩
  · have q := e i hi ((t2 i hi).1.symm.trans hs)
    rw [t4 i hi]
    split
    · exact turnK_12.mpr q
    · exact q
  · rw [t4 i hi, (t2 i hi).2.1]
    split
    · rw [turnK_34]; exact f i hi
    · exact f i hi
theorem TurnD.deep {Q T : PT} (h : TurnD Q T) {v : Nat} (hv : v < pcap Q) (hd : ¬ pDp Q v = 0) : pK T v = pK Q v := by rw [h.2.2.2 v hv, if_neg hd]
