theorem suc_deep {P Q : PT} {s u v : Nat} {c : Nat} (hQ : wfD Q) (hs : s = 0) (hv : v < pcap Q) (hd : ¬ pDp Q v = 0) (hk : pK P u = pK Q v) (hS : pS P u = pS Q v) (hP60 : ∀ x, sN P x < 60) (hQ60 : ∀ x, sN Q x < 60) (hP61 : ∀ x y, stp P x y < 60) (hQ61 : ∀ x y, stp Q x y < 60) (hc : c ∈ sucL P Q s u v) : ∃ s u v, c = cod s u v ∧ s < 2 ∧ u < 60 ∧ v < 60 ∧ ¬ pDp Q (if s = 0 then v else u) = 0 := by
  subst hs
  obtain ⟨d1, d2, d3⟩ := hQ v hv
  unfold sucL at hc
  by_cases hk0 : pK P u = 0
  · rw [if_pos hk0] at hc; simp at hc
  · rw [if_neg hk0] at hc
    rcases List.mem_append.mp hc with q | q
    · by_cases hs4 : pS P u = 40
      · rw [if_pos hs4] at q
        by_cases hk1 : pK P u = 1
        · rw [if_pos hk1] at q
          simp at q; subst q
          exact ⟨1, _, _, rfl, by omega, hQ60 _, hP60 _, d3 (hS ▸ hs4)⟩
        · rw [if_neg hk1] at q
          simp at q; subst q
          exact ⟨0, _, _, rfl, by omega, hP60 _, hQ60 _, d3 (hS ▸ hs4)⟩
      · rw [if_neg hs4] at q; simp at q
    · by_cases hk2 : pK P u = 1 ∨ pK P u = 2
      · rw [if_pos hk2] at q
        simp at q; subst q
        exact ⟨0, _, _, rfl, by omega, hP61 _ _, hQ61 _ _, fun z9 => hd ((d1 (hk ▸ hk2)).1.mp z9)⟩
      · rw [if_neg hk2] at q
        obtain ⟨j, hj, rfl⟩ := List.mem_map.mp q
        have hj2 := List.mem_range.mp hj
        exact ⟨0, _, _, rfl, by omega, hP61 _ _, hQ61 _ _, fun z9 => hd ((d2 j (by omega)).1.mp z9)⟩
theorem suc_deep1 {P Q : PT} {u v : Nat} {c : Nat} (hQ : wfD Q) (hu : u < pcap Q) (hd : ¬ pDp Q u = 0) (hP60 : ∀ x, sN P x < 60) (hQ60 : ∀ x, sN Q x < 60) (hP61 : ∀ x y, stp P x y < 60) (hQ61 : ∀ x y, stp Q x y < 60) (hc : c ∈ sucL Q P 1 u v) : ∃ s u v, c = cod s u v ∧ s < 2 ∧ u < 60 ∧ v < 60 ∧ ¬ pDp Q (if s = 0 then v else u) = 0 := by
  obtain ⟨d1, d2, d3⟩ := hQ u hu
  unfold sucL at hc
  by_cases hk0 : pK Q u = 0
  · rw [if_pos hk0] at hc; simp at hc
  · rw [if_neg hk0] at hc
    rcases List.mem_append.mp hc with q | q
    · by_cases hs4 : pS Q u = 40
      · rw [if_pos hs4] at q
        by_cases hk1 : pK Q u = 1
        · rw [if_pos hk1] at q
          simp at q; subst q
          exact ⟨0, _, _, rfl, by omega, hP60 _, hQ60 _, d3 hs4⟩
        · rw [if_neg hk1] at q
          simp at q; subst q
          exact ⟨1, _, _, rfl, by omega, hQ60 _, hP60 _, d3 hs4⟩
      · rw [if_neg hs4] at q; simp at q
    · by_cases hk2 : pK Q u = 1 ∨ pK Q u = 2
      · rw [if_pos hk2] at q
        simp at q; subst q
        exact ⟨1, _, _, rfl, by omega, hQ61 _ _, hP61 _ _, fun z9 => hd ((d1 hk2).1.mp z9)⟩
      · rw [if_neg hk2] at q
        obtain ⟨j, hj, rfl⟩ := List.mem_map.mp q
        have hj2 := List.mem_range.mp hj
        exact ⟨1, _, _, rfl, by omega, hQ61 _ _, hP61 _ _, fun z9 => hd ((d2 j (by omega)).1.mp z9)⟩
