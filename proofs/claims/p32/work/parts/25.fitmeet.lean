theorem Fit_meet {P Q T : PT} (hT : TurnD Q T) (hP : wfP P) (hQ : wfP Q) (hDP : wfD P) (hD : wfD Q) {x y : Nat} (hx : x < pcap P) (hy : y < pcap Q) (hkx : stK (pK P x)) (hdy : pDp Q y = 0) (h : Fit P Q x y) : ∃ W : Nat → Nat → Prop, MeetW P T W ∧ W x y := by
  obtain ⟨W, w0, hW⟩ := (fit_iff hP hQ hx hy).mpr h
  refine ⟨fun u v => W (60 * u + v) ∧ u < pcap P ∧ v < pcap Q ∧ pDp Q v = 0 ∧ stK (pK P u), ?_, w0, hx, hy, hdy, hkx⟩
  rintro u v ⟨w, hu, hv, hd, hk⟩
  obtain ⟨⟨pl, br⟩, fl⟩ := hW u v hu hv w
  obtain ⟨kk, ss, ll⟩ := plh_0.mp pl
  obtain ⟨dP1, dP2, -⟩ := hDP u hu
  obtain ⟨dQ1, dQ2, dQ3⟩ := hD v hv
  have kT : pK T v = turnK (pK Q v) := by rw [hT.2.2.2 v hv, if_pos hd]
  have sT := (hT.2.1 v hv).1
  have nT := hT.enlab hv
  have vT : v < pcap T := by rw [hT.1]; exact hv
  have b1 : inn P u < 60 := Nat.lt_of_lt_of_le (sN_eq hP _).2 hP.1
  have b2 : inn Q v < 60 := Nat.lt_of_lt_of_le (sN_eq hQ _).2 hQ.1
  obtain ⟨a1, a2⟩ := nlab_eq hP hu
  obtain ⟨c1, c2⟩ := nlab_eq hQ hv
  refine ⟨hu, vT, ?_⟩
  rw [hT.einn, nT, sT]
  simp only [hT.estp]
  rcases hk with k | k | k | k | k
  · exact Or.inl ⟨k, by rw [kT, ← kk, k]; decide⟩
  · have f0 := fl (60 * stp P u 0 + stp Q v 0) (by unfold fol; rw [if_pos (Or.inl k)]; exact List.mem_singleton_self _)
    exact Or.inr (Or.inl ⟨k, by rw [kT, ← kk, k]; decide, ss, fun s4 => Fit_turnL hT hP hQ hD b2 b1 (dQ3 s4) ((br (ss.trans s4)).1 k), f0, (stp_eq hP u 0).2, (stp_eq hQ v 0).2, (dQ1 (by rw [← kk]; exact Or.inl k)).1.mpr hd, (dP1 (Or.inl k)).2⟩)
  · have f0 := fl (60 * stp P u 0 + stp Q v 0) (by unfold fol; rw [if_pos (Or.inr k)]; exact List.mem_singleton_self _)
    exact Or.inr (Or.inr (Or.inl ⟨k, by rw [kT, ← kk, k]; decide, ss.symm, fun s4 => Fit_turnR hT hP hQ hD b1 b2 (dQ3 (ss.symm.trans s4)) ((br s4).2 (by rw [k]; decide)), f0, (stp_eq hP u 0).2, (stp_eq hQ v 0).2, (dQ1 (by rw [← kk]; exact Or.inr k)).1.mpr hd, (dP1 (Or.inr k)).2⟩))
  · have le := (lfit_eq (k := pK P u) a2 c2).mp (by rw [← a1, ← c1]; exact (lfit_01 _ _ _).resolve_left (ll (Or.inl k)))
    rw [k, if_pos rfl] at le
    refine Or.inr (Or.inr (Or.inr (Or.inl ⟨k, by rw [kT, ← kk, k]; decide, le, fun j hj => ?_⟩)))
    have f0 := fl (60 * stp P u j + stp Q v j) (by unfold fol; rw [if_neg (by rw [k]; decide), if_pos (Or.inl k)]; exact List.mem_map.mpr ⟨j, List.mem_range.mpr (by omega), rfl⟩)
    exact ⟨f0, (stp_eq hP u j).2, (stp_eq hQ v j).2, (dQ2 j (by omega)).1.mpr hd, (dP2 j hj).2⟩
  · have le := (lfit_eq (k := pK P u) a2 c2).mp (by rw [← a1, ← c1]; exact (lfit_01 _ _ _).resolve_left (ll (Or.inr k)))
    rw [k, if_neg (by decide)] at le
    refine Or.inr (Or.inr (Or.inr (Or.inr ⟨k, by rw [kT, ← kk, k]; decide, le, fun j hj => ?_⟩)))
    have f0 := fl (60 * stp P u j + stp Q v j) (by unfold fol; rw [if_neg (by rw [k]; decide), if_pos (Or.inr k)]; exact List.mem_map.mpr ⟨j, List.mem_range.mpr (by omega), rfl⟩)
    exact ⟨f0, (stp_eq hP u j).2, (stp_eq hQ v j).2, (dQ2 j hj).1.mpr hd, (dP2 j (by omega)).2⟩
