theorem FitR_turn {P Q T : PT} {R : Nat → Prop} (hT : TurnD Q T) (hP : wfP P) (hQ : wfP Q) (hD : wfD Q) (h : FitR P Q R) : FitR P T (fun c => R c ∧ ∃ s u v, c = cod s u v ∧ s < 2 ∧ u < 60 ∧ v < 60 ∧ ¬ pDp Q (if s = 0 then v else u) = 0) := by
  have hP1 := hP.1
  have hQ1 := hQ.1
  have A1 : ∀ x, sN P x < 60 := fun x => Nat.lt_of_lt_of_le (sN_eq hP x).2 hP.1
  have A2 : ∀ x, sN Q x < 60 := fun x => Nat.lt_of_lt_of_le (sN_eq hQ x).2 hQ.1
  have A3 : ∀ x y, stp P x y < 60 := fun x y => Nat.lt_of_lt_of_le (stp_eq hP x y).2 hP.1
  have A4 : ∀ x y, stp Q x y < 60 := fun x y => Nat.lt_of_lt_of_le (stp_eq hQ x y).2 hQ.1
  intro s u v hs hu hv hc
  obtain ⟨hr, s', u', v', e, hs', hu', hv', hd⟩ := hc
  rcases (show s = 0 ∨ s = 1 by omega) with rfl | rfl
  · have hu2 : u < pcap P := hu
    have hv2 : v < pcap Q := by have q : v < pcap T := hv; rw [hT.1] at q; exact q
    have q1 := cod_dec 0 u v (by omega) (by omega)
    have q2 := cod_dec s' u' v' hu' hv'
    rw [e] at q1
    obtain rfl : 0 = s' := by omega
    obtain rfl : u = u' := by omega
    obtain rfl : v = v' := by omega
    rw [if_pos rfl] at hd
    have hh : okp P Q u v ∧ ∀ c ∈ sucL P Q 0 u v, R c := h 0 u v hs hu2 hv2 hr
    have k1 := hT.deep hv2 hd
    have k2 := (hT.2.1 v hv2).1
    have k3 := hT.enlab hv2
    have e1 : sucL P T 0 u v = sucL P Q 0 u v := by unfold sucL; rw [hT.einn, hT.estp, k3]; simp only [hT.estp]
    show okp P T u v ∧ ∀ c ∈ sucL P T 0 u v, _
    rw [e1]
    refine ⟨?_, fun c hc => ⟨hh.2 c hc, suc_deep hD rfl hv2 hd hh.1.1 hh.1.2.1 A1 A2 A3 A4 hc⟩⟩
    have := hh.1
    unfold okp at this ⊢
    rw [k1, k2, k3]; exact this
  · have hv2 : v < pcap P := hv
    have hu2 : u < pcap Q := by have q : u < pcap T := hu; rw [hT.1] at q; exact q
    have q1 := cod_dec 1 u v (by omega) (by omega)
    have q2 := cod_dec s' u' v' hu' hv'
    rw [e] at q1
    obtain rfl : 1 = s' := by omega
    obtain rfl : u = u' := by omega
    obtain rfl : v = v' := by omega
    rw [if_neg (by decide)] at hd
    have hh : okp Q P u v ∧ ∀ c ∈ sucL Q P 1 u v, R c := h 1 u v hs hu2 hv2 hr
    have k1 := hT.deep hu2 hd
    have k2 := (hT.2.1 u hu2).1
    have k3 := hT.enlab hu2
    have e1 : sucL T P 1 u v = sucL Q P 1 u v := by unfold sucL; rw [k1, k2, hT.einn, hT.estp, k3]; simp only [hT.estp]
    show okp T P u v ∧ ∀ c ∈ sucL T P 1 u v, _
    rw [e1]
    refine ⟨?_, fun c hc => ⟨hh.2 c hc, suc_deep1 hD hu2 hd A1 A2 A3 A4 hc⟩⟩
    have := hh.1
    unfold okp at this ⊢
    rw [k1, k2, k3]; exact this
