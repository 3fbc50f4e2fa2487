theorem CmpS.kept {z : Nat → ClassId} {h h' : Nat → Option va_E} {cm : Nat} (q : CmpS z h cm) (hf : ∀ q, cm ≤ q → q < cm + 3 → h' q = h q) : CmpS z h' cm := by
  obtain ⟨a, b, c1, c2, c3, c4⟩ := q
  exact ⟨a, b, c1, (hf _ (by omega) (by omega)).trans c2, (hf _ (by omega) (by omega)).trans c3, (hf _ (by omega) (by omega)).trans c4⟩
theorem HinL.kept {z : Nat → ClassId} {h h' : Nat → Option va_E} {hn cm : Nat} {len : Int32} {Ls : List Nat} (q : HinL z h hn cm len Ls) (hf : ∀ q, hn ≤ q → q < hn + 6 → h' q = h q) : HinL z h' hn cm len Ls := by
  obtain ⟨a, b, c, d, e, q0, q1, q2, q3, q4, q5, r⟩ := q
  exact ⟨a, b, c, d, e, (hf _ (by omega) (by omega)).trans q0, (hf _ (by omega) (by omega)).trans q1, (hf _ (by omega) (by omega)).trans q2, (hf _ (by omega) (by omega)).trans q3, (hf _ (by omega) (by omega)).trans q4, (hf _ (by omega) (by omega)).trans q5, r⟩
def HinS (z : Nat → ClassId) (h : Nat → Option va_E) (hn cm : Nat) : Prop := ∃ (len fnd : Int32) (tx pr fm sp : Nat → Int32) (seen : Nat → Int64), h hn = some (.inr (5, [.ref (hn + 1), .int len, .ref cm, .ref (hn + 2), .ref (hn + 3), .ref (hn + 4), .ref (hn + 5), .int fnd])) ∧ h (hn + 1) = some (.inl (z 1, 3601, .inl tx)) ∧ h (hn + 2) = some (.inl (z 2, 60, .inr (.inl seen))) ∧ h (hn + 3) = some (.inl (z 1, 3600, .inl pr)) ∧ h (hn + 4) = some (.inl (z 1, 3600, .inl fm)) ∧ h (hn + 5) = some (.inl (z 1, 3600, .inl sp))
theorem HinL.S {z : Nat → ClassId} {h : Nat → Option va_E} {hn cm : Nat} {len : Int32} {Ls : List Nat} (q : HinL z h hn cm len Ls) : HinS z h hn cm := by
  obtain ⟨a, b, c, d, e, q0, q1, q2, q3, q4, q5, -⟩ := q
  exact ⟨len, _, a, b, c, d, e, q0, q1, q2, q3, q4, q5⟩
def okw (P Q : PT) (u v : Nat) : Prop := plh P Q u v = 0 ∧ (pS P u = 40 → (pK P u = 1 → Fit Q P (inn Q v) (inn P u)) ∧ (¬ pK P u = 1 → Fit P Q (inn P u) (inn Q v)))
def FitW (P Q : PT) (W : Nat → Prop) : Prop := ∀ u v, u < pcap P → v < pcap Q → W (60 * u + v) → okw P Q u v ∧ ∀ c ∈ fol P Q u v, W c
theorem plh_0 {P Q : PT} {u v : Nat} : plh P Q u v = 0 ↔ pK P u = pK Q v ∧ pS P u = pS Q v ∧ (pK P u = 3 ∨ pK P u = 4 → ¬ lfit (pK P u) (pLb P u) (pLb Q v) = 0) := by
  unfold plh
  by_cases h1 : pK P u = pK Q v
  · by_cases h2 : pS P u = pS Q v
    · by_cases h3 : pK P u = 3 ∨ pK P u = 4
      · by_cases h4 : lfit (pK P u) (pLb P u) (pLb Q v) = 0
        · rw [if_pos h1, if_pos h2, if_pos h3, if_pos h4]
          exact ⟨fun q => absurd q (by decide), fun q => absurd h4 (q.2.2 h3)⟩
        · rw [if_pos h1, if_pos h2, if_pos h3, if_neg h4]
          exact ⟨fun _ => ⟨h1, h2, fun _ => h4⟩, fun _ => rfl⟩
      · rw [if_pos h1, if_pos h2, if_neg h3]
        exact ⟨fun _ => ⟨h1, h2, fun q => absurd q h3⟩, fun _ => rfl⟩
    · rw [if_pos h1, if_neg h2]
      exact ⟨fun q => absurd q (by decide), fun q => absurd q.2.1 h2⟩
  · rw [if_neg h1]
    exact ⟨fun q => absurd q (by decide), fun q => absurd q.1 h1⟩
theorem lfit_01 (k x y : Int32) : lfit k x y = 0 ∨ lfit k x y = 1 := by
  unfold lfit; split <;> split <;> simp
theorem okp_plh {P Q : PT} (hP : wfP P) (hQ : wfP Q) {u v : Nat} (hu : u < pcap P) (hv : v < pcap Q) : okp P Q u v ↔ plh P Q u v = 0 := by
  obtain ⟨a1, a2⟩ := nlab_eq hP hu
  obtain ⟨b1, b2⟩ := nlab_eq hQ hv
  rw [plh_0, okp]
  refine ⟨fun ⟨k, s, r⟩ => ⟨k, s, fun h34 hl => ?_⟩, fun ⟨k, s, r⟩ => ⟨k, s, ?_⟩⟩
  · rcases r with r | r | r | r
    · rw [r] at h34; revert h34; decide
    · rw [r] at h34; revert h34; decide
    · rw [r] at h34; revert h34; decide
    · rw [a1, b1] at hl
      have := (lfit_eq a2 b2).mpr r
      rw [this] at hl
      exact absurd hl (by decide)
  · by_cases h34 : pK P u = 3 ∨ pK P u = 4
    · refine Or.inr (Or.inr (Or.inr ((lfit_eq (k := pK P u) a2 b2).mp ?_)))
      have := r h34
      rw [a1, b1] at this
      exact (lfit_01 _ _ _).resolve_left this
    · have e1 : nlab P u = 0 := by
        have := (hP.2.2.2.2.2 u hu).2 h34
        rw [nlab, this]; decide
      have e2 : nlab Q v = 0 := by
        have := (hQ.2.2.2.2.2 v hv).2 (by rw [← k]; exact h34)
        rw [nlab, this]; decide
      refine Or.inr (Or.inr (Or.inr ?_))
      rw [e1, e2]; split <;> exact Nat.le_refl 0
theorem FitR_swap {P Q : PT} {R : Nat → Prop} (hP : wfP P) (hQ : wfP Q) (h : FitR P Q R) : FitR Q P (fun c => ∃ s u v, c = cod s u v ∧ s < 2 ∧ u < 60 ∧ v < 60 ∧ R (cod (1 - s) u v)) := by
  intro s u v hs hu hv hc
  have g1 : pcap (sel s Q P) ≤ 60 := by unfold sel; split; exact hQ.1; exact hP.1
  have g2 : pcap (sel s P Q) ≤ 60 := by unfold sel; split; exact hP.1; exact hQ.1
  obtain ⟨s', u', v', e, hs', hu', hv', hr⟩ := hc
  have q1 := cod_dec s u v (by omega) (by omega)
  have q2 := cod_dec s' u' v' hu' hv'
  rw [e] at q1
  obtain rfl : s = s' := by omega
  obtain rfl : u = u' := by omega
  obtain rfl : v = v' := by omega
  have e1 : sel (1 - s) P Q = sel s Q P := by rcases (show s = 0 ∨ s = 1 by omega) with rfl | rfl <;> rfl
  have e2 : sel (1 - s) Q P = sel s P Q := by rcases (show s = 0 ∨ s = 1 by omega) with rfl | rfl <;> rfl
  have hh := h (1 - s) u v (by omega) (by rw [e1]; exact hu) (by rw [e2]; exact hv) hr
  rw [e1, e2] at hh
  have w1 : wfP (sel s Q P) := by unfold sel; split; exact hQ; exact hP
  have w2 : wfP (sel s P Q) := by unfold sel; split; exact hP; exact hQ
  have L1 : ∀ x, sN (sel s Q P) x < 60 := fun x => Nat.lt_of_lt_of_le (sN_eq w1 x).2 w1.1
  have L2 : ∀ x, sN (sel s P Q) x < 60 := fun x => Nat.lt_of_lt_of_le (sN_eq w2 x).2 w2.1
  have L3 : ∀ a b, stp (sel s Q P) a b < 60 := fun a b => Nat.lt_of_lt_of_le (stp_eq w1 a b).2 w1.1
  have L4 : ∀ a b, stp (sel s P Q) a b < 60 := fun a b => Nat.lt_of_lt_of_le (stp_eq w2 a b).2 w2.1
  refine ⟨hh.1, fun c hc => ?_⟩
  have hm := hh.2
  unfold sucL at hc hm
  by_cases hk0 : pK (sel s Q P) u = 0
  · rw [if_pos hk0] at hc; simp at hc
  · rw [if_neg hk0] at hc hm
    rcases List.mem_append.mp hc with q | q
    · by_cases hs4 : pS (sel s Q P) u = 40
      · rw [if_pos hs4] at q hm
        by_cases hk1 : pK (sel s Q P) u = 1
        · rw [if_pos hk1] at q hm
          simp at q; subst q
          exact ⟨1 - s, _, _, rfl, by omega, L2 _, L1 _, hm _ (List.mem_append_left _ (List.mem_singleton_self _))⟩
        · rw [if_neg hk1] at q hm
          simp at q; subst q
          exact ⟨s, _, _, rfl, hs, L1 _, L2 _, hm _ (List.mem_append_left _ (List.mem_singleton_self _))⟩
      · rw [if_neg hs4] at q; simp at q
    · by_cases hk : pK (sel s Q P) u = 1 ∨ pK (sel s Q P) u = 2
      · rw [if_pos hk] at q hm
        simp at q; subst q
        exact ⟨s, _, _, rfl, hs, L3 _ _, L4 _ _, hm _ (List.mem_append_right _ (List.mem_singleton_self _))⟩
      · rw [if_neg hk] at q hm
        obtain ⟨j, hj, rfl⟩ := List.mem_map.mp q
        exact ⟨s, _, _, rfl, hs, L3 _ _, L4 _ _, hm _ (List.mem_append_right _ (List.mem_map.mpr ⟨j, hj, rfl⟩))⟩
/-- two ways to say it-/
theorem fit_iff {P Q : PT} (hP : wfP P) (hQ : wfP Q) {x y : Nat} (hx : x < pcap P) (hy : y < pcap Q) : (∃ W : Nat → Prop, W (60 * x + y) ∧ FitW P Q W) ↔ Fit P Q x y := by
  have h60 := hP.1
  have g60 := hQ.1
  have Li : ∀ {T : PT}, wfP T → ∀ u, inn T u < 60 := fun w u => Nat.lt_of_lt_of_le (sN_eq w _).2 w.1
  constructor
  · rintro ⟨W, w0, hW⟩
    refine ⟨fun c => (∃ u v, c = cod 0 u v ∧ u < pcap P ∧ v < pcap Q ∧ W (60 * u + v)) ∨ ∃ R, FitR P Q R ∧ R c, Or.inl ⟨x, y, rfl, hx, hy, w0⟩, ?_⟩
    intro s u v hs hu hv hc
    rcases hc with ⟨u', v', e, hu', hv', hw⟩ | ⟨R, hR, hr⟩
    · have g1 : pcap (sel s P Q) ≤ 60 := by unfold sel; split; exact hP.1; exact hQ.1
      have g2 : pcap (sel s Q P) ≤ 60 := by unfold sel; split; exact hQ.1; exact hP.1
      have q1 := cod_dec s u v (by omega) (by omega)
      have q2 := cod_dec 0 u' v' (by omega) (by omega)
      rw [e] at q1
      obtain rfl : s = 0 := by omega
      obtain rfl : u = u' := by omega
      obtain rfl : v = v' := by omega
      obtain ⟨⟨p0, pb⟩, pf⟩ := hW u v hu' hv' hw
      show okp P Q u v ∧ ∀ c ∈ sucL P Q 0 u v, _
      refine ⟨(okp_plh hP hQ hu' hv').mpr p0, fun c hc => ?_⟩
      unfold sucL at hc
      by_cases hk0 : pK P u = 0
      · rw [if_pos hk0] at hc; simp at hc
      · rw [if_neg hk0] at hc
        rcases List.mem_append.mp hc with q | q
        · by_cases hs4 : pS P u = 40
          · rw [if_pos hs4] at q
            obtain ⟨pb1, pb2⟩ := pb hs4
            by_cases hk1 : pK P u = 1
            · rw [if_pos hk1] at q
              simp at q; subst q
              obtain ⟨R, r0, hR⟩ := pb1 hk1
              exact Or.inr ⟨_, FitR_swap hQ hP hR, 1, _, _, rfl, by omega, Li hQ _, Li hP _, r0⟩
            · rw [if_neg hk1] at q
              simp at q; subst q
              obtain ⟨R, r0, hR⟩ := pb2 hk1
              exact Or.inr ⟨R, hR, r0⟩
          · rw [if_neg hs4] at q; simp at q
        · by_cases hk : pK P u = 1 ∨ pK P u = 2
          · rw [if_pos hk] at q
            simp at q; subst q
            exact Or.inl ⟨_, _, rfl, (stp_eq hP _ _).2, (stp_eq hQ _ _).2, pf _ (by rw [fol, if_pos hk]; exact List.mem_singleton_self _)⟩
          · rw [if_neg hk] at q
            obtain ⟨j, hj, rfl⟩ := List.mem_map.mp q
            refine Or.inl ⟨_, _, rfl, (stp_eq hP _ _).2, (stp_eq hQ _ _).2, pf _ ?_⟩
            rw [fol, if_neg hk]
            by_cases h34 : pK P u = 3 ∨ pK P u = 4
            · rw [if_pos h34]; exact List.mem_map.mpr ⟨j, hj, rfl⟩
            · have e1 : nlab P u = 0 := by
                have := (hP.2.2.2.2.2 u hu').2 h34
                rw [nlab, this]; decide
              rw [e1] at hj; simp at hj
    · obtain ⟨a, b⟩ := hR s u v hs hu hv hr
      exact ⟨a, fun c hc => Or.inr ⟨R, hR, b c hc⟩⟩
  · rintro ⟨R, r0, hR⟩
    refine ⟨fun c => ∃ u v, c = 60 * u + v ∧ u < pcap P ∧ v < pcap Q ∧ R (cod 0 u v), ⟨x, y, rfl, hx, hy, r0⟩, ?_⟩
    intro u v hu hv ⟨u', v', e, hu', hv', hr⟩
    have m1 := mod_pair u v (by omega)
    have m2 := mod_pair u' v' (by omega)
    rw [e] at m1
    obtain rfl : u = u' := by omega
    obtain rfl : v = v' := by omega
    obtain ⟨ok, hs⟩ : okp P Q u v ∧ ∀ c ∈ sucL P Q 0 u v, R c := hR 0 u v (by omega) hu hv hr
    unfold sucL at hs
    refine ⟨⟨(okp_plh hP hQ hu hv).mp ok, fun hs4 => ?_⟩, fun c hc => ?_⟩
    · have hkk := hP.2.2.2.2.1 u hu hs4
      have hk0 : ¬ pK P u = 0 := by rcases hkk with q | q <;> (rw [q]; decide)
      rw [if_neg hk0, if_pos hs4] at hs
      refine ⟨fun hk1 => ?_, fun hk1 => ?_⟩
      · rw [if_pos hk1] at hs
        exact ⟨_, ⟨0, _, _, rfl, by omega, Li hQ _, Li hP _, hs _ (List.mem_append_left _ (List.mem_singleton_self _))⟩, FitR_swap hP hQ hR⟩
      · rw [if_neg hk1] at hs
        exact ⟨R, hs _ (List.mem_append_left _ (List.mem_singleton_self _)), hR⟩
    · unfold fol at hc
      by_cases hk : pK P u = 1 ∨ pK P u = 2
      · have hk0 : ¬ pK P u = 0 := by rcases hk with q | q <;> (rw [q]; decide)
        rw [if_pos hk] at hc
        rw [if_neg hk0] at hs
        rw [if_pos hk] at hs
        simp at hc; subst hc
        exact ⟨_, _, rfl, (stp_eq hP _ _).2, (stp_eq hQ _ _).2, hs _ (List.mem_append_right _ (List.mem_singleton_self _))⟩
      · rw [if_neg hk] at hc hs
        by_cases h34 : pK P u = 3 ∨ pK P u = 4
        · have hk0 : ¬ pK P u = 0 := by rcases h34 with q | q <;> (rw [q]; decide)
          rw [if_pos h34] at hc
          rw [if_neg hk0] at hs
          obtain ⟨j, hj, rfl⟩ := List.mem_map.mp hc
          exact ⟨_, _, rfl, (stp_eq hP _ _).2, (stp_eq hQ _ _).2, hs _ (List.mem_append_right _ (List.mem_map.mpr ⟨j, hj, rfl⟩))⟩
        · rw [if_neg h34] at hc; simp at hc
