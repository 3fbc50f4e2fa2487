/-! the narrow one may stand in for the wide one -/
def prs : Nat → Tre → Nat → Nat → Nat → List Nat
  | 0, T, s, b, b' => if (T []).1 = 1 then [] else [cod s b b']
  | n + 1, T, s, b, b' =>
    if (T []).1 = 0 then [cod s b b']
    else if (T []).1 = 1 then []
    else if (T []).1 = 2 then cod s b b' :: prs n (tsub T 0) s (b + 1) (b' + 1)
    else if (T []).1 = 3 then cod s b b' :: prs n (tsub T 0) s (b + 1) (b' + 1)
    else if (T []).1 = 4 then cod s b b' :: (prs n (tsub T 2) (1 - s) (b' + 1) (b + 1) ++ prs n (tsub T 0) s (b + 1 + siz n true (tsub T 2)) (b' + 1 + siz n false (tsub T 2)))
    else if (T []).1 = 5 then cod s b b' :: (prs n (tsub T 2) s (b + 1) (b' + 1) ++ prs n (tsub T 0) s (b + 1 + siz n false (tsub T 2)) (b' + 1 + siz n true (tsub T 2)))
    else if (T []).1 = 6 ∨ (T []).1 = 7 then cod s b b' :: (prs n (tsub T 0) s (b + 1) (b' + 1) ++ prs n (tsub T 1) s (b + 1 + siz n false (tsub T 0)) (b' + 1 + siz n true (tsub T 0)))
    else cod s (b + 1) (b' + 1) :: prs n (tsub T 0) s (b + 2) (b' + 2)
def StepOK (P Q : PT) (X : Nat → Prop) (s u v : Nat) : Prop := okp (sel s P Q) (sel s Q P) u v ∧ ∀ c ∈ sucL (sel s P Q) (sel s Q P) s u v, X c
def CodOK (P Q : PT) (X : Nat → Prop) (c : Nat) : Prop := ∃ s u v, c = cod s u v ∧ s < 2 ∧ u < 60 ∧ v < 60 ∧ StepOK P Q X s u v
theorem sgm_self {F : PT} {i : Nat} {x : Int32} (h : pK F i = x) (hx : x = 0 ∨ x = 1 ∨ x = 2 ∨ x = 3 ∨ x = 4) : sgm F i = i := by
  rw [sgm, h]; rcases hx with rfl | rfl | rfl | rfl | rfl <;> rfl
theorem step_end {P Q : PT} {X : Nat → Prop} {s u v : Nat} (h1 : pK (sel s P Q) u = 0) (h2 : pK (sel s Q P) v = 0) (h3 : pS (sel s P Q) u = 0) (h4 : pS (sel s Q P) v = 0) : StepOK P Q X s u v := by
  refine ⟨⟨h1.trans h2.symm, h3.trans h4.symm, Or.inl h1⟩, fun c hc => ?_⟩
  unfold sucL at hc
  rw [if_pos h1] at hc; simp at hc
theorem step_12 {P Q : PT} {X : Nat → Prop} {s u v : Nat} {k o : Int32} (hk : k = 1 ∨ k = 2) (h1 : pK (sel s P Q) u = k) (h2 : pK (sel s Q P) v = k) (h3 : pS (sel s P Q) u = o) (h4 : pS (sel s Q P) v = o) (h5 : o = 40 → (k = 1 → X (cod (1 - s) (inn (sel s Q P) v) (inn (sel s P Q) u))) ∧ (k = 2 → X (cod s (inn (sel s P Q) u) (inn (sel s Q P) v)))) (h6 : X (cod s (stp (sel s P Q) u 0) (stp (sel s Q P) v 0))) : StepOK P Q X s u v := by
  refine ⟨⟨h1.trans h2.symm, h3.trans h4.symm, ?_⟩, fun c hc => ?_⟩
  · rcases hk with rfl | rfl
    · exact Or.inr (Or.inl h1)
    · exact Or.inr (Or.inr (Or.inl h1))
  · unfold sucL at hc
    rw [h1, h3, if_neg (by rcases hk with rfl | rfl <;> decide), if_pos (show k = 1 ∨ k = 2 from hk)] at hc
    rcases List.mem_append.mp hc with q | q
    · by_cases ho : o = 40
      · rw [if_pos ho, List.mem_singleton] at q
        obtain ⟨g1, g2⟩ := h5 ho
        rcases hk with rfl | rfl
        · rw [if_pos rfl] at q; subst q; exact g1 rfl
        · rw [if_neg (by decide)] at q; subst q; exact g2 rfl
      · rw [if_neg ho] at q; simp at q
    · rw [List.mem_singleton] at q; subst q; exact h6
theorem step_34 {P Q : PT} {X : Nat → Prop} {s u v : Nat} {k : Int32} (hk : k = 3 ∨ k = 4) (h1 : pK (sel s P Q) u = k) (h2 : pK (sel s Q P) v = k) (h3 : pS (sel s P Q) u = 0) (h4 : pS (sel s Q P) v = 0) (h5 : if k = 3 then nlab (sel s P Q) u = 2 ∧ nlab (sel s Q P) v = 3 else nlab (sel s P Q) u = 3 ∧ nlab (sel s Q P) v = 2) (h6 : ∀ j, j < 2 → X (cod s (stp (sel s P Q) u j) (stp (sel s Q P) v j))) : StepOK P Q X s u v := by
  have hm : min (nlab (sel s P Q) u) (nlab (sel s Q P) v) = 2 := by
    rcases hk with rfl | rfl
    · rw [if_pos rfl] at h5; omega
    · rw [if_neg (by decide)] at h5; omega
  refine ⟨⟨h1.trans h2.symm, h3.trans h4.symm, Or.inr (Or.inr (Or.inr ?_))⟩, fun c hc => ?_⟩
  · rw [h1]
    rcases hk with rfl | rfl
    · rw [if_pos rfl] at h5 ⊢; omega
    · rw [if_neg (by decide)] at h5 ⊢; omega
  · unfold sucL at hc
    rw [h1, h3, if_neg (by rcases hk with rfl | rfl <;> decide), if_neg (by decide), if_neg (by rcases hk with rfl | rfl <;> decide), hm, List.nil_append] at hc
    obtain ⟨j, hj, rfl⟩ := List.mem_map.mp hc
    exact h6 j (List.mem_range.mp hj)
theorem sel_flip {s : Nat} (hs : s < 2) (P Q : PT) : sel (1 - s) P Q = sel s Q P := by
  rcases (show s = 0 ∨ s = 1 by omega) with rfl | rfl <;> rfl
theorem twin {P Q : PT} (hP : TabOK P) (hQ : TabOK Q) (X : Nat → Prop) : ∀ (n : Nat) (k : Nat) (T : Tre) (s d d' b b' : Nat) (E E' : Nat → Nat), s < 2 → okT n k T → AtT (sel s P Q) n false k T d b E → AtT (sel s Q P) n true k T d' b' E' → b + siz n false T ≤ pcap (sel s P Q) → b' + siz n true T ≤ pcap (sel s Q P) → (∀ j, j < k → pK (sel s P Q) (E j) = 5 ∧ pK (sel s Q P) (E' j) = 5 ∧ E j + 1 < 60 ∧ E' j + 1 < 60 ∧ X (cod s (E j + 1) (E' j + 1))) → (∀ c ∈ prs n T s b b', X c) → X (cod s (sgm (sel s P Q) b) (sgm (sel s Q P) b')) ∧ ∀ c ∈ prs n T s b b', CodOK P Q X c
  | 0, k, T, s, d, d', b, b', E, E', hs, hok, hA, hB, hb, hb', hE, hX => by
    have hF : TabOK (sel s P Q) := by unfold sel; split <;> assumption
    have hG : TabOK (sel s Q P) := by unfold sel; split <;> assumption
    have c1 := hF.1
    have c2 := hG.1
    unfold siz at hb hb'
    unfold AtT at hA hB
    unfold prs at hX ⊢
    by_cases h1 : (T []).1 = 1
    · simp only [if_pos h1] at hA hB hX ⊢
      obtain ⟨q1, q2, q3, q4, q5⟩ := hE _ (hok.2 h1)
      refine ⟨?_, fun c hc => absurd hc List.not_mem_nil⟩
      rw [sgm, sgm, hA.1.1, hB.1.1, if_neg (by decide), if_pos rfl, if_neg (by decide), if_pos rfl, hA.2, hB.2, nI_clamp (by omega), nI_clamp (by omega)]
      exact q5
    · simp only [if_neg h1] at hA hB hX ⊢
      rw [sgm_self hA.1 (Or.inl rfl), sgm_self hB.1 (Or.inl rfl)]
      refine ⟨hX _ (List.mem_singleton_self _), fun c hc => ?_⟩
      rw [List.mem_singleton] at hc; subst hc
      exact ⟨s, b, b', rfl, hs, by omega, by omega, step_end hA.1 hB.1 hA.2.1 hB.2.1⟩
  | n + 1, k, T, s, d, d', b, b', E, E', hs, hok, hA, hB, hb, hb', hE, hX => by
    have hF : TabOK (sel s P Q) := by unfold sel; split <;> assumption
    have hG : TabOK (sel s Q P) := by unfold sel; split <;> assumption
    have c1 := hF.1
    have c2 := hG.1
    have p0 := siz_pos n false (tsub T 0)
    have p1 := siz_pos n true (tsub T 0)
    have p2 := siz_pos n false (tsub T 2)
    have p3 := siz_pos n true (tsub T 2)
    have p4 := siz_pos n false (tsub T 1)
    have p5 := siz_pos n true (tsub T 1)
    unfold okT at hok
    obtain ⟨hk4, o1, o2, o3, o4, o5, o6⟩ := hok
    unfold prs at hX ⊢
    by_cases h0 : (T []).1 = 0
    · rw [AtT_0 h0] at hA hB; rw [siz_0 h0] at hb hb'
      simp only [if_pos h0] at hX ⊢
      rw [sgm_self hA.1 (Or.inl rfl), sgm_self hB.1 (Or.inl rfl)]
      refine ⟨hX _ (List.mem_singleton_self _), fun c hc => ?_⟩
      rw [List.mem_singleton] at hc; subst hc
      exact ⟨s, b, b', rfl, hs, by omega, by omega, step_end hA.1 hB.1 hA.2.1 hB.2.1⟩
    simp only [if_neg h0] at hX ⊢
    by_cases h1 : (T []).1 = 1
    · rw [AtT_1 h1] at hA hB; rw [siz_1 h1] at hb hb'
      simp only [if_pos h1] at hX ⊢
      obtain ⟨q1, q2, q3, q4, q5⟩ := hE _ (o1 h1)
      refine ⟨?_, fun c hc => absurd hc List.not_mem_nil⟩
      rw [sgm, sgm, hA.1.1, hB.1.1, if_neg (by decide), if_pos rfl, if_neg (by decide), if_pos rfl, hA.2, hB.2, nI_clamp (by omega), nI_clamp (by omega)]
      exact q5
    simp only [if_neg h1] at hX ⊢
    by_cases h2 : (T []).1 = 2
    · rw [AtT_2 h2] at hA hB; rw [siz_2 h2] at hb hb'
      simp only [if_pos h2] at hX ⊢
      obtain ⟨a1, a2, a3⟩ := hA
      obtain ⟨b1, b2, b3⟩ := hB
      obtain ⟨r1, r2⟩ := twin hP hQ X n k (tsub T 0) s d d' (b + 1) (b' + 1) E E' hs (o3 (Or.inl h2)) a3 b3 (by omega) (by omega) hE (fun c hc => hX c (List.mem_cons_of_mem _ hc))
      rw [sgm_self a1.1 (Or.inr (Or.inl rfl)), sgm_self b1.1 (Or.inr (Or.inl rfl))]
      refine ⟨hX _ List.mem_cons_self, fun c hc => ?_⟩
      rcases List.mem_cons.mp hc with rfl | hc
      · refine ⟨s, b, b', rfl, hs, by omega, by omega, step_12 (Or.inl rfl) a1.1 b1.1 a1.2.1 b1.2.1 (fun q => ?_) ?_⟩
        · rcases o2 (Or.inl h2) with e | e <;> (rw [e] at q; exact absurd q (by decide))
        · rw [hF.stp_ (by omega) (by omega) (by omega) a2, hG.stp_ (by omega) (by omega) (by omega) b2]; exact r1
      · exact r2 c hc
    simp only [if_neg h2] at hX ⊢
    by_cases h3 : (T []).1 = 3
    · rw [AtT_3 h3] at hA hB; rw [siz_3 h3] at hb hb'
      simp only [if_pos h3] at hX ⊢
      obtain ⟨a1, a2, a3⟩ := hA
      obtain ⟨b1, b2, b3⟩ := hB
      obtain ⟨r1, r2⟩ := twin hP hQ X n k (tsub T 0) s d d' (b + 1) (b' + 1) E E' hs (o3 (Or.inr (Or.inl h3))) a3 b3 (by omega) (by omega) hE (fun c hc => hX c (List.mem_cons_of_mem _ hc))
      rw [sgm_self a1.1 (Or.inr (Or.inr (Or.inl rfl))), sgm_self b1.1 (Or.inr (Or.inr (Or.inl rfl)))]
      refine ⟨hX _ List.mem_cons_self, fun c hc => ?_⟩
      rcases List.mem_cons.mp hc with rfl | hc
      · refine ⟨s, b, b', rfl, hs, by omega, by omega, step_12 (Or.inr rfl) a1.1 b1.1 a1.2.1 b1.2.1 (fun q => ?_) ?_⟩
        · rcases o2 (Or.inr h3) with e | e <;> (rw [e] at q; exact absurd q (by decide))
        · rw [hF.stp_ (by omega) (by omega) (by omega) a2, hG.stp_ (by omega) (by omega) (by omega) b2]; exact r1
      · exact r2 c hc
    simp only [if_neg h3] at hX ⊢
    by_cases h4 : (T []).1 = 4
    · rw [AtT_4 h4] at hA hB; rw [siz_4 h4] at hb hb'
      simp only [if_pos h4] at hX ⊢
      simp only [Bool.not_false, Bool.not_true] at hA hB hb hb'
      obtain ⟨a1, a2, a3, a4, a5⟩ := hA
      obtain ⟨b1, b2, b3, b4, b5⟩ := hB
      obtain ⟨r1, r2⟩ := twin hP hQ X n k (tsub T 0) s d d' _ _ E E' hs (o3 (Or.inr (Or.inr (Or.inl h4)))) a5 b5 (by omega) (by omega) hE (fun c hc => hX c (List.mem_cons_of_mem _ (List.mem_append_right _ hc)))
      have f1 := sel_flip hs P Q
      have f2 := sel_flip hs Q P
      obtain ⟨t1, t2⟩ := twin hP hQ X n 0 (tsub T 2) (1 - s) (d' + 1) (d + 1) (b' + 1) (b + 1) E' E (by omega) (o5 (Or.inl h4)) (by rw [f1]; exact b3) (by rw [f2]; exact a3) (by rw [f1]; omega) (by rw [f2]; omega) (fun j hj => absurd hj (by omega)) (fun c hc => hX c (List.mem_cons_of_mem _ (List.mem_append_left _ hc)))
      rw [f1, f2] at t1
      rw [sgm_self a1.1 (Or.inr (Or.inl rfl)), sgm_self b1.1 (Or.inr (Or.inl rfl))]
      refine ⟨hX _ List.mem_cons_self, fun c hc => ?_⟩
      rcases List.mem_cons.mp hc with rfl | hc
      · refine ⟨s, b, b', rfl, hs, by omega, by omega, step_12 (Or.inl rfl) a1.1 b1.1 a1.2.1 b1.2.1 (fun q => ⟨fun _ => ?_, fun q => absurd q (by decide)⟩) ?_⟩
        · rw [hF.inn_ (by omega) (by omega) a2, hG.inn_ (by omega) (by omega) b2]; exact t1
        · rw [hF.stp_ (by omega) (by omega) (by omega) a4, hG.stp_ (by omega) (by omega) (by omega) b4]; exact r1
      · rcases List.mem_append.mp hc with hc | hc
        · exact t2 c hc
        · exact r2 c hc
    simp only [if_neg h4] at hX ⊢
    by_cases h5 : (T []).1 = 5
    · rw [AtT_5 h5] at hA hB; rw [siz_5 h5] at hb hb'
      simp only [if_pos h5] at hX ⊢
      obtain ⟨a1, a2, a3, a4, a5⟩ := hA
      obtain ⟨b1, b2, b3, b4, b5⟩ := hB
      obtain ⟨r1, r2⟩ := twin hP hQ X n k (tsub T 0) s d d' _ _ E E' hs (o3 (Or.inr (Or.inr (Or.inr (Or.inl h5))))) a5 b5 (by omega) (by omega) hE (fun c hc => hX c (List.mem_cons_of_mem _ (List.mem_append_right _ hc)))
      obtain ⟨t1, t2⟩ := twin hP hQ X n 0 (tsub T 2) s (d + 1) (d' + 1) (b + 1) (b' + 1) E E' hs (o5 (Or.inr h5)) a3 b3 (by omega) (by omega) (fun j hj => absurd hj (by omega)) (fun c hc => hX c (List.mem_cons_of_mem _ (List.mem_append_left _ hc)))
      rw [sgm_self a1.1 (Or.inr (Or.inr (Or.inl rfl))), sgm_self b1.1 (Or.inr (Or.inr (Or.inl rfl)))]
      refine ⟨hX _ List.mem_cons_self, fun c hc => ?_⟩
      rcases List.mem_cons.mp hc with rfl | hc
      · refine ⟨s, b, b', rfl, hs, by omega, by omega, step_12 (Or.inr rfl) a1.1 b1.1 a1.2.1 b1.2.1 (fun q => ⟨fun q => absurd q (by decide), fun _ => ?_⟩) ?_⟩
        · rw [hF.inn_ (by omega) (by omega) a2, hG.inn_ (by omega) (by omega) b2]; exact t1
        · rw [hF.stp_ (by omega) (by omega) (by omega) a4, hG.stp_ (by omega) (by omega) (by omega) b4]; exact r1
      · rcases List.mem_append.mp hc with hc | hc
        · exact t2 c hc
        · exact r2 c hc
    simp only [if_neg h5] at hX ⊢
    by_cases h6 : (T []).1 = 6
    · rw [AtT_6 h6] at hA hB; rw [siz_6 h6] at hb hb'
      simp only [if_pos (show (T []).1 = 6 ∨ (T []).1 = 7 from Or.inl h6)] at hX ⊢
      simp only [if_true, Bool.false_eq_true, if_false] at hA hB hb hb'
      obtain ⟨a1, a2, a3, a4, a5, -⟩ := hA
      obtain ⟨b1, b2, b3, b4, b5, -⟩ := hB
      obtain ⟨r1, r2⟩ := twin hP hQ X n k (tsub T 0) s d d' _ _ E E' hs (o3 (Or.inr (Or.inr (Or.inr (Or.inr (Or.inl h6)))))) a3 b3 (by omega) (by omega) hE (fun c hc => hX c (List.mem_cons_of_mem _ (List.mem_append_left _ hc)))
      obtain ⟨t1, t2⟩ := twin hP hQ X n k (tsub T 1) s d d' _ _ E E' hs (o4 (Or.inl h6)) a5 b5 (by omega) (by omega) hE (fun c hc => hX c (List.mem_cons_of_mem _ (List.mem_append_right _ hc)))
      rw [sgm_self a1.1 (Or.inr (Or.inr (Or.inr (Or.inl rfl)))), sgm_self b1.1 (Or.inr (Or.inr (Or.inr (Or.inl rfl))))]
      refine ⟨hX _ List.mem_cons_self, fun c hc => ?_⟩
      rcases List.mem_cons.mp hc with rfl | hc
      · refine ⟨s, b, b', rfl, hs, by omega, by omega, step_34 (Or.inl rfl) a1.1 b1.1 a1.2.1 b1.2.1 ?_ (fun j hj => ?_)⟩
        · rw [if_pos rfl]; exact ⟨nlab_of (Or.inl rfl) a1.2.2.1, nlab_of (Or.inr rfl) b1.2.2.1⟩
        · rcases (show j = 0 ∨ j = 1 by omega) with rfl | rfl
          · rw [hF.stp_ (by omega) (by omega) (by omega) a2, hG.stp_ (by omega) (by omega) (by omega) b2]; exact r1
          · rw [hF.stp_ (by omega) (by omega) (by omega) a4, hG.stp_ (by omega) (by omega) (by omega) b4]; exact t1
      · rcases List.mem_append.mp hc with hc | hc
        · exact r2 c hc
        · exact t2 c hc
    by_cases h7 : (T []).1 = 7
    · rw [AtT_7 h7] at hA hB; rw [siz_7 h7] at hb hb'
      simp only [if_pos (show (T []).1 = 6 ∨ (T []).1 = 7 from Or.inr h7)] at hX ⊢
      simp only [if_true, Bool.false_eq_true, if_false] at hA hB hb hb'
      obtain ⟨a1, a2, a3, a4, a5, -⟩ := hA
      obtain ⟨b1, b2, b3, b4, b5, -⟩ := hB
      obtain ⟨r1, r2⟩ := twin hP hQ X n k (tsub T 0) s d d' _ _ E E' hs (o3 (Or.inr (Or.inr (Or.inr (Or.inr (Or.inr h7)))))) a3 b3 (by omega) (by omega) hE (fun c hc => hX c (List.mem_cons_of_mem _ (List.mem_append_left _ hc)))
      obtain ⟨t1, t2⟩ := twin hP hQ X n k (tsub T 1) s d d' _ _ E E' hs (o4 (Or.inr h7)) a5 b5 (by omega) (by omega) hE (fun c hc => hX c (List.mem_cons_of_mem _ (List.mem_append_right _ hc)))
      rw [sgm_self a1.1 (Or.inr (Or.inr (Or.inr (Or.inr rfl)))), sgm_self b1.1 (Or.inr (Or.inr (Or.inr (Or.inr rfl))))]
      refine ⟨hX _ List.mem_cons_self, fun c hc => ?_⟩
      rcases List.mem_cons.mp hc with rfl | hc
      · refine ⟨s, b, b', rfl, hs, by omega, by omega, step_34 (Or.inr rfl) a1.1 b1.1 a1.2.1 b1.2.1 ?_ (fun j hj => ?_)⟩
        · rw [if_neg (by decide)]; exact ⟨nlab_of (Or.inr rfl) a1.2.2.1, nlab_of (Or.inl rfl) b1.2.2.1⟩
        · rcases (show j = 0 ∨ j = 1 by omega) with rfl | rfl
          · rw [hF.stp_ (by omega) (by omega) (by omega) a2, hG.stp_ (by omega) (by omega) (by omega) b2]; exact r1
          · rw [hF.stp_ (by omega) (by omega) (by omega) a4, hG.stp_ (by omega) (by omega) (by omega) b4]; exact t1
      · rcases List.mem_append.mp hc with hc | hc
        · exact r2 c hc
        · exact t2 c hc
    have h8 : 8 ≤ (T []).1 := by omega
    rw [AtT_8 h8] at hA hB; rw [siz_8 h8] at hb hb'
    simp only [if_neg (show ¬ ((T []).1 = 6 ∨ (T []).1 = 7) by omega)] at hX ⊢
    obtain ⟨a1, a2, a3, a4, a5⟩ := hA
    obtain ⟨b1, b2, b3, b4, b5⟩ := hB
    have hx0 := hX _ List.mem_cons_self
    obtain ⟨r1, r2⟩ := twin hP hQ X n (k + 1) (tsub T 0) s d d' _ _ _ _ hs (o6 h8).2 a5 b5 (by omega) (by omega) (fun j hj => by
      by_cases hjk : j = k
      · subst hjk; simp only [if_true]; exact ⟨a1.1, b1.1, by omega, by omega, hx0⟩
      · simp only [if_neg hjk]; exact hE j (by omega)) (fun c hc => hX c (List.mem_cons_of_mem _ hc))
    rw [show sgm (sel s P Q) b = b + 1 by rw [sgm, if_pos a1.1], show sgm (sel s Q P) b' = b' + 1 by rw [sgm, if_pos b1.1]]
    refine ⟨hx0, fun c hc => ?_⟩
    rcases List.mem_cons.mp hc with rfl | hc
    · refine ⟨s, b + 1, b' + 1, rfl, hs, by omega, by omega, step_12 (k := if (T []).2 = 0 then 1 else 2) (by split; exact Or.inl rfl; exact Or.inr rfl) a3.1 b3.1 a3.2.1 b3.2.1 (fun q => ?_) ?_⟩
      · split at q <;> exact absurd q (by decide)
      · rw [hF.stp_ (u := b + 1) (r := 0) (by omega) (by omega) (by omega) a4, hG.stp_ (u := b' + 1) (r := 0) (by omega) (by omega) (by omega) b4]; exact r1
    · exact r2 c hc
theorem made_fit {n : Nat} {T : Tre} {P Q : PT} (hP : MadeP n false T P) (hQ : MadeP n true T Q) : Fit P Q (sgm P 0) (sgm Q 0) := by
  have tP := hP.tab
  have tQ := hQ.tab
  obtain ⟨r1, r2⟩ := twin tP tQ (fun c => c ∈ prs n T 0 0 0) n 0 T 0 0 0 0 0 _ _ (by omega) hP.2.2.2.1 hP.2.2.2.2.1 hQ.2.2.2.2.1 (by rw [Nat.zero_add]; exact Nat.le_of_eq hP.1.symm) (by rw [Nat.zero_add]; exact Nat.le_of_eq hQ.1.symm) (fun j hj => absurd hj (by omega)) (fun c hc => hc)
  refine ⟨fun c => c ∈ prs n T 0 0 0, r1, fun s u v hs hu hv hc => ?_⟩
  obtain ⟨s', u', v', e, hs', hu', hv', st⟩ := r2 _ hc
  have c1 : pcap (sel s P Q) ≤ 60 := by unfold sel; split; exact tP.1; exact tQ.1
  have c2 : pcap (sel s Q P) ≤ 60 := by unfold sel; split; exact tQ.1; exact tP.1
  have q1 := cod_dec s u v (by omega) (by omega)
  have q2 := cod_dec s' u' v' hu' hv'
  rw [e] at q1
  obtain rfl : s = s' := by omega
  obtain rfl : u = u' := by omega
  obtain rfl : v = v' := by omega
  exact st
theorem fit_kind {P Q : PT} {x y : Nat} (hx : x < pcap P) (hy : y < pcap Q) (h : Fit P Q x y) : pK P x = pK Q y := by
  obtain ⟨R, r0, hR⟩ := h
  exact (hR 0 x y (by omega) hx hy r0).1.1
