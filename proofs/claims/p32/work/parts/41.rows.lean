/-! a table's rows, one by one, as a made text leaves them -/
def LoopAt (F : PT) (N l : Nat) (dd : Int32) : Prop := l + 1 < N ∧ pK F l = 5 ∧ pBr F (6 * l) = nI (l + 1) ∧ (pK F (l + 1) = 1 ∨ pK F (l + 1) = 2) ∧ pDp F (l + 1) = dd
def RowOK (F : PT) (N i : Nat) : Prop := (pK F i = 0 ∧ pS F i = 0 ∧ pLb F i = 0) ∨ ((pK F i = 1 ∨ pK F i = 2) ∧ pLb F i = 0 ∧ (∃ j, j < N ∧ pBr F (6 * i) = nI j ∧ pDp F j = pDp F i) ∧ (pS F i = 105 ∨ pS F i = 98 ∨ (pS F i = 40 ∧ ∃ j c, j < N ∧ c < 1000 ∧ pIn F i = nI j ∧ pDp F j = nI (c + 1)))) ∨ ((pK F i = 3 ∨ pK F i = 4) ∧ pS F i = 0 ∧ ∃ q, (q = 2 ∨ q = 3) ∧ pLb F i = nI (2 ^ q - 1) ∧ ∀ r, r < q → ∃ j, j < N ∧ pBr F (6 * i + r) = nI j ∧ pDp F j = pDp F i) ∨ (pK F i = 5 ∧ pS F i = 0 ∧ pLb F i = 0 ∧ LoopAt F N i (pDp F i)) ∨ (pK F i = 6 ∧ pS F i = 0 ∧ pLb F i = 0 ∧ ∃ l, l + 1 < N ∧ pBr F (6 * i) = nI l ∧ LoopAt F N l (pDp F i))
theorem AtT.dp {F : PT} {n : Nat} {w : Bool} {k : Nat} {T : Tre} {d b : Nat} {E : Nat → Nat} (h : AtT F n w k T d b E) : pDp F b = nI d := by
  cases n with
  | zero =>
    unfold AtT at h
    split at h
    · exact h.1.2.2.2
    · exact h.2.2.2
  | succ n =>
    unfold AtT at h
    split at h
    · exact h.2.2.2
    split at h
    · exact h.1.2.2.2
    split at h
    · exact h.1.2.2.2
    split at h
    · exact h.1.2.2.2
    split at h
    · exact h.1.2.2.2
    split at h
    · exact h.1.2.2.2
    split at h
    · exact h.1.2.2.2
    split at h
    · exact h.1.2.2.2
    · exact h.1.2.2.2
theorem rows_ok {F : PT} {N : Nat} : ∀ {n : Nat} {w : Bool} {k : Nat} {T : Tre} {d b : Nat} {E : Nat → Nat}, AtT F n w k T d b E → okT n k T → b + siz n w T ≤ N → d + n < 100 → (∀ j, j < k → LoopAt F N (E j) (nI d)) → ∀ i, b ≤ i → i < b + siz n w T → RowOK F N i
  | 0, w, k, T, d, b, E, h, hok, hN, hd, hE, i, hi, hi2 => by
    unfold siz at hi2
    obtain rfl : i = b := by omega
    unfold AtT at h
    split at h
    · rename_i c1
      obtain ⟨⟨a1, a2, a3, a4⟩, a5⟩ := h
      have hj := hE _ (hok.2 c1)
      exact Or.inr (Or.inr (Or.inr (Or.inr ⟨a1, a2, a3, _, hj.1, a5, by rw [a4]; exact hj⟩)))
    · exact Or.inl ⟨h.1, h.2.1, h.2.2.1⟩
  | n + 1, w, k, T, d, b, E, h, hok, hN, hd, hE, i, hi, hi2 => by
    have p0 := siz_pos n w (tsub T 0)
    have p1 := siz_pos n w (tsub T 1)
    have p2 := siz_pos n w (tsub T 2)
    have p3 := siz_pos n (!w) (tsub T 2)
    unfold okT at hok
    obtain ⟨hk4, o1, o2, o3, o4, o5, o6⟩ := hok
    by_cases c0 : (T []).1 = 0
    · rw [AtT_0 c0] at h; rw [siz_0 c0] at hi2 hN
      obtain rfl : i = b := by omega
      exact Or.inl ⟨h.1, h.2.1, h.2.2.1⟩
    by_cases c1 : (T []).1 = 1
    · rw [AtT_1 c1] at h; rw [siz_1 c1] at hi2 hN
      obtain rfl : i = b := by omega
      obtain ⟨⟨a1, a2, a3, a4⟩, a5⟩ := h
      have hj := hE _ (o1 c1)
      exact Or.inr (Or.inr (Or.inr (Or.inr ⟨a1, a2, a3, _, hj.1, a5, by rw [a4]; exact hj⟩)))
    by_cases c2 : (T []).1 = 2
    · rw [AtT_2 c2] at h; rw [siz_2 c2] at hi2 hN
      obtain ⟨⟨a1, a2, a3, a4⟩, a5, a6⟩ := h
      by_cases hib : i = b
      · subst hib
        refine Or.inr (Or.inl ⟨Or.inl a1, a3, ⟨i + 1, by omega, a5, a6.dp.trans a4.symm⟩, ?_⟩)
        rcases o2 (Or.inl c2) with q | q
        · exact Or.inl (by rw [a2, q]; rfl)
        · exact Or.inr (Or.inl (by rw [a2, q]; rfl))
      · exact rows_ok a6 (o3 (Or.inl c2)) (by omega) (by omega) hE i (by omega) (by omega)
    by_cases c3 : (T []).1 = 3
    · rw [AtT_3 c3] at h; rw [siz_3 c3] at hi2 hN
      obtain ⟨⟨a1, a2, a3, a4⟩, a5, a6⟩ := h
      by_cases hib : i = b
      · subst hib
        refine Or.inr (Or.inl ⟨Or.inr a1, a3, ⟨i + 1, by omega, a5, a6.dp.trans a4.symm⟩, ?_⟩)
        rcases o2 (Or.inr c3) with q | q
        · exact Or.inl (by rw [a2, q]; rfl)
        · exact Or.inr (Or.inl (by rw [a2, q]; rfl))
      · exact rows_ok a6 (o3 (Or.inr (Or.inl c3))) (by omega) (by omega) hE i (by omega) (by omega)
    by_cases c4 : (T []).1 = 4
    · rw [AtT_4 c4] at h; rw [siz_4 c4] at hi2 hN
      obtain ⟨⟨a1, a2, a3, a4⟩, a5, a6, a7, a8⟩ := h
      by_cases hib : i = b
      · subst hib
        exact Or.inr (Or.inl ⟨Or.inl a1, a3, ⟨_, by omega, a7, a8.dp.trans a4.symm⟩, Or.inr (Or.inr ⟨a2, i + 1, d, by omega, by omega, a5, a6.dp⟩)⟩)
      · by_cases hc : i < b + 1 + siz n (!w) (tsub T 2)
        · exact rows_ok a6 (o5 (Or.inl c4)) (by omega) (by omega) (fun j hj => absurd hj (by omega)) i (by omega) (by omega)
        · exact rows_ok a8 (o3 (Or.inr (Or.inr (Or.inl c4)))) (by omega) (by omega) hE i (by omega) (by omega)
    by_cases c5 : (T []).1 = 5
    · rw [AtT_5 c5] at h; rw [siz_5 c5] at hi2 hN
      obtain ⟨⟨a1, a2, a3, a4⟩, a5, a6, a7, a8⟩ := h
      by_cases hib : i = b
      · subst hib
        exact Or.inr (Or.inl ⟨Or.inr a1, a3, ⟨_, by omega, a7, a8.dp.trans a4.symm⟩, Or.inr (Or.inr ⟨a2, i + 1, d, by omega, by omega, a5, a6.dp⟩)⟩)
      · by_cases hc : i < b + 1 + siz n w (tsub T 2)
        · exact rows_ok a6 (o5 (Or.inr c5)) (by omega) (by omega) (fun j hj => absurd hj (by omega)) i (by omega) (by omega)
        · exact rows_ok a8 (o3 (Or.inr (Or.inr (Or.inr (Or.inl c5))))) (by omega) (by omega) hE i (by omega) (by omega)
    by_cases c6 : (T []).1 = 6
    · rw [AtT_6 c6] at h; rw [siz_6 c6] at hi2 hN
      obtain ⟨⟨a1, a2, a3, a4⟩, a5, a6, a7, a8, a9⟩ := h
      have r0 := o3 (Or.inr (Or.inr (Or.inr (Or.inr (Or.inl c6)))))
      have r1 := o4 (Or.inl c6)
      by_cases hib : i = b
      · subst hib
        refine Or.inr (Or.inr (Or.inl ⟨Or.inl a1, a2, ?_⟩))
        cases w
        · refine ⟨2, Or.inl rfl, a3, fun r hr => ?_⟩
          rcases (show r = 0 ∨ r = 1 by omega) with rfl | rfl
          · exact ⟨_, by omega, a5, a6.dp.trans a4.symm⟩
          · exact ⟨_, by omega, a7, a8.dp.trans a4.symm⟩
        · simp only [if_true] at hN hi2
          refine ⟨3, Or.inr rfl, a3, fun r hr => ?_⟩
          rcases (show r = 0 ∨ r = 1 ∨ r = 2 by omega) with rfl | rfl | rfl
          · exact ⟨_, by omega, a5, a6.dp.trans a4.symm⟩
          · exact ⟨_, by omega, a7, a8.dp.trans a4.symm⟩
          · exact ⟨_, by omega, (a9 rfl).1, (a9 rfl).2.2.2.2.trans a4.symm⟩
      · by_cases hc : i < b + 1 + siz n w (tsub T 0)
        · exact rows_ok a6 r0 (by omega) (by omega) hE i (by omega) (by omega)
        · by_cases hc2 : i < b + 1 + siz n w (tsub T 0) + siz n w (tsub T 1)
          · exact rows_ok a8 r1 (by omega) (by omega) hE i (by omega) (by omega)
          · cases w
            · simp at hi2; omega
            · simp only [if_true] at hN hi2
              obtain rfl : i = b + 1 + siz n true (tsub T 0) + siz n true (tsub T 1) := by omega
              exact Or.inl ⟨(a9 rfl).2.1, (a9 rfl).2.2.1, (a9 rfl).2.2.2.1⟩
    by_cases c7 : (T []).1 = 7
    · rw [AtT_7 c7] at h; rw [siz_7 c7] at hi2 hN
      obtain ⟨⟨a1, a2, a3, a4⟩, a5, a6, a7, a8, a9⟩ := h
      have r0 := o3 (Or.inr (Or.inr (Or.inr (Or.inr (Or.inr c7)))))
      have r1 := o4 (Or.inr c7)
      by_cases hib : i = b
      · subst hib
        refine Or.inr (Or.inr (Or.inl ⟨Or.inr a1, a2, ?_⟩))
        cases w
        · simp at hN hi2
          refine ⟨3, Or.inr rfl, a3, fun r hr => ?_⟩
          rcases (show r = 0 ∨ r = 1 ∨ r = 2 by omega) with rfl | rfl | rfl
          · exact ⟨_, by omega, a5, a6.dp.trans a4.symm⟩
          · exact ⟨_, by omega, a7, a8.dp.trans a4.symm⟩
          · exact ⟨_, by omega, (a9 rfl).1, (a9 rfl).2.2.2.2.trans a4.symm⟩
        · refine ⟨2, Or.inl rfl, a3, fun r hr => ?_⟩
          rcases (show r = 0 ∨ r = 1 by omega) with rfl | rfl
          · exact ⟨_, by omega, a5, a6.dp.trans a4.symm⟩
          · exact ⟨_, by omega, a7, a8.dp.trans a4.symm⟩
      · by_cases hc : i < b + 1 + siz n w (tsub T 0)
        · exact rows_ok a6 r0 (by omega) (by omega) hE i (by omega) (by omega)
        · by_cases hc2 : i < b + 1 + siz n w (tsub T 0) + siz n w (tsub T 1)
          · exact rows_ok a8 r1 (by omega) (by omega) hE i (by omega) (by omega)
          · cases w
            · simp at hi2 hN
              obtain rfl : i = b + 1 + siz n false (tsub T 0) + siz n false (tsub T 1) := by omega
              exact Or.inl ⟨(a9 rfl).2.1, (a9 rfl).2.2.1, (a9 rfl).2.2.2.1⟩
            · simp at hi2; omega
    have c8 : 8 ≤ (T []).1 := by omega
    rw [AtT_8 c8] at h; rw [siz_8 c8] at hi2 hN
    obtain ⟨⟨a1, a2, a3, a4⟩, a5, ⟨b1, b2, b3, b4⟩, a7, a8⟩ := h
    have hLA : LoopAt F N b (nI d) := ⟨by omega, a1, a5, (by split at b1; exact Or.inl b1; exact Or.inr b1), b4⟩
    by_cases hib : i = b
    · subst hib
      exact Or.inr (Or.inr (Or.inr (Or.inl ⟨a1, a2, a3, by rw [a4]; exact hLA⟩)))
    · by_cases hib2 : i = b + 1
      · subst hib2
        refine Or.inr (Or.inl ⟨hLA.2.2.2.1, b3, ⟨_, by omega, a7, a8.dp.trans b4.symm⟩, ?_⟩)
        by_cases cx : (T []).2 = 0
        · exact Or.inl (by rw [if_pos cx] at b2; exact b2)
        · exact Or.inr (Or.inl (by rw [if_neg cx] at b2; exact b2))
      · refine rows_ok a8 (o6 c8).2 (by omega) (by omega) (fun j hj => ?_) i (by omega) (by omega)
        by_cases hjk : j = k
        · subst hjk; simp only [if_true]; exact hLA
        · simp only [if_neg hjk]; exact hE j (by omega)
