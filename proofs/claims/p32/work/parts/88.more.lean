/-- a made text outside every LOOP begins with no letter of a LOOP -/
theorem txt_hdo {n : Nat} {w : Bool} {T : Tre} (ho : okT n 0 T) : hdo (txt n w 0 T) := by
  cases n with
  | zero =>
    unfold txt
    split
    · rename_i h1; exact absurd (ho.2 h1) (Nat.not_lt_zero _)
    · intro b hb; cases hb; decide
  | succ n =>
    obtain ⟨o1, o2, -⟩ := ho
    by_cases c0 : (T []).1 = 0
    · rw [txt_0 c0]; intro b hb; cases hb; decide
    by_cases c1 : (T []).1 = 1
    · exact absurd (o2 c1) (Nat.not_lt_zero _)
    by_cases c2 : (T []).1 = 2
    · rw [txt_2 c2]; intro b hb; cases hb; decide
    by_cases c3 : (T []).1 = 3
    · rw [txt_3 c3]; intro b hb; cases hb; decide
    by_cases c4 : (T []).1 = 4
    · rw [txt_4 c4]; intro b hb; cases hb; decide
    by_cases c5 : (T []).1 = 5
    · rw [txt_5 c5]; intro b hb; cases hb; decide
    by_cases c6 : (T []).1 = 6
    · rw [txt_6 c6]; intro b hb; cases hb; decide
    by_cases c7 : (T []).1 = 7
    · rw [txt_7 c7]; intro b hb; cases hb; decide
    rw [txt_8 (by omega)]; intro b hb; cases hb; decide
/-- no letter of a made text is 0 -/
theorem txt_ge : ∀ (n : Nat) (w : Bool) (k : Nat) (T : Tre), okT n k T → ∀ b ∈ txt n w k T, 1 ≤ b
  | 0, w, k, T, ho, b, hb => by
    unfold txt at hb
    split at hb <;> (simp only [List.mem_singleton] at hb; omega)
  | n + 1, w, k, T, ho, b, hb => by
    obtain ⟨o1, o2, o3, o4, o5, o6, o7⟩ := ho
    by_cases c0 : (T []).1 = 0
    · rw [txt_0 c0] at hb; simp only [List.mem_singleton] at hb; omega
    by_cases c1 : (T []).1 = 1
    · rw [txt_1 c1] at hb; simp only [List.mem_singleton] at hb; omega
    by_cases c2 : (T []).1 = 2
    · have hy := o3 (Or.inl c2)
      rw [txt_2 c2] at hb
      simp only [List.mem_cons] at hb
      rcases hb with h | h | h | h
      · omega
      · omega
      · omega
      · exact txt_ge n w k _ (o4 (by omega)) b h
    by_cases c3 : (T []).1 = 3
    · have hy := o3 (Or.inr c3)
      rw [txt_3 c3] at hb
      simp only [List.mem_cons] at hb
      rcases hb with h | h | h | h
      · omega
      · omega
      · omega
      · exact txt_ge n w k _ (o4 (by omega)) b h
    by_cases c4 : (T []).1 = 4
    · rw [txt_4 c4] at hb
      simp only [List.mem_cons, List.mem_append] at hb
      rcases hb with h | h | h | h | h | h
      · omega
      · omega
      · exact txt_ge n (!w) 0 _ (o6 (by omega)) b h
      · omega
      · omega
      · exact txt_ge n w k _ (o4 (by omega)) b h
    by_cases c5 : (T []).1 = 5
    · rw [txt_5 c5] at hb
      simp only [List.mem_cons, List.mem_append] at hb
      rcases hb with h | h | h | h | h | h
      · omega
      · omega
      · exact txt_ge n w 0 _ (o6 (by omega)) b h
      · omega
      · omega
      · exact txt_ge n w k _ (o4 (by omega)) b h
    have tl : ∀ (v : Bool), b ∈ (if v then [44, 99, 58, 48, 125] else [125] : List Nat) → 1 ≤ b := by
      intro v h
      cases v <;> (simp at h; omega)
    by_cases c6 : (T []).1 = 6
    · rw [txt_6 c6] at hb
      simp only [List.mem_cons, List.mem_append] at hb
      rcases hb with h | h | h | h | h | h | h | h | h | h
      · omega
      · omega
      · omega
      · omega
      · exact txt_ge n w k _ (o4 (by omega)) b h
      · omega
      · omega
      · omega
      · exact txt_ge n w k _ (o5 (by omega)) b h
      · exact tl w h
    by_cases c7 : (T []).1 = 7
    · rw [txt_7 c7] at hb
      simp only [List.mem_cons, List.mem_append] at hb
      rcases hb with h | h | h | h | h | h | h | h | h | h
      · omega
      · omega
      · omega
      · omega
      · exact txt_ge n w k _ (o4 (by omega)) b h
      · omega
      · omega
      · omega
      · exact txt_ge n w k _ (o5 (by omega)) b h
      · refine tl (!w) ?_
        cases w <;> exact h
    rw [txt_8 (by omega)] at hb
    simp only [List.mem_cons] at hb
    rcases hb with h | h | h | h | h | h | h
    · omega
    · omega
    · omega
    · split at h <;> omega
    · split at h <;> omega
    · omega
    · exact txt_ge n w (k + 1) _ (o7 (by omega)).2 b h
theorem gD_mem {l : List Nat} {j : Nat} (h : j < l.length) : l.getD j 0 ∈ l := by
  rw [List.getD_eq_getElem?_getD, List.getElem?_eq_getElem h]
  exact List.getElem_mem h
theorem txt_ch {n : Nat} {w : Bool} {k : Nat} {T : Tre} (ho : okT n k T) : ∀ j, j < (txt n w k T).length → 1 ≤ (txt n w k T).getD j 0 := fun j hj => txt_ge n w k T ho _ (gD_mem hj)
theorem txt_nd {n : Nat} {w : Bool} {T : Tre} (ho : okT n 0 T) : ndl 0 (txt n w 0 T) = siz n w T := by
  have := nd_txt n w 0 T 0 [] ho (by decide) (fun b hb => by cases hb)
  rw [List.append_nil] at this
  rw [this]; rfl
