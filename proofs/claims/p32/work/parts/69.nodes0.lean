/-- how many NODES a text tells, letter by letter -/
def isn (a b : Nat) : Nat := if b = 48 ∨ b = 33 ∨ b = 63 ∨ b = 43 ∨ b = 38 ∨ b = 42 ∨ (119 ≤ b ∧ b ≤ 122 ∧ a ≠ 42) then 1 else 0
def ndl : Nat → List Nat → Nat
  | _, [] => 0
  | a, b :: l => isn a b + ndl b l
def hdo (l : List Nat) : Prop := ∀ b, l.head? = some b → b < 119 ∨ 122 < b
theorem ndl_any {l : List Nat} (h : hdo l) (a b : Nat) : ndl a l = ndl b l := by
  cases l with
  | nil => rfl
  | cons c9 l =>
    have := h c9 rfl
    show isn a c9 + _ = isn b c9 + _
    unfold isn
    congr 1
    by_cases h1 : c9 = 48 ∨ c9 = 33 ∨ c9 = 63 ∨ c9 = 43 ∨ c9 = 38 ∨ c9 = 42
    · rw [if_pos (by omega), if_pos (by omega)]
    · rw [if_neg (by omega), if_neg (by omega)]
theorem isn_no {a b : Nat} (h : b = 105 ∨ b = 98 ∨ b = 46 ∨ b = 40 ∨ b = 41 ∨ b = 123 ∨ b = 97 ∨ b = 58 ∨ b = 44 ∨ b = 99 ∨ b = 125) : isn a b = 0 := if_neg (by omega)
theorem isn_ye {a b : Nat} (h : b = 48 ∨ b = 33 ∨ b = 63 ∨ b = 43 ∨ b = 38 ∨ b = 42) : isn a b = 1 := if_pos (by omega)
theorem nd_txt : ∀ (n : Nat) (w : Bool) (k : Nat) (T : Tre) (a : Nat) (rest : List Nat), okT n k T → a ≠ 42 → hdo rest → ndl a (txt n w k T ++ rest) = siz n w T + ndl 0 rest
  | 0, w, k, T, a, rest, ho, ha, hr => by
    unfold txt
    split
    · rename_i h1
      have := ho.2 h1
      have hk := ho.1
      show isn a (119 + (T []).2) + ndl _ rest = 1 + _
      rw [show isn a (119 + (T []).2) = 1 from if_pos (by omega), ndl_any hr _ 0]
    · show isn a 48 + ndl 48 rest = 1 + _
      rw [isn_ye (by omega), ndl_any hr 48 0]
  | n + 1, w, k, T, a, rest, ho, ha, hr => by
    have h0 := ho
    obtain ⟨o1, o2, o3, o4, o5, o6, o7⟩ := h0
    by_cases c0 : (T []).1 = 0
    · rw [txt_0 c0, siz_0 c0]
      show isn a 48 + ndl 48 rest = 1 + _
      rw [isn_ye (by omega), ndl_any hr 48 0]
    by_cases c1 : (T []).1 = 1
    · have := o2 c1
      rw [txt_1 c1, siz_1 c1]
      show isn a (119 + (T []).2) + ndl _ rest = 1 + _
      rw [show isn a (119 + (T []).2) = 1 from if_pos (by omega), ndl_any hr _ 0]
    by_cases c2 : (T []).1 = 2
    · have hy := o3 (Or.inl c2)
      rw [txt_2 c2, siz_2 c2]
      show isn a 33 + (isn 33 (T []).2 + (isn (T []).2 46 + ndl 46 (txt n w k (tsub T 0) ++ rest))) = _
      rw [isn_ye (b := 33) (by omega), isn_no (b := (T []).2) (by omega), isn_no (b := 46) (by omega), nd_txt n w k _ 46 rest (o4 (by omega)) (by decide) hr]
      omega
    by_cases c3 : (T []).1 = 3
    · have hy := o3 (Or.inr c3)
      rw [txt_3 c3, siz_3 c3]
      show isn a 63 + (isn 63 (T []).2 + (isn (T []).2 46 + ndl 46 (txt n w k (tsub T 0) ++ rest))) = _
      rw [isn_ye (b := 63) (by omega), isn_no (b := (T []).2) (by omega), isn_no (b := 46) (by omega), nd_txt n w k _ 46 rest (o4 (by omega)) (by decide) hr]
      omega
    by_cases c4 : (T []).1 = 4
    · rw [txt_4 c4, siz_4 c4]
      show isn a 33 + (isn 33 40 + ndl 40 ((txt n (!w) 0 (tsub T 2) ++ 41 :: 46 :: txt n w k (tsub T 0)) ++ rest)) = _
      rw [List.append_assoc, nd_txt n (!w) 0 _ 40 _ (o6 (by omega)) (by decide) (fun b hb => by cases hb; decide), isn_ye (b := 33) (by omega), isn_no (b := 40) (by omega)]
      show 1 + (0 + (_ + (isn 0 41 + (isn 41 46 + ndl 46 (txt n w k (tsub T 0) ++ rest))))) = _
      rw [isn_no (b := 41) (by omega), isn_no (b := 46) (by omega), nd_txt n w k _ 46 rest (o4 (by omega)) (by decide) hr]
      omega
    by_cases c5 : (T []).1 = 5
    · rw [txt_5 c5, siz_5 c5]
      show isn a 63 + (isn 63 40 + ndl 40 ((txt n w 0 (tsub T 2) ++ 41 :: 46 :: txt n w k (tsub T 0)) ++ rest)) = _
      rw [List.append_assoc, nd_txt n w 0 _ 40 _ (o6 (by omega)) (by decide) (fun b hb => by cases hb; decide), isn_ye (b := 63) (by omega), isn_no (b := 40) (by omega)]
      show 1 + (0 + (_ + (isn 0 41 + (isn 41 46 + ndl 46 (txt n w k (tsub T 0) ++ rest))))) = _
      rw [isn_no (b := 41) (by omega), isn_no (b := 46) (by omega), nd_txt n w k _ 46 rest (o4 (by omega)) (by decide) hr]
      omega
    have hdc : ∀ l : List Nat, hdo (44 :: l) := fun l b hb => by cases hb; decide
    have hdb : ∀ l : List Nat, hdo (125 :: l) := fun l b hb => by cases hb; decide
    have e5 : ndl 0 ([44, 99, 58, 48, 125] ++ rest) = 1 + ndl 0 rest := by
      show isn 0 44 + (isn 44 99 + (isn 99 58 + (isn 58 48 + (isn 48 125 + ndl 125 rest)))) = _
      rw [isn_no (b := 44) (by omega), isn_no (b := 99) (by omega), isn_no (b := 58) (by omega), isn_ye (b := 48) (by omega), isn_no (b := 125) (by omega), ndl_any hr 125 0]; omega
    have e1 : ndl 0 ([125] ++ rest) = ndl 0 rest := by
      show isn 0 125 + ndl 125 rest = _
      rw [isn_no (b := 125) (by omega), ndl_any hr 125 0]; omega
    have mid : ∀ (t1 t2 : List Nat) (s1 s2 : Nat), (∀ r, hdo r → ndl 58 (t1 ++ r) = s1 + ndl 0 r) → (∀ r, hdo r → ndl 58 (t2 ++ r) = s2 + ndl 0 r) → ∀ r, hdo r → ndl 58 (t1 ++ (44 :: 98 :: 58 :: (t2 ++ r))) = s1 + s2 + ndl 0 r := by
      intro t1 t2 s1 s2 h1 h2 r hr9
      rw [h1 _ (hdc _)]
      show _ + (isn 0 44 + (isn 44 98 + (isn 98 58 + ndl 58 (t2 ++ r)))) = _
      rw [h2 r hr9, isn_no (b := 44) (by omega), isn_no (b := 98) (by omega), isn_no (b := 58) (by omega)]; omega
    by_cases c6 : (T []).1 = 6
    · rw [txt_6 c6, siz_6 c6]
      show isn a 43 + (isn 43 123 + (isn 123 97 + (isn 97 58 + ndl 58 ((txt n w k (tsub T 0) ++ 44 :: 98 :: 58 :: (txt n w k (tsub T 1) ++ (if w then [44, 99, 58, 48, 125] else [125]))) ++ rest)))) = _
      rw [isn_ye (b := 43) (by omega), isn_no (b := 123) (by omega), isn_no (b := 97) (by omega), isn_no (b := 58) (by omega), List.append_assoc]
      show 1 + (0 + (0 + (0 + ndl 58 (txt n w k (tsub T 0) ++ (44 :: 98 :: 58 :: ((txt n w k (tsub T 1) ++ (if w then [44, 99, 58, 48, 125] else [125])) ++ rest)))))) = _
      rw [List.append_assoc, mid _ _ _ _ (fun r h => nd_txt n w k _ 58 r (o4 (by omega)) (by decide) h) (fun r h => nd_txt n w k _ 58 r (o5 (by omega)) (by decide) h) _ (by cases w; exact hdb _; exact hdc _)]
      cases w
      · show 1 + (0 + (0 + (0 + (_ + _ + ndl 0 ([125] ++ rest))))) = 1 + _ + _ + 0 + _
        rw [e1]; omega
      · show 1 + (0 + (0 + (0 + (_ + _ + ndl 0 ([44, 99, 58, 48, 125] ++ rest))))) = 1 + _ + _ + 1 + _
        rw [e5]; omega
    by_cases c7 : (T []).1 = 7
    · rw [txt_7 c7, siz_7 c7]
      show isn a 38 + (isn 38 123 + (isn 123 97 + (isn 97 58 + ndl 58 ((txt n w k (tsub T 0) ++ 44 :: 98 :: 58 :: (txt n w k (tsub T 1) ++ (if w then [125] else [44, 99, 58, 48, 125]))) ++ rest)))) = _
      rw [isn_ye (b := 38) (by omega), isn_no (b := 123) (by omega), isn_no (b := 97) (by omega), isn_no (b := 58) (by omega), List.append_assoc]
      show 1 + (0 + (0 + (0 + ndl 58 (txt n w k (tsub T 0) ++ (44 :: 98 :: 58 :: ((txt n w k (tsub T 1) ++ (if w then [125] else [44, 99, 58, 48, 125])) ++ rest)))))) = _
      rw [List.append_assoc, mid _ _ _ _ (fun r h => nd_txt n w k _ 58 r (o4 (by omega)) (by decide) h) (fun r h => nd_txt n w k _ 58 r (o5 (by omega)) (by decide) h) _ (by cases w; exact hdc _; exact hdb _)]
      cases w
      · show 1 + (0 + (0 + (0 + (_ + _ + ndl 0 ([44, 99, 58, 48, 125] ++ rest))))) = 1 + _ + _ + 1 + _
        rw [e5]; omega
      · show 1 + (0 + (0 + (0 + (_ + _ + ndl 0 ([125] ++ rest))))) = 1 + _ + _ + 0 + _
        rw [e1]; omega
    have c8 : 8 ≤ (T []).1 := by omega
    rw [txt_8 c8, siz_8 c8]
    have hx : ∀ y z9 : Nat, (y = 33 ∨ y = 63) → (z9 = 105 ∨ z9 = 98) → ndl a ((42 :: (119 + k) :: 46 :: y :: z9 :: 46 :: txt n w (k + 1) (tsub T 0)) ++ rest) = 2 + siz n w (tsub T 0) + ndl 0 rest := by
      intro y z9 hy hz
      show isn a 42 + (isn 42 (119 + k) + (isn (119 + k) 46 + (isn 46 y + (isn y z9 + (isn z9 46 + ndl 46 (txt n w (k + 1) (tsub T 0) ++ rest)))))) = _
      rw [isn_ye (b := 42) (by omega), show isn 42 (119 + k) = 0 from if_neg (by have := (o7 c8).1; omega), isn_no (b := 46) (by omega), isn_ye (b := y) (by omega), isn_no (b := z9) (by omega), isn_no (b := 46) (by omega), nd_txt n w (k + 1) _ 46 rest (o7 c8).2 (by decide) hr]
      omega
    exact hx _ _ (by split <;> simp) (by split <;> simp)
