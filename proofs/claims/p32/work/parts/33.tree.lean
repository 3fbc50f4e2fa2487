/-! the made texts: a tree tells what stands where; its text, how many NODES, what a table of NODES says of it -/
abbrev Tre : Type := List Nat → Nat × Nat
def tsub (T : Tre) (i : Nat) : Tre := fun a => T (i :: a)
def tEnd : Tre := fun _ => (0, 0)
/-- the text of a tree: n its depth at most, w wide, k how many LOOPS are around -/
def txt : Nat → Bool → Nat → Tre → List Nat
  | 0, _, _, T => if (T []).1 = 1 then [119 + (T []).2] else [48]
  | n + 1, w, k, T =>
    if (T []).1 = 0 then [48]
    else if (T []).1 = 1 then [119 + (T []).2]
    else if (T []).1 = 2 then 33 :: (T []).2 :: 46 :: txt n w k (tsub T 0)
    else if (T []).1 = 3 then 63 :: (T []).2 :: 46 :: txt n w k (tsub T 0)
    else if (T []).1 = 4 then 33 :: 40 :: (txt n (!w) 0 (tsub T 2) ++ 41 :: 46 :: txt n w k (tsub T 0))
    else if (T []).1 = 5 then 63 :: 40 :: (txt n w 0 (tsub T 2) ++ 41 :: 46 :: txt n w k (tsub T 0))
    else if (T []).1 = 6 then 43 :: 123 :: 97 :: 58 :: (txt n w k (tsub T 0) ++ 44 :: 98 :: 58 :: (txt n w k (tsub T 1) ++ (if w then [44, 99, 58, 48, 125] else [125])))
    else if (T []).1 = 7 then 38 :: 123 :: 97 :: 58 :: (txt n w k (tsub T 0) ++ 44 :: 98 :: 58 :: (txt n w k (tsub T 1) ++ (if w then [125] else [44, 99, 58, 48, 125])))
    else 42 :: (119 + k) :: 46 :: (if (T []).2 = 0 then 33 else 63) :: (if (T []).2 = 0 then 105 else 98) :: 46 :: txt n w (k + 1) (tsub T 0)
/-- how many NODES -/
def siz : Nat → Bool → Tre → Nat
  | 0, _, _ => 1
  | n + 1, w, T =>
    if (T []).1 = 0 then 1
    else if (T []).1 = 1 then 1
    else if (T []).1 = 2 then 1 + siz n w (tsub T 0)
    else if (T []).1 = 3 then 1 + siz n w (tsub T 0)
    else if (T []).1 = 4 then 1 + siz n (!w) (tsub T 2) + siz n w (tsub T 0)
    else if (T []).1 = 5 then 1 + siz n w (tsub T 2) + siz n w (tsub T 0)
    else if (T []).1 = 6 then 1 + siz n w (tsub T 0) + siz n w (tsub T 1) + (if w then 1 else 0)
    else if (T []).1 = 7 then 1 + siz n w (tsub T 0) + siz n w (tsub T 1) + (if w then 0 else 1)
    else 2 + siz n w (tsub T 0)
/-- a tree as the law makes them -/
def okT : Nat → Nat → Tre → Prop
  | 0, k, T => k ≤ 4 ∧ ((T []).1 = 1 → (T []).2 < k)
  | n + 1, k, T => k ≤ 4 ∧ ((T []).1 = 1 → (T []).2 < k) ∧ ((T []).1 = 2 ∨ (T []).1 = 3 → ((T []).2 = 105 ∨ (T []).2 = 98)) ∧ ((T []).1 = 2 ∨ (T []).1 = 3 ∨ (T []).1 = 4 ∨ (T []).1 = 5 ∨ (T []).1 = 6 ∨ (T []).1 = 7 → okT n k (tsub T 0)) ∧ ((T []).1 = 6 ∨ (T []).1 = 7 → okT n k (tsub T 1)) ∧ ((T []).1 = 4 ∨ (T []).1 = 5 → okT n 0 (tsub T 2)) ∧ (8 ≤ (T []).1 → k < 4 ∧ okT n (k + 1) (tsub T 0))
theorem siz_pos : ∀ n w T, 1 ≤ siz n w T
  | 0, _, _ => Nat.le_refl 1
  | n + 1, w, T => by unfold siz; split <;> (try split) <;> (try split) <;> (try split) <;> (try split) <;> (try split) <;> (try split) <;> (try split) <;> omega
theorem txt_pos : ∀ n w k T, 1 ≤ (txt n w k T).length
  | 0, _, _, T => by unfold txt; split <;> simp
  | n + 1, w, k, T => by unfold txt; split <;> (try split) <;> (try split) <;> (try split) <;> (try split) <;> (try split) <;> (try split) <;> (try split) <;> simp <;> omega
/-- the rows of a READER's tables: kind, sort, letter, labels, deep, inner, branch, state -/
abbrev RT : Type := (Nat → Int32) × (Nat → Int32) × (Nat → Int32) × (Nat → Int32) × (Nat → Int32) × (Nat → Int32) × (Nat → Int32) × (Nat → Int32)
abbrev P6 (G : RT) : PT := (60, G)
/-- one row -/
def rowIs (F : PT) (i : Nat) (k s lb : Int32) (d : Nat) : Prop := pK F i = k ∧ pS F i = s ∧ pLb F i = lb ∧ pDp F i = nI d
/-- the table holds the tree at b, E: the LOOPS around -/
def AtT (F : PT) : Nat → Bool → Nat → Tre → Nat → Nat → (Nat → Nat) → Prop
  | 0, _, _, T, d, b, E => if (T []).1 = 1 then rowIs F b 6 0 0 d ∧ pBr F (6 * b) = nI (E (T []).2) else rowIs F b 0 0 0 d
  | n + 1, w, k, T, d, b, E =>
    if (T []).1 = 0 then rowIs F b 0 0 0 d
    else if (T []).1 = 1 then rowIs F b 6 0 0 d ∧ pBr F (6 * b) = nI (E (T []).2)
    else if (T []).1 = 2 then rowIs F b 1 (nI (T []).2) 0 d ∧ pBr F (6 * b) = nI (b + 1) ∧ AtT F n w k (tsub T 0) d (b + 1) E
    else if (T []).1 = 3 then rowIs F b 2 (nI (T []).2) 0 d ∧ pBr F (6 * b) = nI (b + 1) ∧ AtT F n w k (tsub T 0) d (b + 1) E
    else if (T []).1 = 4 then rowIs F b 1 40 0 d ∧ pIn F b = nI (b + 1) ∧ AtT F n (!w) 0 (tsub T 2) (d + 1) (b + 1) E ∧ pBr F (6 * b) = nI (b + 1 + siz n (!w) (tsub T 2)) ∧ AtT F n w k (tsub T 0) d (b + 1 + siz n (!w) (tsub T 2)) E
    else if (T []).1 = 5 then rowIs F b 2 40 0 d ∧ pIn F b = nI (b + 1) ∧ AtT F n w 0 (tsub T 2) (d + 1) (b + 1) E ∧ pBr F (6 * b) = nI (b + 1 + siz n w (tsub T 2)) ∧ AtT F n w k (tsub T 0) d (b + 1 + siz n w (tsub T 2)) E
    else if (T []).1 = 6 then rowIs F b 3 0 (if w then 7 else 3) d ∧ pBr F (6 * b) = nI (b + 1) ∧ AtT F n w k (tsub T 0) d (b + 1) E ∧ pBr F (6 * b + 1) = nI (b + 1 + siz n w (tsub T 0)) ∧ AtT F n w k (tsub T 1) d (b + 1 + siz n w (tsub T 0)) E ∧ (w = true → pBr F (6 * b + 2) = nI (b + 1 + siz n w (tsub T 0) + siz n w (tsub T 1)) ∧ rowIs F (b + 1 + siz n w (tsub T 0) + siz n w (tsub T 1)) 0 0 0 d)
    else if (T []).1 = 7 then rowIs F b 4 0 (if w then 3 else 7) d ∧ pBr F (6 * b) = nI (b + 1) ∧ AtT F n w k (tsub T 0) d (b + 1) E ∧ pBr F (6 * b + 1) = nI (b + 1 + siz n w (tsub T 0)) ∧ AtT F n w k (tsub T 1) d (b + 1 + siz n w (tsub T 0)) E ∧ (w = false → pBr F (6 * b + 2) = nI (b + 1 + siz n w (tsub T 0) + siz n w (tsub T 1)) ∧ rowIs F (b + 1 + siz n w (tsub T 0) + siz n w (tsub T 1)) 0 0 0 d)
    else rowIs F b 5 0 0 d ∧ pBr F (6 * b) = nI (b + 1) ∧ rowIs F (b + 1) (if (T []).2 = 0 then 1 else 2) (if (T []).2 = 0 then 105 else 98) 0 d ∧ pBr F (6 * (b + 1)) = nI (b + 2) ∧ AtT F n w (k + 1) (tsub T 0) d (b + 2) (fun j => if j = k then b else E j)
/-- what stands on the tape from a place on -/
def TxA (tx : Nat → Int32) : Nat → List Nat → Prop
  | _, [] => True
  | a, c :: l => tx a = nI c ∧ TxA tx (a + 1) l
theorem TxA_app {tx : Nat → Int32} : ∀ {l1 l2 : List Nat} {a : Nat}, TxA tx a (l1 ++ l2) ↔ TxA tx a l1 ∧ TxA tx (a + l1.length) l2
  | [], l2, a => by simp [TxA]
  | c :: l, l2, a => by
    show (tx a = nI c ∧ TxA tx (a + 1) (l ++ l2)) ↔ (tx a = nI c ∧ TxA tx (a + 1) l) ∧ TxA tx (a + (l.length + 1)) l2
    rw [TxA_app (l1 := l), show a + (l.length + 1) = a + 1 + l.length by omega, and_assoc]
/-- the rows below b are alike -/
def EqB (b : Nat) (F F' : PT) : Prop := (∀ i, i < b → pK F' i = pK F i ∧ pS F' i = pS F i ∧ pLt F' i = pLt F i ∧ pLb F' i = pLb F i ∧ pDp F' i = pDp F i ∧ pIn F' i = pIn F i) ∧ ∀ i, i < 6 * b → pBr F' i = pBr F i
/-- the rows below b are alike, but for a link to b -/
def LowR (lk : Option Nat) (b : Nat) (F F' : PT) : Prop := (∀ i, i < b → pK F' i = pK F i ∧ pS F' i = pS F i ∧ pLt F' i = pLt F i ∧ pLb F' i = pLb F i ∧ pDp F' i = pDp F i ∧ pIn F' i = pIn F i) ∧ (∀ i, i < 6 * b → (∀ t, lk = some t → ¬ i = 6 * t) → pBr F' i = pBr F i) ∧ (∀ t, lk = some t → t < b ∧ pBr F' (6 * t) = nI b)
/-- the rows from b on, below c, are alike -/
def EqR (b c : Nat) (F F' : PT) : Prop := (∀ i, b ≤ i → i < c → pK F' i = pK F i ∧ pS F' i = pS F i ∧ pLt F' i = pLt F i ∧ pLb F' i = pLb F i ∧ pDp F' i = pDp F i ∧ pIn F' i = pIn F i) ∧ ∀ i, 6 * b ≤ i → i < 6 * c → pBr F' i = pBr F i
theorem EqB.R {b c : Nat} {F F' : PT} (h : EqB c F F') : EqR b c F F' := ⟨fun i _ hi => h.1 i hi, fun i _ hi => h.2 i hi⟩
theorem EqB.rf (b : Nat) (F : PT) : EqB b F F := ⟨fun _ _ => ⟨rfl, rfl, rfl, rfl, rfl, rfl⟩, fun _ _ => rfl⟩
theorem EqB.tr {b : Nat} {F F' F'' : PT} (h : EqB b F F') (h' : EqB b F' F'') : EqB b F F'' := by
  refine ⟨fun i hi => ?_, fun i hi => (h'.2 i hi).trans (h.2 i hi)⟩
  obtain ⟨a1, a2, a3, a4, a5, a6⟩ := h.1 i hi
  obtain ⟨b1, b2, b3, b4, b5, b6⟩ := h'.1 i hi
  exact ⟨b1.trans a1, b2.trans a2, b3.trans a3, b4.trans a4, b5.trans a5, b6.trans a6⟩
theorem EqB.le {b c : Nat} {F F' : PT} (h : EqB c F F') (hb : b ≤ c) : EqB b F F' := ⟨fun i hi => h.1 i (by omega), fun i hi => h.2 i (by omega)⟩
theorem rowIs.kept {F F' : PT} {i r c : Nat} {k s lb : Int32} {d : Nat} (h : rowIs F i k s lb d) (he : EqR r c F F') (hr : r ≤ i) (hi : i < c) : rowIs F' i k s lb d := by
  obtain ⟨a1, a2, a3, a4, a5, a6⟩ := he.1 i hr hi
  exact ⟨a1.trans h.1, a2.trans h.2.1, a4.trans h.2.2.1, a5.trans h.2.2.2⟩
/-- what is written behind the tree doesn't matter to it -/
theorem AtT.kept {F F' : PT} {r c : Nat} (he : EqR r c F F') : ∀ {n : Nat} {w : Bool} {k : Nat} {T : Tre} {d b : Nat} {E : Nat → Nat}, AtT F n w k T d b E → r ≤ b → b + siz n w T ≤ c → AtT F' n w k T d b E
  | 0, w, k, T, d, b, E, h, hr, hc => by
    unfold AtT at h ⊢
    unfold siz at hc
    split
    · rename_i h1; rw [if_pos h1] at h
      exact ⟨h.1.kept he (by omega) (by omega), (he.2 _ (by omega) (by omega)).trans h.2⟩
    · rename_i h1; rw [if_neg h1] at h
      exact h.kept he (by omega) (by omega)
  | n + 1, w, k, T, d, b, E, h, hr, hc => by
    have p0 := siz_pos n w (tsub T 0)
    have p1 := siz_pos n w (tsub T 1)
    have p2 := siz_pos n w (tsub T 2)
    have p3 := siz_pos n (!w) (tsub T 2)
    unfold AtT at h ⊢
    unfold siz at hc
    by_cases h0 : (T []).1 = 0
    · simp only [if_pos h0] at h hc ⊢
      exact h.kept he (by omega) (by omega)
    simp only [if_neg h0] at h hc ⊢
    by_cases h1 : (T []).1 = 1
    · simp only [if_pos h1] at h hc ⊢
      exact ⟨h.1.kept he (by omega) (by omega), (he.2 _ (by omega) (by omega)).trans h.2⟩
    simp only [if_neg h1] at h hc ⊢
    by_cases h2 : (T []).1 = 2
    · simp only [if_pos h2] at h hc ⊢
      exact ⟨h.1.kept he (by omega) (by omega), (he.2 _ (by omega) (by omega)).trans h.2.1, h.2.2.kept he (by omega) (by omega)⟩
    simp only [if_neg h2] at h hc ⊢
    by_cases h3 : (T []).1 = 3
    · simp only [if_pos h3] at h hc ⊢
      exact ⟨h.1.kept he (by omega) (by omega), (he.2 _ (by omega) (by omega)).trans h.2.1, h.2.2.kept he (by omega) (by omega)⟩
    simp only [if_neg h3] at h hc ⊢
    by_cases h4 : (T []).1 = 4
    · simp only [if_pos h4] at h hc ⊢
      obtain ⟨a1, a2, a3, a4, a5⟩ := h
      exact ⟨a1.kept he (by omega) (by omega), (he.1 b (by omega) (by omega)).2.2.2.2.2.trans a2, a3.kept he (by omega) (by omega), (he.2 _ (by omega) (by omega)).trans a4, a5.kept he (by omega) (by omega)⟩
    simp only [if_neg h4] at h hc ⊢
    by_cases h5 : (T []).1 = 5
    · simp only [if_pos h5] at h hc ⊢
      obtain ⟨a1, a2, a3, a4, a5⟩ := h
      exact ⟨a1.kept he (by omega) (by omega), (he.1 b (by omega) (by omega)).2.2.2.2.2.trans a2, a3.kept he (by omega) (by omega), (he.2 _ (by omega) (by omega)).trans a4, a5.kept he (by omega) (by omega)⟩
    simp only [if_neg h5] at h hc ⊢
    by_cases h6 : (T []).1 = 6
    · simp only [if_pos h6] at h hc ⊢
      obtain ⟨a1, a2, a3, a4, a5, a6⟩ := h
      refine ⟨a1.kept he (by omega) (by omega), (he.2 _ (by omega) (by omega)).trans a2, a3.kept he (by omega) (by omega), (he.2 _ (by omega) (by omega)).trans a4, a5.kept he (by omega) (by omega), fun hw => ?_⟩
      subst hw
      simp only [if_true] at hc
      exact ⟨(he.2 _ (by omega) (by omega)).trans (a6 rfl).1, (a6 rfl).2.kept he (by omega) (by omega)⟩
    simp only [if_neg h6] at h hc ⊢
    by_cases h7 : (T []).1 = 7
    · simp only [if_pos h7] at h hc ⊢
      obtain ⟨a1, a2, a3, a4, a5, a6⟩ := h
      refine ⟨a1.kept he (by omega) (by omega), (he.2 _ (by omega) (by omega)).trans a2, a3.kept he (by omega) (by omega), (he.2 _ (by omega) (by omega)).trans a4, a5.kept he (by omega) (by omega), fun hw => ?_⟩
      subst hw
      simp at hc
      exact ⟨(he.2 _ (by omega) (by omega)).trans (a6 rfl).1, (a6 rfl).2.kept he (by omega) (by omega)⟩
    simp only [if_neg h7] at h hc ⊢
    obtain ⟨a1, a2, a3, a4, a5⟩ := h
    exact ⟨a1.kept he (by omega) (by omega), (he.2 _ (by omega) (by omega)).trans a2, a3.kept he (by omega) (by omega), (he.2 _ (by omega) (by omega)).trans a4, a5.kept he (by omega) (by omega)⟩
