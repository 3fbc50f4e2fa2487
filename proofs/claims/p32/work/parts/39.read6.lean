/-! a tree's text, size and table, kind by kind -/
theorem txt_0 {n : Nat} {w : Bool} {k : Nat} {T : Tre} (h : (T []).1 = 0) : txt (n + 1) w k T = [48] := by
  rw [txt, if_pos h]
theorem siz_0 {n : Nat} {w : Bool} {T : Tre} (h : (T []).1 = 0) : siz (n + 1) w T = 1 := by
  rw [siz, if_pos h]
theorem AtT_0 {F : PT} {n : Nat} {w : Bool} {k : Nat} {T : Tre} {d b : Nat} {E : Nat → Nat} (h : (T []).1 = 0) : AtT F (n + 1) w k T d b E = (rowIs F b 0 0 0 d) := by
  rw [AtT, if_pos h]
theorem txt_1 {n : Nat} {w : Bool} {k : Nat} {T : Tre} (h : (T []).1 = 1) : txt (n + 1) w k T = [119 + (T []).2] := by
  rw [txt, if_neg (by omega), if_pos h]
theorem siz_1 {n : Nat} {w : Bool} {T : Tre} (h : (T []).1 = 1) : siz (n + 1) w T = 1 := by
  rw [siz, if_neg (by omega), if_pos h]
theorem AtT_1 {F : PT} {n : Nat} {w : Bool} {k : Nat} {T : Tre} {d b : Nat} {E : Nat → Nat} (h : (T []).1 = 1) : AtT F (n + 1) w k T d b E = (rowIs F b 6 0 0 d ∧ pBr F (6 * b) = nI (E (T []).2)) := by
  rw [AtT, if_neg (by omega), if_pos h]
theorem txt_2 {n : Nat} {w : Bool} {k : Nat} {T : Tre} (h : (T []).1 = 2) : txt (n + 1) w k T = 33 :: (T []).2 :: 46 :: txt n w k (tsub T 0) := by
  rw [txt, if_neg (by omega), if_neg (by omega), if_pos h]
theorem siz_2 {n : Nat} {w : Bool} {T : Tre} (h : (T []).1 = 2) : siz (n + 1) w T = 1 + siz n w (tsub T 0) := by
  rw [siz, if_neg (by omega), if_neg (by omega), if_pos h]
theorem AtT_2 {F : PT} {n : Nat} {w : Bool} {k : Nat} {T : Tre} {d b : Nat} {E : Nat → Nat} (h : (T []).1 = 2) : AtT F (n + 1) w k T d b E = (rowIs F b 1 (nI (T []).2) 0 d ∧ pBr F (6 * b) = nI (b + 1) ∧ AtT F n w k (tsub T 0) d (b + 1) E) := by
  rw [AtT, if_neg (by omega), if_neg (by omega), if_pos h]
theorem txt_3 {n : Nat} {w : Bool} {k : Nat} {T : Tre} (h : (T []).1 = 3) : txt (n + 1) w k T = 63 :: (T []).2 :: 46 :: txt n w k (tsub T 0) := by
  rw [txt, if_neg (by omega), if_neg (by omega), if_neg (by omega), if_pos h]
theorem siz_3 {n : Nat} {w : Bool} {T : Tre} (h : (T []).1 = 3) : siz (n + 1) w T = 1 + siz n w (tsub T 0) := by
  rw [siz, if_neg (by omega), if_neg (by omega), if_neg (by omega), if_pos h]
theorem AtT_3 {F : PT} {n : Nat} {w : Bool} {k : Nat} {T : Tre} {d b : Nat} {E : Nat → Nat} (h : (T []).1 = 3) : AtT F (n + 1) w k T d b E = (rowIs F b 2 (nI (T []).2) 0 d ∧ pBr F (6 * b) = nI (b + 1) ∧ AtT F n w k (tsub T 0) d (b + 1) E) := by
  rw [AtT, if_neg (by omega), if_neg (by omega), if_neg (by omega), if_pos h]
theorem txt_4 {n : Nat} {w : Bool} {k : Nat} {T : Tre} (h : (T []).1 = 4) : txt (n + 1) w k T = 33 :: 40 :: (txt n (!w) 0 (tsub T 2) ++ 41 :: 46 :: txt n w k (tsub T 0)) := by
  rw [txt, if_neg (by omega), if_neg (by omega), if_neg (by omega), if_neg (by omega), if_pos h]
theorem siz_4 {n : Nat} {w : Bool} {T : Tre} (h : (T []).1 = 4) : siz (n + 1) w T = 1 + siz n (!w) (tsub T 2) + siz n w (tsub T 0) := by
  rw [siz, if_neg (by omega), if_neg (by omega), if_neg (by omega), if_neg (by omega), if_pos h]
theorem AtT_4 {F : PT} {n : Nat} {w : Bool} {k : Nat} {T : Tre} {d b : Nat} {E : Nat → Nat} (h : (T []).1 = 4) : AtT F (n + 1) w k T d b E = (rowIs F b 1 40 0 d ∧ pIn F b = nI (b + 1) ∧ AtT F n (!w) 0 (tsub T 2) (d + 1) (b + 1) E ∧ pBr F (6 * b) = nI (b + 1 + siz n (!w) (tsub T 2)) ∧ AtT F n w k (tsub T 0) d (b + 1 + siz n (!w) (tsub T 2)) E) := by
  rw [AtT, if_neg (by omega), if_neg (by omega), if_neg (by omega), if_neg (by omega), if_pos h]
theorem txt_5 {n : Nat} {w : Bool} {k : Nat} {T : Tre} (h : (T []).1 = 5) : txt (n + 1) w k T = 63 :: 40 :: (txt n w 0 (tsub T 2) ++ 41 :: 46 :: txt n w k (tsub T 0)) := by
  rw [txt, if_neg (by omega), if_neg (by omega), if_neg (by omega), if_neg (by omega), if_neg (by omega), if_pos h]
theorem siz_5 {n : Nat} {w : Bool} {T : Tre} (h : (T []).1 = 5) : siz (n + 1) w T = 1 + siz n w (tsub T 2) + siz n w (tsub T 0) := by
  rw [siz, if_neg (by omega), if_neg (by omega), if_neg (by omega), if_neg (by omega), if_neg (by omega), if_pos h]
theorem AtT_5 {F : PT} {n : Nat} {w : Bool} {k : Nat} {T : Tre} {d b : Nat} {E : Nat → Nat} (h : (T []).1 = 5) : AtT F (n + 1) w k T d b E = (rowIs F b 2 40 0 d ∧ pIn F b = nI (b + 1) ∧ AtT F n w 0 (tsub T 2) (d + 1) (b + 1) E ∧ pBr F (6 * b) = nI (b + 1 + siz n w (tsub T 2)) ∧ AtT F n w k (tsub T 0) d (b + 1 + siz n w (tsub T 2)) E) := by
  rw [AtT, if_neg (by omega), if_neg (by omega), if_neg (by omega), if_neg (by omega), if_neg (by omega), if_pos h]
theorem txt_6 {n : Nat} {w : Bool} {k : Nat} {T : Tre} (h : (T []).1 = 6) : txt (n + 1) w k T = 43 :: 123 :: 97 :: 58 :: (txt n w k (tsub T 0) ++ 44 :: 98 :: 58 :: (txt n w k (tsub T 1) ++ (if w then [44, 99, 58, 48, 125] else [125]))) := by
  rw [txt, if_neg (by omega), if_neg (by omega), if_neg (by omega), if_neg (by omega), if_neg (by omega), if_neg (by omega), if_pos h]
theorem siz_6 {n : Nat} {w : Bool} {T : Tre} (h : (T []).1 = 6) : siz (n + 1) w T = 1 + siz n w (tsub T 0) + siz n w (tsub T 1) + (if w then 1 else 0) := by
  rw [siz, if_neg (by omega), if_neg (by omega), if_neg (by omega), if_neg (by omega), if_neg (by omega), if_neg (by omega), if_pos h]
theorem AtT_6 {F : PT} {n : Nat} {w : Bool} {k : Nat} {T : Tre} {d b : Nat} {E : Nat → Nat} (h : (T []).1 = 6) : AtT F (n + 1) w k T d b E = (rowIs F b 3 0 (if w then 7 else 3) d ∧ pBr F (6 * b) = nI (b + 1) ∧ AtT F n w k (tsub T 0) d (b + 1) E ∧ pBr F (6 * b + 1) = nI (b + 1 + siz n w (tsub T 0)) ∧ AtT F n w k (tsub T 1) d (b + 1 + siz n w (tsub T 0)) E ∧ (w = true → pBr F (6 * b + 2) = nI (b + 1 + siz n w (tsub T 0) + siz n w (tsub T 1)) ∧ rowIs F (b + 1 + siz n w (tsub T 0) + siz n w (tsub T 1)) 0 0 0 d)) := by
  rw [AtT, if_neg (by omega), if_neg (by omega), if_neg (by omega), if_neg (by omega), if_neg (by omega), if_neg (by omega), if_pos h]
theorem txt_7 {n : Nat} {w : Bool} {k : Nat} {T : Tre} (h : (T []).1 = 7) : txt (n + 1) w k T = 38 :: 123 :: 97 :: 58 :: (txt n w k (tsub T 0) ++ 44 :: 98 :: 58 :: (txt n w k (tsub T 1) ++ (if w then [125] else [44, 99, 58, 48, 125]))) := by
  rw [txt, if_neg (by omega), if_neg (by omega), if_neg (by omega), if_neg (by omega), if_neg (by omega), if_neg (by omega), if_neg (by omega), if_pos h]
theorem siz_7 {n : Nat} {w : Bool} {T : Tre} (h : (T []).1 = 7) : siz (n + 1) w T = 1 + siz n w (tsub T 0) + siz n w (tsub T 1) + (if w then 0 else 1) := by
  rw [siz, if_neg (by omega), if_neg (by omega), if_neg (by omega), if_neg (by omega), if_neg (by omega), if_neg (by omega), if_neg (by omega), if_pos h]
theorem AtT_7 {F : PT} {n : Nat} {w : Bool} {k : Nat} {T : Tre} {d b : Nat} {E : Nat → Nat} (h : (T []).1 = 7) : AtT F (n + 1) w k T d b E = (rowIs F b 4 0 (if w then 3 else 7) d ∧ pBr F (6 * b) = nI (b + 1) ∧ AtT F n w k (tsub T 0) d (b + 1) E ∧ pBr F (6 * b + 1) = nI (b + 1 + siz n w (tsub T 0)) ∧ AtT F n w k (tsub T 1) d (b + 1 + siz n w (tsub T 0)) E ∧ (w = false → pBr F (6 * b + 2) = nI (b + 1 + siz n w (tsub T 0) + siz n w (tsub T 1)) ∧ rowIs F (b + 1 + siz n w (tsub T 0) + siz n w (tsub T 1)) 0 0 0 d)) := by
  rw [AtT, if_neg (by omega), if_neg (by omega), if_neg (by omega), if_neg (by omega), if_neg (by omega), if_neg (by omega), if_neg (by omega), if_pos h]
theorem txt_8 {n : Nat} {w : Bool} {k : Nat} {T : Tre} (h : 8 ≤ (T []).1) : txt (n + 1) w k T = 42 :: (119 + k) :: 46 :: (if (T []).2 = 0 then 33 else 63) :: (if (T []).2 = 0 then 105 else 98) :: 46 :: txt n w (k + 1) (tsub T 0) := by
  rw [txt, if_neg (by omega), if_neg (by omega), if_neg (by omega), if_neg (by omega), if_neg (by omega), if_neg (by omega), if_neg (by omega), if_neg (by omega)]
theorem siz_8 {n : Nat} {w : Bool} {T : Tre} (h : 8 ≤ (T []).1) : siz (n + 1) w T = 2 + siz n w (tsub T 0) := by
  rw [siz, if_neg (by omega), if_neg (by omega), if_neg (by omega), if_neg (by omega), if_neg (by omega), if_neg (by omega), if_neg (by omega), if_neg (by omega)]
theorem AtT_8 {F : PT} {n : Nat} {w : Bool} {k : Nat} {T : Tre} {d b : Nat} {E : Nat → Nat} (h : 8 ≤ (T []).1) : AtT F (n + 1) w k T d b E = (rowIs F b 5 0 0 d ∧ pBr F (6 * b) = nI (b + 1) ∧ rowIs F (b + 1) (if (T []).2 = 0 then 1 else 2) (if (T []).2 = 0 then 105 else 98) 0 d ∧ pBr F (6 * (b + 1)) = nI (b + 2) ∧ AtT F n w (k + 1) (tsub T 0) d (b + 2) (fun j => if j = k then b else E j)) := by
  rw [AtT, if_neg (by omega), if_neg (by omega), if_neg (by omega), if_neg (by omega), if_neg (by omega), if_neg (by omega), if_neg (by omega), if_neg (by omega)]
abbrev setS (G : RT) (i : Nat) (s : Int32) : RT := (pK (P6 G), upd (pS (P6 G)) i s, pLt (P6 G), pLb (P6 G), pDp (P6 G), pIn (P6 G), pBr (P6 G), pSt (P6 G))
abbrev setIn (G : RT) (i : Nat) (s : Int32) : RT := (pK (P6 G), pS (P6 G), pLt (P6 G), pLb (P6 G), pDp (P6 G), upd (pIn (P6 G)) i s, pBr (P6 G), pSt (P6 G))
abbrev setLt (G : RT) (i : Nat) (s : Int32) : RT := (pK (P6 G), pS (P6 G), upd (pLt (P6 G)) i s, pLb (P6 G), pDp (P6 G), pIn (P6 G), pBr (P6 G), pSt (P6 G))
theorem setS_below (G : RT) {i b : Nat} (s : Int32) (h : b ≤ i) : EqB b (P6 G) (P6 (setS G i s)) := ⟨fun j hj => ⟨rfl, upd_ne _ _ _ (by omega), rfl, rfl, rfl, rfl⟩, fun _ _ => rfl⟩
theorem setLt_below (G : RT) {i b : Nat} (s : Int32) (h : b ≤ i) : EqB b (P6 G) (P6 (setLt G i s)) := ⟨fun j hj => ⟨rfl, rfl, upd_ne _ _ _ (by omega), rfl, rfl, rfl⟩, fun _ _ => rfl⟩
theorem setIn_below (G : RT) {i b : Nat} (s : Int32) (h : b ≤ i) : EqB b (P6 G) (P6 (setIn G i s)) := ⟨fun j hj => ⟨rfl, rfl, rfl, rfl, rfl, upd_ne _ _ _ (by omega)⟩, fun _ _ => rfl⟩
theorem setIn_reg (G : RT) {i b c : Nat} (s : Int32) (h : i < b) : EqR b c (P6 G) (P6 (setIn G i s)) := ⟨fun j hj _ => ⟨rfl, rfl, rfl, rfl, rfl, upd_ne _ _ _ (by omega)⟩, fun _ _ _ => rfl⟩
theorem HdR.below {k lt br v : Int32} {d b : Nat} {lk : Option Nat} {G G2 : RT} {Ar Ar2 : Nat → Int32} (h : HdR k lt br v d b lk G Ar G2 Ar2) : ∀ i, i < b → pK (P6 G2) i = pK (P6 G) i ∧ pLt (P6 G2) i = pLt (P6 G) i ∧ Ar2 i = Ar i := fun i hi => ⟨(h.2.2.2.2.2.1 i hi).1, (h.2.2.2.2.2.1 i hi).2.2.1, h.2.2.2.2.1 i hi⟩
theorem fin_23 {k lt br v s : Int32} {d b c : Nat} {lk : Option Nat} {G G2 G4 : RT} {Ar Ar2 : Nat → Int32} (hd : HdR k lt br v d b lk G Ar G2 Ar2) (hl : LowR (some b) c (P6 (setS G2 b s)) (P6 G4)) : LowR lk b (P6 G) (P6 G4) ∧ rowIs (P6 G4) b k s 0 d ∧ pBr (P6 G4) (6 * b) = nI c := by
  obtain ⟨h1, h2, h3, h4, h5, h6⟩ := hd
  have hr : rowIs (P6 (setS G2 b s)) b k s 0 d := ⟨h1.1, upd_self _ _ _, h1.2.2.1, h1.2.2.2⟩
  obtain ⟨r1, -, r3⟩ := hl.row hr
  exact ⟨(h6.then (setS_below G2 s (Nat.le_refl b))).then hl.below, r1, r3⟩
theorem fin_45 {k lt br v : Int32} {d b c : Nat} {lk : Option Nat} {G G2 G3 G4 : RT} {Ar Ar2 : Nat → Int32} {n : Nat} {w : Bool} {T : Tre} {E : Nat → Nat} (hd : HdR k lt br v d b lk G Ar G2 Ar2) (he : EqB (b + 1) (P6 (setS G2 b 40)) (P6 G3)) (ht : AtT (P6 G3) n w 0 T (d + 1) (b + 1) E) (hc : c = b + 1 + siz n w T) (hl : LowR (some b) c (P6 (setIn G3 b (nI (b + 1)))) (P6 G4)) : LowR lk b (P6 G) (P6 G4) ∧ rowIs (P6 G4) b k 40 0 d ∧ pIn (P6 G4) b = nI (b + 1) ∧ AtT (P6 G4) n w 0 T (d + 1) (b + 1) E ∧ pBr (P6 G4) (6 * b) = nI c := by
  obtain ⟨h1, h2, h3, h4, h5, h6⟩ := hd
  have hr : rowIs (P6 (setS G2 b 40)) b k 40 0 d := ⟨h1.1, upd_self _ _ _, h1.2.2.1, h1.2.2.2⟩
  have hr3 : rowIs (P6 (setIn G3 b (nI (b + 1)))) b k 40 0 d := by
    have := hr.kept (r := 0) he.R (by omega) (Nat.lt_succ_self b)
    exact ⟨this.1, this.2.1, this.2.2.1, this.2.2.2⟩
  obtain ⟨r1, r2, r3⟩ := hl.row hr3
  exact ⟨(((h6.then (setS_below G2 40 (Nat.le_refl b))).then (he.le (Nat.le_succ b))).then (setIn_below G3 _ (Nat.le_refl b))).then hl.below, r1, r2.trans (upd_self _ _ _), (ht.kept (setIn_reg (c := c) G3 _ (Nat.lt_succ_self b)) (Nat.le_refl _) (by omega)).kept hl.reg (Nat.le_refl _) (by omega), r3⟩
theorem SX.below {b c : Nat} {F F' : PT} (h : SX b c F F') (hc : b ≤ c) : EqB b F F' := by
  refine ⟨fun i hi => ?_, fun i hi => h.2 i (by omega) (by omega)⟩
  obtain ⟨a1, a2, a3, a4, a5, a6⟩ := h.1 i (by omega)
  exact ⟨a1, a2, a3, a6 (by omega), a4, a5⟩
theorem fin_67 {three : Bool} {k lt br v : Int32} {d b n kl : Nat} {w : Bool} {T0 T1 : Tre} {E : Nat → Nat} {lk : Option Nat} {G G2 G4 : RT} {Ar Ar2 Ar4 : Nat → Int32} (hd : HdR k lt br v d b lk G Ar G2 Ar2) (hb : BrcR three n w kl T0 T1 d b (b + 1) E G2 Ar2 G4 Ar4) : LowR lk b (P6 G) (P6 G4) ∧ rowIs (P6 G4) b k 0 (if three then 7 else 3) d ∧ ∀ i, i < b → Ar4 i = Ar i := by
  obtain ⟨h1, h2, h3, h4, h5, h6⟩ := hd
  obtain ⟨b1, b2, -, -, -, -, -, b8⟩ := hb
  obtain ⟨a1, a2, a3, a4, a5, a6⟩ := b1.1 b (Nat.lt_succ_self b)
  exact ⟨h6.then (b1.below (Nat.le_succ b)), ⟨a1.trans h1.1, a2.trans h1.2.1, b2, a4.trans h1.2.2.2⟩, fun i hi => (b8 i (by omega)).trans (h5 i hi)⟩
theorem fin_8 {lt lt4 br br4 v v4 s kk x : Int32} {d b : Nat} {lk : Option Nat} {G G2 G4 G6 : RT} {Ar Ar2 Ar4 : Nat → Int32} (hd : HdR 5 lt br v d b lk G Ar G2 Ar2) (hd4 : HdR kk lt4 br4 v4 d (b + 1) (some b) (setLt G2 b x) Ar2 G4 Ar4) (hl : LowR (some (b + 1)) (b + 2) (P6 (setS G4 (b + 1) s)) (P6 G6)) : LowR lk b (P6 G) (P6 G6) ∧ rowIs (P6 G6) b 5 0 0 d ∧ pBr (P6 G6) (6 * b) = nI (b + 1) ∧ rowIs (P6 G6) (b + 1) kk s 0 d ∧ pBr (P6 G6) (6 * (b + 1)) = nI (b + 2) := by
  obtain ⟨f1, f2, f3⟩ := fin_23 hd4 hl
  obtain ⟨h1, h2, h3, h4, h5, h6⟩ := hd
  obtain ⟨r1, r2, r3⟩ := f1.row (show rowIs (P6 (setLt G2 b x)) b 5 0 0 d from h1)
  exact ⟨(h6.then (setLt_below G2 x (Nat.le_refl b))).then f1.below, r1, r3, f2, f3⟩