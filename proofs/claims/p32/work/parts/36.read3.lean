/-! the LOOPS around, and what a step of the reader does to them -/
def LpsOK (G : RT) (Ar : Nat → Int32) (b k : Nat) (E : Nat → Nat) (v : Int32) : Prop := ∀ j, j < k → ∃ pre, LpF (pK (P6 G)) (pLt (P6 G)) Ar b (nI (119 + j)) (E j) pre v ∧ pre.length ≤ b ∧ ∃ x ∈ pre, ¬ pK (P6 G) x = 5
theorem LpF.tgt {K Lt Ar : Nat → Int32} {n : Nat} {c : Int32} {l : Nat} : ∀ {pre : List Nat} {v : Int32}, LpF K Lt Ar n c l pre v → l < n
  | [], _, ⟨_, h, _, _⟩ => h
  | _ :: _, _, ⟨_, _, _, h⟩ => LpF.tgt h
theorem LpsOK.mono {G G' : RT} {Ar Ar' : Nat → Int32} {b b' k : Nat} {E : Nat → Nat} {v : Int32} (h : LpsOK G Ar b k E v) (he : EqB b (P6 G) (P6 G')) (hA : ∀ i, i < b → Ar' i = Ar i) (hb : b ≤ b') : LpsOK G' Ar' b' k E v := by
  intro j hj
  obtain ⟨pre, h1, h2, x, hx, hn⟩ := h j hj
  exact ⟨pre, h1.mono hb (fun i hi => (he.1 i hi).1) (fun i hi => (he.1 i hi).2.2.1) hA, by omega, x, hx, by rw [(he.1 x (h1.mem x hx)).1]; exact hn⟩
theorem LpsOK.none {G : RT} {Ar : Nat → Int32} {b : Nat} {E : Nat → Nat} {v : Int32} : LpsOK G Ar b 0 E v := fun j hj => absurd hj (by omega)
/-- one node more, none of a LOOP's -/
theorem LpsOK.push {G G' : RT} {Ar Ar' : Nat → Int32} {b k : Nat} {E : Nat → Nat} {v : Int32} (h : LpsOK G Ar b k E v) (hK : ∀ i, i < b → pK (P6 G') i = pK (P6 G) i ∧ pLt (P6 G') i = pLt (P6 G) i ∧ Ar' i = Ar i) (h5 : ¬ pK (P6 G') b = 5) (hv : Ar' b = v) : LpsOK G' Ar' (b + 1) k E (nI b) := by
  intro j hj
  obtain ⟨pre, h1, h2, -⟩ := h j hj
  refine ⟨b :: pre, ⟨rfl, by omega, fun q => absurd q h5, ?_⟩, by simp; omega, b, List.mem_cons_self, h5⟩
  rw [hv]
  exact h1.mono (by omega) (fun i hi => (hK i hi).1) (fun i hi => (hK i hi).2.1) (fun i hi => (hK i hi).2.2)
/-- a LOOP and the node behind it -/
theorem LpsOK.loop {G G' : RT} {Ar Ar' : Nat → Int32} {b k : Nat} {E : Nat → Nat} {v : Int32} (h : LpsOK G Ar b k E v) (hk : k < 4) (hK : ∀ i, i < b → pK (P6 G') i = pK (P6 G) i ∧ pLt (P6 G') i = pLt (P6 G) i ∧ Ar' i = Ar i) (h5 : pK (P6 G') b = 5) (hl : pLt (P6 G') b = nI (119 + k)) (hv : Ar' b = v) (h6 : ¬ pK (P6 G') (b + 1) = 5) (hv2 : Ar' (b + 1) = nI b) : LpsOK G' Ar' (b + 2) (k + 1) (fun j => if j = k then b else E j) (nI (b + 1)) := by
  intro j hj
  by_cases hjk : j = k
  · subst hjk
    refine ⟨[b + 1], ⟨rfl, by omega, fun q => absurd q h6, ?_⟩, by simp, b + 1, List.mem_cons_self, h6⟩
    rw [hv2]
    show LpF _ _ _ _ _ (if j = j then b else E j) _ _
    rw [if_pos rfl]
    exact ⟨rfl, by omega, h5, hl⟩
  · obtain ⟨pre, h1, h2, -⟩ := h j (by omega)
    refine ⟨(b + 1) :: b :: pre, ⟨rfl, by omega, fun q => absurd q h6, ?_⟩, by simp; omega, b + 1, List.mem_cons_self, h6⟩
    rw [hv2]
    show LpF _ _ _ _ _ (if j = k then b else E j) _ _
    rw [if_neg hjk]
    refine ⟨rfl, by omega, fun _ q => ?_, ?_⟩
    · rw [hl] at q
      have := (nI_eq (by omega) (by omega)).mp q
      omega
    · rw [hv]
      exact h1.mono (by omega) (fun i hi => (hK i hi).1) (fun i hi => (hK i hi).2.1) (fun i hi => (hK i hi).2.2)
theorem upd_self (f : Nat → Int32) (i : Nat) (v : Int32) : upd f i v i = v := by simp [upd]
theorem upd_ne (f : Nat → Int32) (i : Nat) (v : Int32) {j : Nat} (h : ¬ j = i) : upd f i v j = f j := by simp [upd, h]
/-- what a head leaves: the row b, a link to it, the rest as it was -/
def HdR (k lt br v : Int32) (d b : Nat) (lk : Option Nat) (G : RT) (Ar : Nat → Int32) (G2 : RT) (Ar2 : Nat → Int32) : Prop := rowIs (P6 G2) b k 0 0 d ∧ pLt (P6 G2) b = lt ∧ pBr (P6 G2) (6 * b) = br ∧ Ar2 b = v ∧ (∀ i, i < b → Ar2 i = Ar i) ∧ LowR lk b (P6 G) (P6 G2)
theorem head_none (G : RT) (Ar : Nat → Int32) (b d : Nat) (k lt br v : Int32) : HdR k lt br v d b none G Ar (upd (pK (P6 G)) b k, upd (pS (P6 G)) b 0, upd (pLt (P6 G)) b lt, upd (pLb (P6 G)) b 0, upd (pDp (P6 G)) b (nI d), upd (pIn (P6 G)) b (-1), upd (pBr (P6 G)) (6 * b) br, pSt (P6 G)) (upd Ar b v) := by
  refine ⟨⟨upd_self _ _ _, upd_self _ _ _, upd_self _ _ _, upd_self _ _ _⟩, upd_self _ _ _, upd_self _ _ _, upd_self _ _ _, fun i hi => upd_ne _ _ _ (by omega), fun i hi => ?_, fun i hi _ => upd_ne _ _ _ (by omega), fun t ht => by cases ht⟩
  have h : ¬ i = b := by omega
  exact ⟨upd_ne _ _ _ h, upd_ne _ _ _ h, upd_ne _ _ _ h, upd_ne _ _ _ h, upd_ne _ _ _ h, upd_ne _ _ _ h⟩
theorem head_some {G G2 : RT} {Ar Ar2 : Nat → Int32} {b d u : Nat} {k lt br v : Int32} (h : HdR k lt br v d b none G Ar G2 Ar2) (hu : u < b) : HdR k lt br v d b (some u) G Ar (pK (P6 G2), pS (P6 G2), pLt (P6 G2), pLb (P6 G2), pDp (P6 G2), pIn (P6 G2), upd (pBr (P6 G2)) (6 * u) (nI b), pSt (P6 G2)) Ar2 := by
  obtain ⟨h1, h2, h3, h4, h5, h6, h7, h8⟩ := h
  refine ⟨h1, h2, (upd_ne _ _ _ (by omega)).trans h3, h4, h5, h6, fun i hi hn => (upd_ne _ _ _ (hn u rfl)).trans (h7 i hi (fun t ht => by cases ht)), fun t ht => ?_⟩
  cases ht
  exact ⟨hu, upd_self _ _ _⟩
theorem LowR.then {lk : Option Nat} {b : Nat} {F F' F'' : PT} (h : LowR lk b F F') (he : EqB b F' F'') : LowR lk b F F'' := by
  refine ⟨fun i hi => ?_, fun i hi hn => (he.2 i hi).trans (h.2.1 i hi hn), fun t ht => ⟨(h.2.2 t ht).1, (he.2 _ (by have := (h.2.2 t ht).1; omega)).trans (h.2.2 t ht).2⟩⟩
  obtain ⟨a1, a2, a3, a4, a5, a6⟩ := h.1 i hi
  obtain ⟨b1, b2, b3, b4, b5, b6⟩ := he.1 i hi
  exact ⟨b1.trans a1, b2.trans a2, b3.trans a3, b4.trans a4, b5.trans a5, b6.trans a6⟩
/-- a link to c out of u: below u nothing, at u the link alone -/
theorem LowR.below {u c : Nat} {F F' : PT} (h : LowR (some u) c F F') : EqB u F F' := by
  have hu := (h.2.2 u rfl).1
  exact ⟨fun i hi => h.1 i (by omega), fun i hi => h.2.1 i (by omega) (fun t ht => by cases ht; omega)⟩
theorem LowR.row {u c : Nat} {F F' : PT} (h : LowR (some u) c F F') {k s lb : Int32} {d : Nat} (hr : rowIs F u k s lb d) : rowIs F' u k s lb d ∧ pIn F' u = pIn F u ∧ pBr F' (6 * u) = nI c := by
  obtain ⟨hu, hb⟩ := h.2.2 u rfl
  obtain ⟨a1, a2, a3, a4, a5, a6⟩ := h.1 u hu
  exact ⟨⟨a1.trans hr.1, a2.trans hr.2.1, a4.trans hr.2.2.1, a5.trans hr.2.2.2⟩, a6, hb⟩
theorem LowR.reg {u c : Nat} {F F' : PT} (h : LowR (some u) c F F') : EqR (u + 1) c F F' := ⟨fun i h1 h2 => h.1 i h2, fun i h1 h2 => h.2.1 i h2 (fun t ht => by cases ht; omega)⟩
/-- what a tree's reading leaves -/
def TkPost (z : Nat → ClassId) (h : Nat → Option va_E) (hi rd tp ln ap b n : Nat) (w : Bool) (k : Nat) (T : Tre) (d : Nat) (E : Nat → Nat) (G : RT) (Ar tx : Nat → Int32) (r : Int32) (hi' : Nat) (h' : Nat → Option va_E) : Prop := r = nI b ∧ hi' = hi ∧ (∀ q, (q < rd ∨ rd + 11 ≤ q) → h' q = h q) ∧ ∃ G' Ar', RdS z h' rd tp ln (ap + (txt n w k T).length) (b + siz n w T) G' Ar' tx ∧ EqB b (P6 G) (P6 G') ∧ (∀ i, i < b → Ar' i = Ar i) ∧ AtT (P6 G') n w k T d b E
abbrev rmTk (n : Nat) : Room := { frames := 10 + 3 * n, cells := 0, slots := 0, locals := 400 + 200 * n }
abbrev rmSb (n : Nat) : Room := { frames := 12 + 3 * n, cells := 0, slots := 0, locals := 500 + 200 * n }
def TalkC (n : Nat) : Prop := ∀ (w : Bool) (k : Nat) (T : Tre) (E : Nat → Nat) (d op : Nat) (v : Int32) (l : Launch) (D : va_G) (z : Nat → ClassId) (B : Heap) (lo hi : Nat) (h : Nat → Option va_E) (rd tp ln ap b : Nat) (G : RT) (Ar tx : Nat → Int32), RdS z h rd tp ln ap b G Ar tx → tp < rd → okT n k T → LpsOK G Ar b k E v → TxA tx ap (txt n w k T) → ap + (txt n w k T).length ≤ ln → ln ≤ 200 → b + siz n w T ≤ 60 → op + n ≤ 8 → Met l yX8_readTalk wsX8_readTalk (rmTk n) (KP D vwCl B lo hi h (ty6 z) [.ref rd, .int v, .int (nI op), .int (nI d)]) (KQi D vwCl B lo (ty6 z) (TkPost z h hi rd tp ln ap b n w k T d E G Ar tx)) 0 0 (fun q => lo ≤ q)
