theorem LpsOK.mono2 {G G' : RT} {Ar Ar' : Nat → Int32} {b b' k : Nat} {E : Nat → Nat} {v : Int32} (h : LpsOK G Ar b k E v) (hK : ∀ i, i < b → pK (P6 G') i = pK (P6 G) i ∧ pLt (P6 G') i = pLt (P6 G) i ∧ Ar' i = Ar i) (hb : b ≤ b') : LpsOK G' Ar' b' k E v := by
  intro j hj
  obtain ⟨pre, h1, h2, x, hx, hn⟩ := h j hj
  exact ⟨pre, h1.mono hb (fun i hi => (hK i hi).1) (fun i hi => (hK i hi).2.1) (fun i hi => (hK i hi).2.2), by omega, x, hx, by rw [(hK x (h1.mem x hx)).1]; exact hn⟩
/-- a LABEL more, and what is behind it -/
abbrev addB (G : RT) (nd j fs : Nat) : RT := (pK (P6 G), pS (P6 G), pLt (P6 G), upd (pLb (P6 G)) nd (nI (2 ^ (j + 1) - 1)), pDp (P6 G), pIn (P6 G), upd (pBr (P6 G)) (6 * nd + j) (nI fs), pSt (P6 G))
/-- the rows below b are alike, but for the LABELS of nd -/
def SX (nd b : Nat) (F F' : PT) : Prop := (∀ i, i < b → pK F' i = pK F i ∧ pS F' i = pS F i ∧ pLt F' i = pLt F i ∧ pDp F' i = pDp F i ∧ pIn F' i = pIn F i ∧ (¬ i = nd → pLb F' i = pLb F i)) ∧ ∀ i, i < 6 * b → ¬ (6 * nd ≤ i ∧ i < 6 * nd + 3) → pBr F' i = pBr F i
theorem SX.eqB {nd b c : Nat} {F F' F'' : PT} (h : SX nd b F F') (he : EqB c F' F'') (hc : b ≤ c) : SX nd b F F'' := by
  refine ⟨fun i hi => ?_, fun i hi hn => (he.2 i (by omega)).trans (h.2 i hi hn)⟩
  obtain ⟨a1, a2, a3, a4, a5, a6⟩ := h.1 i hi
  obtain ⟨b1, b2, b3, b4, b5, b6⟩ := he.1 i (by omega)
  exact ⟨b1.trans a1, b2.trans a2, b3.trans a3, b5.trans a4, b6.trans a5, fun hn => b4.trans (a6 hn)⟩
theorem SX.rf (nd b : Nat) (F : PT) : SX nd b F F := ⟨fun _ _ => ⟨rfl, rfl, rfl, rfl, rfl, fun _ => rfl⟩, fun _ _ _ => rfl⟩
theorem SX.add {nd b j fs : Nat} {F : PT} {G' : RT} (h : SX nd b F (P6 G')) (hj : j < 3) : SX nd b F (P6 (addB G' nd j fs)) := by
  refine ⟨fun i hi => ?_, fun i hi hn => (upd_ne _ _ _ (by omega)).trans (h.2 i hi hn)⟩
  obtain ⟨a1, a2, a3, a4, a5, a6⟩ := h.1 i hi
  exact ⟨a1, a2, a3, a4, a5, fun hn => (upd_ne _ _ _ hn).trans (a6 hn)⟩
theorem addB_reg {nd b c j fs : Nat} {G : RT} (hn : nd < b) (hj : j < 3) : EqR b c (P6 G) (P6 (addB G nd j fs)) :=
  ⟨fun i h1 _ => ⟨rfl, rfl, rfl, upd_ne _ _ _ (by omega), rfl, rfl⟩, fun i h1 _ => upd_ne _ _ _ (by omega)⟩
def BrcR (three : Bool) (m : Nat) (w : Bool) (k : Nat) (T0 T1 : Tre) (d nd b : Nat) (E : Nat → Nat) (G : RT) (Ar : Nat → Int32) (G' : RT) (Ar' : Nat → Int32) : Prop := SX nd b (P6 G) (P6 G') ∧ pLb (P6 G') nd = (if three then 7 else 3) ∧ pBr (P6 G') (6 * nd) = nI b ∧ pBr (P6 G') (6 * nd + 1) = nI (b + siz m w T0) ∧ (three = true → pBr (P6 G') (6 * nd + 2) = nI (b + siz m w T0 + siz m w T1) ∧ rowIs (P6 G') (b + siz m w T0 + siz m w T1) 0 0 0 d) ∧ AtT (P6 G') m w k T0 d b E ∧ AtT (P6 G') m w k T1 d (b + siz m w T0) E ∧ ∀ i, i < b → Ar' i = Ar i
theorem brc2 {m : Nat} {w : Bool} {k : Nat} {T0 T1 : Tre} {d nd b : Nat} {E : Nat → Nat} {G G1 G2 : RT} {Ar A1 A2 : Nat → Int32} (hnd : nd < b) (e1 : EqB b (P6 G) (P6 G1)) (r1 : ∀ i, i < b → A1 i = Ar i) (t1 : AtT (P6 G1) m w k T0 d b E) (e2 : EqB (b + siz m w T0) (P6 (addB G1 nd 0 b)) (P6 G2)) (r2 : ∀ i, i < b + siz m w T0 → A2 i = A1 i) (t2 : AtT (P6 G2) m w k T1 d (b + siz m w T0) E) : BrcR false m w k T0 T1 d nd b E G Ar (addB G2 nd 1 (b + siz m w T0)) A2 := by
  have p0 := siz_pos m w T0
  refine ⟨((((SX.rf nd b _).eqB e1 (Nat.le_refl _)).add (by omega)).eqB e2 (by omega)).add (by omega), upd_self _ _ _, ?_, upd_self _ _ _, (fun q => by cases q), ?_, ?_, fun i hi => (r2 i (by omega)).trans (r1 i hi)⟩
  · exact (upd_ne _ _ _ (by omega)).trans ((e2.2 _ (by omega)).trans (upd_self _ _ _))
  · exact ((t1.kept (addB_reg (c := b + siz m w T0) hnd (by omega)) (Nat.le_refl _) (Nat.le_refl _)).kept e2.R (Nat.le_refl _) (Nat.le_refl _)).kept (addB_reg (c := b + siz m w T0) hnd (by omega)) (Nat.le_refl _) (Nat.le_refl _)
  · exact t2.kept (addB_reg (b := b) (c := b + siz m w T0 + siz m w T1) hnd (by omega)) (by omega) (Nat.le_refl _)
theorem brc3 {m : Nat} {w : Bool} {k : Nat} {T0 T1 : Tre} {d nd b : Nat} {E : Nat → Nat} {G G1 G2 G3 : RT} {Ar A1 A2 A3 : Nat → Int32} (hnd : nd < b) (e1 : EqB b (P6 G) (P6 G1)) (r1 : ∀ i, i < b → A1 i = Ar i) (t1 : AtT (P6 G1) m w k T0 d b E) (e2 : EqB (b + siz m w T0) (P6 (addB G1 nd 0 b)) (P6 G2)) (r2 : ∀ i, i < b + siz m w T0 → A2 i = A1 i) (t2 : AtT (P6 G2) m w k T1 d (b + siz m w T0) E) (e3 : EqB (b + siz m w T0 + siz m w T1) (P6 (addB G2 nd 1 (b + siz m w T0))) (P6 G3)) (r3 : ∀ i, i < b + siz m w T0 + siz m w T1 → A3 i = A2 i) (t3 : rowIs (P6 G3) (b + siz m w T0 + siz m w T1) 0 0 0 d) : BrcR true m w k T0 T1 d nd b E G Ar (addB G3 nd 2 (b + siz m w T0 + siz m w T1)) A3 := by
  have p0 := siz_pos m w T0
  have p1 := siz_pos m w T1
  obtain ⟨x1, x2, x3, x4, -, x6, x7, x8⟩ := brc2 hnd e1 r1 t1 e2 r2 t2
  refine ⟨(x1.eqB e3 (by omega)).add (by omega), upd_self _ _ _, ?_, ?_, fun _ => ⟨upd_self _ _ _, ?_⟩, ?_, ?_, fun i hi => (r3 i (by omega)).trans (x8 i hi)⟩
  · exact (upd_ne _ _ _ (by omega)).trans ((e3.2 _ (by omega)).trans x3)
  · exact (upd_ne _ _ _ (by omega)).trans ((e3.2 _ (by omega)).trans x4)
  · exact ⟨t3.1, t3.2.1, (upd_ne _ _ _ (by omega)).trans t3.2.2.1, t3.2.2.2⟩
  · exact (x6.kept (r := b) (e3.le (b := b + siz m w T0) (by omega)).R (by omega) (Nat.le_refl _)).kept (addB_reg (c := b + siz m w T0) hnd (by omega)) (Nat.le_refl _) (Nat.le_refl _)
  · exact (x7.kept (r := b) e3.R (by omega) (Nat.le_refl _)).kept (addB_reg (b := b) (c := b + siz m w T0 + siz m w T1) hnd (by omega)) (by omega) (Nat.le_refl _)
