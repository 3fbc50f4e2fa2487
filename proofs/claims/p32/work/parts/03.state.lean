/-! words for the heap's contents, and small rows on numbers -/
abbrev ty6 (z : Nat → ClassId) : List (ClassId × FieldType) := [(z 0, .byte), (z 1, .int), (z 2, .long), (z 3, .object RX2), (z 4, .object RX5), (z 5, .object RX7)]
theorem vin_aa {i : Int32} {n : Nat} (h0 : ¬ i < 0) (h1 : ¬ nI n ≤ i) (hn : n < 2 ^ 31) : vp_in i n := by
  refine vp_in_iff.mpr ⟨?_, ?_⟩
  · rw [Int32.lt_iff_toInt_lt, Int32.toInt_zero] at h0; omega
  · rw [Int32.le_iff_toInt_le, nI_toInt hn] at h1; omega
theorem vin_ab {i : Int32} {n : Nat} (h0 : ¬ i < 0) (h1 : i < nI n) (hn : n < 2 ^ 31) : vp_in i n := vin_aa h0 (Int32.not_le.mpr h1) hn
theorem vin_ba {i : Int32} {n : Nat} (h0 : 0 ≤ i) (h1 : ¬ nI n ≤ i) (hn : n < 2 ^ 31) : vp_in i n := vin_aa (Int32.not_lt.mpr h0) h1 hn
theorem vin_bb {i : Int32} {n : Nat} (h0 : 0 ≤ i) (h1 : i < nI n) (hn : n < 2 ^ 31) : vp_in i n := vin_ba h0 (Int32.not_le.mpr h1) hn
/-- a guarded read: d beyond the row's ends -/
def rd (n : Nat) (f : Nat → Int32) (d : Int32) (i : Int32) : Int32 := if 0 ≤ i.toInt ∧ i.toInt < n then f i.toNatClampNeg else d
theorem rd_in {n : Nat} {f : Nat → Int32} {d i : Int32} (h : vp_in i n) : rd n f d i = f i.toNatClampNeg := if_pos (vp_in_iff.mp h)
theorem rd_lo {n : Nat} {f : Nat → Int32} {d i : Int32} (h : i < 0) : rd n f d i = d := if_neg (fun z => by rw [Int32.lt_iff_toInt_lt, Int32.toInt_zero] at h; omega)
theorem rd_hi {n : Nat} {f : Nat → Int32} {d i : Int32} (hn : n < 2 ^ 31) (h : nI n ≤ i) : rd n f d i = d := if_neg (fun z => by rw [Int32.le_iff_toInt_le, nI_toInt hn] at h; omega)
theorem rd_nat {n : Nat} {f : Nat → Int32} {d : Int32} {j : Nat} (hj : j < n) (hn : n < 2 ^ 31) : rd n f d (nI j) = f j := by rw [rd_in (vp_in_nI hj hn), nI_clamp (by omega)]
/-- a PROTOCOL at a: its rows lie behind it -/
def Pc8 : Type := (Nat → Int32) × (Nat → Int32) × (Nat → Int32) × (Nat → Int32) × (Nat → Int32) × (Nat → Int32) × (Nat → Int32) × (Nat → Int32)
def prO (a : Nat) (nd : Int32) : va_E := .inr (9, [.int nd, .ref (a + 1), .ref (a + 2), .ref (a + 3), .ref (a + 4), .ref (a + 5), .ref (a + 6), .ref (a + 7), .ref (a + 8)])
/-- rows of cap (branch: six times that) -/
def PrC (z : Nat → ClassId) (h : Nat → Option va_E) (a : Nat) (nd : Int32) (cap : Nat) (K S Lt Lb Dp In Br St : Nat → Int32) : Prop :=
  h a = some (prO a nd) ∧ h (a + 1) = some (.inl (z 1, cap, .inl K)) ∧ h (a + 2) = some (.inl (z 1, cap, .inl S)) ∧ h (a + 3) = some (.inl (z 1, cap, .inl Lt)) ∧ h (a + 4) = some (.inl (z 1, cap, .inl Lb)) ∧ h (a + 5) = some (.inl (z 1, cap, .inl Dp)) ∧ h (a + 6) = some (.inl (z 1, cap, .inl In)) ∧ h (a + 7) = some (.inl (z 1, 6 * cap, .inl Br)) ∧ h (a + 8) = some (.inl (z 1, cap, .inl St))
