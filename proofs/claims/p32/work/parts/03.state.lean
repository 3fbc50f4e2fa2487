/-! words for the heap's contents, and small rows on numbers -/
abbrev ty6 (z : Nat → ClassId) : List (ClassId × FieldType) := [(z 0, .byte), (z 1, .int), (z 2, .long), (z 3, .object RX2), (z 4, .object RX5), (z 5, .object RX7)]
theorem vin_aa {i : Int32} {n : Nat} (h0 : ¬ i < 0) (h1 : ¬ nI n ≤ i) (hn : n < 2 ^ 31) : vp_in i n := by
  refine vp_in_iff.mpr ⟨?_, ?_⟩
  · rw [Int32.lt_iff_toInt_lt, Int32.toInt_zero] at h0; omega
  · rw [Int32.le_iff_toInt_le, nI_toInt hn] at h1; omega
theorem vin_ab {i : Int32} {n : Nat} (h0 : ¬ i < 0) (h1 : i < nI n) (hn : n < 2 ^ 31) : vp_in i n := vin_aa h0 (Int32.not_le.mpr h1) hn
theorem vin_ba {i : Int32} {n : Nat} (h0 : 0 ≤ i) (h1 : ¬ nI n ≤ i) (hn : n < 2 ^ 31) : vp_in i n := vin_aa (Int32.not_lt.mpr h0) h1 hn
theorem vin_bb {i : Int32} {n : Nat} (h0 : 0 ≤ i) (h1 : i < nI n) (hn : n < 2 ^ 31) : vp_in i n := vin_ba h0 (Int32.not_le.mpr h1) hn
/-- a guarded read: d beyond the row's ends -/
def rd (n : Nat) (f : Nat → Int32) (d : Int32) (i : Int32) : Int32 := if 0 ≤ i.toInt ∧ i.toInt < n then f i.toNatClampNeg else d
theorem rd_in {n : Nat} {f : Nat → Int32} {d i : Int32} (h : vp_in i n) : rd n f d i = f i.toNatClampNeg := if_pos (vp_in_iff.mp h)
theorem rd_lo {n : Nat} {f : Nat → Int32} {d i : Int32} (h : i < 0) : rd n f d i = d := if_neg (fun z => by rw [Int32.lt_iff_toInt_lt, Int32.toInt_zero] at h; omega)
theorem rd_hi {n : Nat} {f : Nat → Int32} {d i : Int32} (hn : n < 2 ^ 31) (h : nI n ≤ i) : rd n f d i = d := if_neg (fun z => by rw [Int32.le_iff_toInt_le, nI_toInt hn] at h; omega)
theorem rd_nat {n : Nat} {f : Nat → Int32} {d : Int32} {j : Nat} (hj : j < n) (hn : n < 2 ^ 31) : rd n f d (nI j) = f j := by rw [rd_in (vp_in_nI hj hn), nI_clamp (by omega)]
/-- a PROTOCOL's rows: how many, kind, sort, letter, labels, deep, inner, branch, state -/
abbrev PT : Type := Nat × (Nat → Int32) × (Nat → Int32) × (Nat → Int32) × (Nat → Int32) × (Nat → Int32) × (Nat → Int32) × (Nat → Int32) × (Nat → Int32)
def pcap (T : PT) : Nat := T.1
def pK (T : PT) : Nat → Int32 := T.2.1
def pS (T : PT) : Nat → Int32 := T.2.2.1
def pLt (T : PT) : Nat → Int32 := T.2.2.2.1
def pLb (T : PT) : Nat → Int32 := T.2.2.2.2.1
def pDp (T : PT) : Nat → Int32 := T.2.2.2.2.2.1
def pIn (T : PT) : Nat → Int32 := T.2.2.2.2.2.2.1
def pBr (T : PT) : Nat → Int32 := T.2.2.2.2.2.2.2.1
def pSt (T : PT) : Nat → Int32 := T.2.2.2.2.2.2.2.2
def prO (a : Nat) (nd : Int32) : va_E := .inr (9, [.int nd, .ref (a + 1), .ref (a + 2), .ref (a + 3), .ref (a + 4), .ref (a + 5), .ref (a + 6), .ref (a + 7), .ref (a + 8)])
/-- a PROTOCOL at a: its rows lie behind it -/
def PrC (z : Nat → ClassId) (h : Nat → Option va_E) (a : Nat) (nd : Int32) (T : PT) : Prop :=
  h a = some (prO a nd) ∧ h (a + 1) = some (.inl (z 1, pcap T, .inl (pK T))) ∧ h (a + 2) = some (.inl (z 1, pcap T, .inl (pS T))) ∧ h (a + 3) = some (.inl (z 1, pcap T, .inl (pLt T))) ∧ h (a + 4) = some (.inl (z 1, pcap T, .inl (pLb T))) ∧ h (a + 5) = some (.inl (z 1, pcap T, .inl (pDp T))) ∧ h (a + 6) = some (.inl (z 1, pcap T, .inl (pIn T))) ∧ h (a + 7) = some (.inl (z 1, 6 * pcap T, .inl (pBr T))) ∧ h (a + 8) = some (.inl (z 1, pcap T, .inl (pSt T)))
theorem PrC.kept {z : Nat → ClassId} {h h' : Nat → Option va_E} {a : Nat} {nd : Int32} {T : PT} (hP : PrC z h a nd T) (hf : ∀ q, a ≤ q → q < a + 9 → h' q = h q) : PrC z h' a nd T := by
  obtain ⟨h0, h1, h2, h3, h4, h5, h6, h7, h8⟩ := hP
  refine ⟨(hf _ ?_ ?_).trans h0, (hf _ ?_ ?_).trans h1, (hf _ ?_ ?_).trans h2, (hf _ ?_ ?_).trans h3, (hf _ ?_ ?_).trans h4, (hf _ ?_ ?_).trans h5, (hf _ ?_ ?_).trans h6, (hf _ ?_ ?_).trans h7, (hf _ ?_ ?_).trans h8⟩ <;> omega
theorem i32_add {x y : Int32} (h1 : -2147483648 ≤ x.toInt + y.toInt) (h2 : x.toInt + y.toInt < 2147483648) : (x + y).toInt = x.toInt + y.toInt := by
  rw [Int32.toInt_add, Int.bmod_eq_of_le] <;> omega
theorem i32_sub {x y : Int32} (h1 : -2147483648 ≤ x.toInt - y.toInt) (h2 : x.toInt - y.toInt < 2147483648) : (x - y).toInt = x.toInt - y.toInt := by
  rw [Int32.toInt_sub, Int.bmod_eq_of_le] <;> omega
theorem i32_mul {x y : Int32} (h1 : -2147483648 ≤ x.toInt * y.toInt) (h2 : x.toInt * y.toInt < 2147483648) : (x * y).toInt = x.toInt * y.toInt := by
  rw [Int32.toInt_mul, Int.bmod_eq_of_le] <;> omega
theorem i32_lt {x y : Int32} : x < y ↔ x.toInt < y.toInt := Int32.lt_iff_toInt_lt
theorem i32_le {x y : Int32} : x ≤ y ↔ x.toInt ≤ y.toInt := Int32.le_iff_toInt_le
theorem i32_six (x : Int32) (r : Int32) (hx0 : 0 ≤ x.toInt) (hx : x.toInt < 1000) (hr0 : 0 ≤ r.toInt) (hr : r.toInt < 6) : (x * 6 + r).toInt = x.toInt * 6 + r.toInt := by
  have h6 : (6 : Int32).toInt = 6 := by decide
  have hm : (x * 6).toInt = x.toInt * 6 := by rw [i32_mul] <;> rw [h6] <;> omega
  rw [i32_add] <;> rw [hm] <;> omega
/-- the STATE behind, by a rank -/
def stepf (cap : Nat) (Br St : Nat → Int32) (x r : Int32) : Int32 := if 0 ≤ x.toInt ∧ 0 ≤ r.toInt ∧ r.toInt < 6 ∧ x.toInt * 6 + r.toInt < 6 * cap then rd cap St 0 (Br (x.toInt * 6 + r.toInt).toNat) else 0
def branchf (cap : Nat) (Br : Nat → Int32) (x r : Int32) : Int32 := if 0 ≤ x.toInt ∧ 0 ≤ r.toInt ∧ r.toInt < 6 ∧ x.toInt * 6 + r.toInt < 6 * cap then Br (x.toInt * 6 + r.toInt).toNat else -1
theorem stepf_xlo {cap : Nat} {Br St : Nat → Int32} {x r : Int32} (h : x < 0) : stepf cap Br St x r = 0 := if_neg (fun z => by rw [i32_lt, Int32.toInt_zero] at h; omega)
theorem stepf_rlo {cap : Nat} {Br St : Nat → Int32} {x r : Int32} (h : r < 0) : stepf cap Br St x r = 0 := if_neg (fun z => by rw [i32_lt, Int32.toInt_zero] at h; omega)
theorem stepf_rhi {cap : Nat} {Br St : Nat → Int32} {x r : Int32} (h : (6 : Int32) ≤ r) : stepf cap Br St x r = 0 := if_neg (fun z => by rw [i32_le, show (6 : Int32).toInt = 6 by decide] at h; omega)
theorem six_facts {x r : Int32} (hx0 : ¬ x < 0) (hx : x.toInt < 1000) (hr0 : ¬ r < 0) (hr : ¬ (6 : Int32) ≤ r) : (x * 6 + r).toInt = x.toInt * 6 + r.toInt ∧ 0 ≤ x.toInt ∧ 0 ≤ r.toInt ∧ r.toInt < 6 := by
  rw [i32_lt, Int32.toInt_zero] at hx0 hr0
  rw [i32_le, show (6 : Int32).toInt = 6 by decide] at hr
  exact ⟨i32_six x r (by omega) hx (by omega) (by omega), by omega, by omega, by omega⟩
theorem stepf_out {cap : Nat} {Br St : Nat → Int32} {x r : Int32} (hcap : cap ≤ 60) (hx0 : ¬ x < 0) (hx : x.toInt < 1000) (hr0 : ¬ r < 0) (hr : ¬ (6 : Int32) ≤ r) (h : ¬ x * 6 + r < nI (6 * cap)) : stepf cap Br St x r = 0 := by
  obtain ⟨e, h1, h2, h3⟩ := six_facts hx0 hx hr0 hr
  refine if_neg (fun z => h ?_)
  rw [i32_lt, nI_toInt (by omega), e]
  omega
theorem six_in {cap : Nat} {x r : Int32} (hcap : cap ≤ 60) (hx0 : ¬ x < 0) (hx : x.toInt < 1000) (hr0 : ¬ r < 0) (hr : ¬ (6 : Int32) ≤ r) (h : x * 6 + r < nI (6 * cap)) : vp_in (x * 6 + r) (6 * cap) := by
  obtain ⟨e, h1, h2, h3⟩ := six_facts hx0 hx hr0 hr
  rw [i32_lt, nI_toInt (by omega)] at h
  exact vp_in_iff.mpr ⟨by omega, by omega⟩
theorem stepf_in {cap : Nat} {Br St : Nat → Int32} {x r : Int32} (hcap : cap ≤ 60) (hx0 : ¬ x < 0) (hx : x.toInt < 1000) (hr0 : ¬ r < 0) (hr : ¬ (6 : Int32) ≤ r) (h : x * 6 + r < nI (6 * cap)) : stepf cap Br St x r = rd cap St 0 (Br (x * 6 + r).toNatClampNeg) := by
  obtain ⟨e, h1, h2, h3⟩ := six_facts hx0 hx hr0 hr
  rw [i32_lt, nI_toInt (by omega)] at h
  have h4 : (x * 6 + r).toNatClampNeg = (x.toInt * 6 + r.toInt).toNat := by rw [← e]; rfl
  rw [stepf, if_pos ⟨h1, h2, h3, by omega⟩, h4]
theorem i32_neL {x v : Int32} {k : Int} (h : ¬ x = v) (hv : v.toInt = k) : x.toInt ≠ k := fun q => h (Int32.toInt_inj.mp (q.trans hv.symm))
def turnK (k : Int32) : Int32 := if k = 1 then 2 else if k = 2 then 1 else if k = 3 then 4 else if k = 4 then 3 else k
theorem nclamp {x : Int32} {k : Nat} (h : x.toInt = (k : Int)) : x.toNatClampNeg = k := by
  show x.toInt.toNat = k; omega
