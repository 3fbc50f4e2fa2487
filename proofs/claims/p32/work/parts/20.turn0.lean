/-! a PROTOCOL and its DUAL: what fits, meets -/
def TurnD (Q T : PT) : Prop := pcap T = pcap Q ∧ (∀ i, i < pcap Q → pS T i = pS Q i ∧ pLb T i = pLb Q i ∧ pDp T i = pDp Q i ∧ pIn T i = pIn Q i ∧ pSt T i = pSt Q i) ∧ (∀ i, i < 6 * pcap Q → pBr T i = pBr Q i) ∧ (∀ i, i < pcap Q → pK T i = if pDp Q i = 0 then turnK (pK Q i) else pK Q i)
theorem rd_cong {n : Nat} {f g : Nat → Int32} {d i : Int32} (h : ∀ j, j < n → f j = g j) : rd n f d i = rd n g d i := by
  unfold rd
  split
  · rename_i q; exact h _ (by show i.toInt.toNat < n; omega)
  · rfl
theorem TurnD.esN {Q T : PT} (h : TurnD Q T) (x : Int32) : sN T x = sN Q x := by
  unfold sN
  rw [h.1, rd_cong (fun j hj => (h.2.1 j hj).2.2.2.2)]
theorem TurnD.einn {Q T : PT} (h : TurnD Q T) (u : Nat) : inn T u = inn Q u := by
  unfold inn
  rw [h.esN, h.1, rd_cong (fun j hj => (h.2.1 j hj).2.2.2.1)]
theorem TurnD.estp {Q T : PT} (h : TurnD Q T) (u r : Nat) : stp T u r = stp Q u r := by
  unfold stp stepf
  rw [h.1]
  split
  · rename_i q
    rw [h.2.2.1 _ (by omega), rd_cong (fun j hj => (h.2.1 j hj).2.2.2.2)]
  · rfl
theorem TurnD.enlab {Q T : PT} (h : TurnD Q T) {u : Nat} (hu : u < pcap Q) : nlab T u = nlab Q u := by
  unfold nlab
  rw [(h.2.1 u hu).2.1]
