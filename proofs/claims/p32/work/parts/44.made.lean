/-! a PROTOCOL whose rows are well: wfP, wfD, where its steps lead -/
def TabOK (F : PT) : Prop := pcap F ≤ 60 ∧ 0 < pcap F ∧ (∀ i, i < pcap F → RowOK F (pcap F) i) ∧ ∀ i, i < pcap F → pSt F i = nI (sgm F i)
theorem TabOK.lt {F : PT} (h : TabOK F) {i : Nat} (hi : i < pcap F) : sgm F i < pcap F := ((h.2.2.1 i hi).chO h.1).lt hi
theorem TabOK.rd_ {F : PT} (h : TabOK F) {j : Nat} (hj : j < pcap F) : rd (pcap F) (pSt F) 0 (nI j) = nI (sgm F j) := by
  rw [rd_nat hj (by have := h.1; omega), h.2.2.2 j hj]
theorem TabOK.sN_ {F : PT} (h : TabOK F) {j : Nat} (hj : j < pcap F) : sN F (nI j) = sgm F j := by
  have h1 := h.lt hj
  have h2 := h.1
  show (_root_.Int32.toInt _).toNat = _
  rw [h.rd_ hj, nI_toInt (by omega)]; omega
theorem TabOK.inn_ {F : PT} (h : TabOK F) {u j : Nat} (hu : u < pcap F) (hj : j < pcap F) (hb : pIn F u = nI j) : inn F u = sgm F j := by
  show sN F (rd (pcap F) (pIn F) (-1) (nI u)) = _
  rw [rd_nat hu (by have := h.1; omega), hb, h.sN_ hj]
theorem TabOK.stp_ {F : PT} (h : TabOK F) {u r j : Nat} (hu : u < pcap F) (hr : r < 6) (hj : j < pcap F) (hb : pBr F (6 * u + r) = nI j) : stp F u r = sgm F j := by
  have h1 := h.lt hj
  have h2 := h.1
  show (stepf (pcap F) (pBr F) (pSt F) (nI u) (nI r)).toInt.toNat = _
  rw [stepf, nI_toInt (n := u) (by omega), nI_toInt (n := r) (by omega), if_pos ⟨by omega, by omega, by omega, by omega⟩, show ((u : Int) * 6 + (r : Int)).toNat = 6 * u + r by omega, hb, h.rd_ hj, nI_toInt (by omega)]
  omega
theorem LoopAt.st {F : PT} {N l : Nat} {dd : Int32} (h : LoopAt F N l dd) : sgm F l = l + 1 ∧ stK (pK F (l + 1)) := by
  refine ⟨by rw [sgm, if_pos h.2.1], ?_⟩
  rcases h.2.2.2.1 with q | q
  · exact Or.inr (Or.inl q)
  · exact Or.inr (Or.inr (Or.inl q))
/-- the STATE of a NODE: its kind, its depth -/
theorem RowOK.st {F : PT} {N i : Nat} (hN : N ≤ 60) (h : RowOK F N i) : stK (pK F (sgm F i)) ∧ pDp F (sgm F i) = pDp F i := by
  have key : ∀ x, (x = (0 : Int32) ∨ x = 1 ∨ x = 2 ∨ x = 3 ∨ x = 4) → pK F i = x → stK (pK F (sgm F i)) ∧ pDp F (sgm F i) = pDp F i := by
    intro x hx hk
    have e : sgm F i = i := by rw [sgm, hk]; rcases hx with rfl | rfl | rfl | rfl | rfl <;> rfl
    rw [e, hk]; exact ⟨hx, rfl⟩
  rcases h with ⟨a, -⟩ | ⟨a, -⟩ | ⟨a, -⟩ | ⟨a, -, -, b⟩ | ⟨a, -, -, l, b1, b2, b3⟩
  · exact key _ (Or.inl rfl) a
  · rcases a with a | a
    · exact key _ (Or.inr (Or.inl rfl)) a
    · exact key _ (Or.inr (Or.inr (Or.inl rfl))) a
  · rcases a with a | a
    · exact key _ (Or.inr (Or.inr (Or.inr (Or.inl rfl)))) a
    · exact key _ (Or.inr (Or.inr (Or.inr (Or.inr rfl)))) a
  · obtain ⟨e, k⟩ := b.st
    rw [e]; exact ⟨k, b.2.2.2.2⟩
  · obtain ⟨e, k⟩ := b3.st
    have e2 : sgm F i = l + 1 := by rw [sgm, a, if_neg (by decide), if_pos rfl, b2, nI_clamp (by omega)]
    rw [e2]; exact ⟨k, b3.2.2.2.2⟩
theorem RowOK.lab {F : PT} {N i : Nat} (h : RowOK F N i) : ∃ n, (n = 0 ∨ n = 2 ∨ n = 3) ∧ pLb F i = nI (2 ^ n - 1) := by
  rcases h with ⟨-, -, a⟩ | ⟨-, a, -⟩ | ⟨-, -, q, hq, a, -⟩ | ⟨-, -, a, -⟩ | ⟨-, -, a, -⟩
  · exact ⟨0, Or.inl rfl, a⟩
  · exact ⟨0, Or.inl rfl, a⟩
  · exact ⟨q, Or.inr hq, a⟩
  · exact ⟨0, Or.inl rfl, a⟩
  · exact ⟨0, Or.inl rfl, a⟩
theorem TabOK.wfP_ {F : PT} (h : TabOK F) : wfP F := by
  refine ⟨h.1, h.2.1, fun i hi => ⟨sgm F i, h.lt hi, h.2.2.2 i hi⟩, fun i hi => (h.2.2.1 i hi).lab, fun i hi hs => ?_, fun i hi => ?_⟩
  · rcases h.2.2.1 i hi with ⟨-, a, -⟩ | ⟨a, -⟩ | ⟨-, a, -⟩ | ⟨-, a, -⟩ | ⟨-, a, -⟩
    · rw [a] at hs; exact absurd hs (by decide)
    · exact a
    · rw [a] at hs; exact absurd hs (by decide)
    · rw [a] at hs; exact absurd hs (by decide)
    · rw [a] at hs; exact absurd hs (by decide)
  · have no : ∀ {x : Int32}, pK F i = x → ¬ (x = 3 ∨ x = 4) → pLb F i = 0 → (pK F i = 3 ∨ pK F i = 4 → pLb F i = 3 ∨ pLb F i = 7) ∧ (¬ (pK F i = 3 ∨ pK F i = 4) → pLb F i = 0) := fun e hx hl => ⟨fun q => absurd (e ▸ q) hx, fun _ => hl⟩
    rcases h.2.2.1 i hi with ⟨k, -, a⟩ | ⟨k | k, a, -⟩ | ⟨k, -, q, hq, a, -⟩ | ⟨k, -, a, -⟩ | ⟨k, -, a, -⟩
    · exact no k (by decide) a
    · exact no k (by decide) a
    · exact no k (by decide) a
    · refine ⟨fun _ => ?_, fun q => absurd k q⟩
      rcases hq with rfl | rfl
      · exact Or.inl a
      · exact Or.inr a
    · exact no k (by decide) a
    · exact no k (by decide) a
theorem nlab_of {F : PT} {u q : Nat} (hq : q = 2 ∨ q = 3) (h : pLb F u = nI (2 ^ q - 1)) : nlab F u = q := by
  rcases hq with rfl | rfl <;> (rw [nlab, h]; decide)
theorem nlab_0 {F : PT} {u : Nat} (h : pLb F u = 0) : nlab F u = 0 := by rw [nlab, h]; decide
theorem TabOK.wfD_ {F : PT} (h : TabOK F) : wfD F := by
  intro u hu
  have st : ∀ {j}, j < pcap F → pDp F j = pDp F u → (pDp F (sgm F j) = 0 ↔ pDp F u = 0) ∧ stK (pK F (sgm F j)) := fun hj e => by
    obtain ⟨a, b⟩ := (h.2.2.1 _ hj).st h.1
    exact ⟨by rw [b, e], a⟩
  have nl : nlab F u = 0 → ∀ j, j < nlab F u → (pDp F (stp F u j) = 0 ↔ pDp F u = 0) ∧ stK (pK F (stp F u j)) := fun e j hj => absurd hj (by omega)
  have ns : ∀ {x : Int32}, pS F u = x → ¬ x = 40 → pS F u = 40 → ¬ pDp F (inn F u) = 0 := fun e hx q => absurd (e ▸ q) hx
  rcases h.2.2.1 u hu with ⟨k, s, a⟩ | ⟨k, a, ⟨j, hj, b1, b2⟩, c⟩ | ⟨k, s, q, hq, a, b⟩ | ⟨k, s, a, -⟩ | ⟨k, s, a, -⟩
  · exact ⟨fun q => absurd q (by rw [k]; decide), nl (nlab_0 a), ns s (by decide)⟩
  · refine ⟨fun _ => ?_, nl (nlab_0 a), fun hs => ?_⟩
    · rw [h.stp_ hu (by omega) hj b1]; exact st hj b2
    · rcases c with c | c | ⟨-, j2, c2, hj2, hc, b3, b4⟩
      · rw [c] at hs; exact absurd hs (by decide)
      · rw [c] at hs; exact absurd hs (by decide)
      · rw [h.inn_ hu hj2 b3, ((h.2.2.1 j2 hj2).st h.1).2, b4]
        exact nI_ne0 (by omega) (by omega)
  · refine ⟨fun q2 => ?_, fun j hj => ?_, ns s (by decide)⟩
    · rcases k with k | k <;> exact absurd q2 (by rw [k]; decide)
    · rw [nlab_of hq a] at hj
      obtain ⟨i, hi, b1, b2⟩ := b j hj
      rw [h.stp_ hu (by omega) hi b1]; exact st hi b2
  · exact ⟨fun q => absurd q (by rw [k]; decide), nl (nlab_0 a), ns s (by decide)⟩
  · exact ⟨fun q => absurd q (by rw [k]; decide), nl (nlab_0 a), ns s (by decide)⟩
/-- a PROTOCOL made by a made text -/
def MadeP (n : Nat) (w : Bool) (T : Tre) (P : PT) : Prop := pcap P = siz n w T ∧ siz n w T ≤ 60 ∧ n ≤ 4 ∧ okT n 0 T ∧ AtT P n w 0 T 0 0 (fun _ => 0) ∧ ∀ i, i < siz n w T → pSt P i = nI (sgm P i)
theorem MadeP.tab {n : Nat} {w : Bool} {T : Tre} {P : PT} (h : MadeP n w T P) : TabOK P := by
  obtain ⟨h1, h2, h3, h4, h5, h6⟩ := h
  have h7 := siz_pos n w T
  exact ⟨by omega, by omega, fun i hi => rows_ok h5 h4 (by omega) (by omega) (fun j hj => absurd hj (by omega)) i (by omega) (by omega), fun i hi => h6 i (by omega)⟩
theorem RdDone.made {n : Nat} {w : Bool} {T : Tre} {G : RT} {P : PT} (h : RdDone n w T G) (hok : okT n 0 T) (hs : siz n w T ≤ 60) (hn : n ≤ 4) (hc : CopyD (P6 G) P (siz n w T)) : MadeP n w T P := by
  obtain ⟨c1, c2, c3⟩ := hc
  refine ⟨c1, hs, hn, hok, ?_, fun i hi => ?_⟩
  · refine AtT.kept (F := P6 G) (r := 0) (c := siz n w T) ⟨fun i _ hi => ?_, fun i _ hi => c3 i hi⟩ h.1 (Nat.le_refl _) (by omega)
    obtain ⟨a1, a2, a3, a4, a5, a6, a7⟩ := c2 i hi
    exact ⟨a1, a2, a3, a4, a5, a6⟩
  · obtain ⟨a1, a2, a3, a4, a5, a6, a7⟩ := c2 i hi
    rw [a7, h.2 i hi]
    show nI (sgm (P6 G) i) = nI (sgm P i)
    rw [sgm, sgm, a1, c3 (6 * i) (by omega)]
theorem MadeP.beg {n : Nat} {w : Bool} {T : Tre} {P : PT} (h : MadeP n w T P) : sN P 0 = sgm P 0 ∧ sgm P 0 < pcap P ∧ pDp P (sgm P 0) = 0 ∧ stK (pK P (sgm P 0)) := by
  have ht := h.tab
  obtain ⟨a, b⟩ := (ht.2.2.1 0 ht.2.1).st ht.1
  exact ⟨ht.sN_ ht.2.1, ht.lt ht.2.1, b.trans h.2.2.2.2.1.dp, a⟩
