/-! a PROTOCOL that is well made, and what it says in whole numbers -/
def wfP (T : PT) : Prop := pcap T ≤ 60 ∧ 0 < pcap T ∧ (∀ i, i < pcap T → ∃ j, j < pcap T ∧ pSt T i = nI j) ∧ (∀ i, i < pcap T → ∃ n, (n = 0 ∨ n = 2 ∨ n = 3) ∧ pLb T i = nI (2 ^ n - 1)) ∧ (∀ i, i < pcap T → pS T i = 40 → pK T i = 1 ∨ pK T i = 2) ∧ (∀ i, i < pcap T → (pK T i = 3 ∨ pK T i = 4 → pLb T i = 3 ∨ pLb T i = 7) ∧ (¬ (pK T i = 3 ∨ pK T i = 4) → pLb T i = 0))
def sN (T : PT) (x : Int32) : Nat := (rd (pcap T) (pSt T) 0 x).toInt.toNat
def inn (T : PT) (u : Nat) : Nat := sN T (rd (pcap T) (pIn T) (-1) (nI u))
def stp (T : PT) (u r : Nat) : Nat := (stepf (pcap T) (pBr T) (pSt T) (nI u) (nI r)).toInt.toNat
def nlab (T : PT) (u : Nat) : Nat := if pLb T u = 3 then 2 else if pLb T u = 7 then 3 else 0
theorem sN_eq {T : PT} (hw : wfP T) (x : Int32) : rd (pcap T) (pSt T) 0 x = nI (sN T x) ∧ sN T x < pcap T := by
  obtain ⟨h1, h2, h3, -⟩ := hw
  have key : ∃ j, j < pcap T ∧ rd (pcap T) (pSt T) 0 x = nI j := by
    unfold rd
    by_cases h : 0 ≤ x.toInt ∧ x.toInt < pcap T
    · rw [if_pos h]
      exact h3 _ (by show x.toInt.toNat < _; omega)
    · rw [if_neg h]
      exact ⟨0, h2, rfl⟩
  obtain ⟨j, hj, e⟩ := key
  have e2 : sN T x = j := by rw [sN, e, nI_toInt (by omega)]; omega
  exact ⟨by rw [e2, e], by omega⟩
theorem stp_eq {T : PT} (hw : wfP T) (u r : Nat) : stepf (pcap T) (pBr T) (pSt T) (nI u) (nI r) = nI (stp T u r) ∧ stp T u r < pcap T := by
  have key : ∃ j, j < pcap T ∧ stepf (pcap T) (pBr T) (pSt T) (nI u) (nI r) = nI j := by
    unfold stepf
    split
    · obtain ⟨a, b⟩ := sN_eq hw (pBr T ((nI u).toInt * 6 + (nI r).toInt).toNat)
      exact ⟨_, b, a⟩
    · exact ⟨0, hw.2.1, rfl⟩
  obtain ⟨j, hj, e⟩ := key
  have e2 : stp T u r = j := by rw [stp, e, nI_toInt (by have := hw.1; omega)]; omega
  exact ⟨by rw [e2, e], by omega⟩
theorem nlab_eq {T : PT} (hw : wfP T) {u : Nat} (hu : u < pcap T) : pLb T u = nI (2 ^ nlab T u - 1) ∧ nlab T u ≤ 3 := by
  obtain ⟨n, h, e⟩ := hw.2.2.2.1 u hu
  rcases h with rfl | rfl | rfl <;> (rw [nlab, e]; decide)
theorem lab_bit : ∀ n, n ≤ 3 → ∀ l, l < 26 → ((nI (2 ^ n - 1)) >>> ((nI l) &&& 31)) &&& 1 = if l < n then 1 else 0 := by decide +kernel
theorem lab_fit : ∀ n, n ≤ 3 → ∀ k, k ≤ 3 → (((nI (2 ^ n - 1)) &&& ((nI (2 ^ k - 1)) ^^^ (-1)) = 0) ↔ n ≤ k) := by decide +kernel
/-- the codes of pairs-/
def cod (s u v : Nat) : Nat := 3600 * s + 60 * u + v
def okp (F G : PT) (u v : Nat) : Prop := pK F u = pK G v ∧ pS F u = pS G v ∧ (pK F u = 0 ∨ pK F u = 1 ∨ pK F u = 2 ∨ if pK F u = 3 then nlab F u ≤ nlab G v else nlab G v ≤ nlab F u)
def sucL (F G : PT) (s u v : Nat) : List Nat := if pK F u = 0 then [] else (if pS F u = 40 then [if pK F u = 1 then cod (1 - s) (inn G v) (inn F u) else cod s (inn F u) (inn G v)] else []) ++ (if pK F u = 1 ∨ pK F u = 2 then [cod s (stp F u 0) (stp G v 0)] else (List.range (min (nlab F u) (nlab G v))).map (fun j => cod s (stp F u j) (stp G v j)))
def lext (l cs : List Nat) : List Nat := cs.foldl ladd l
theorem lext_app (l a b : List Nat) : lext l (a ++ b) = lext (lext l a) b := List.foldl_append ..
theorem lext_one (l : List Nat) (c : Nat) : lext l [c] = ladd l c := rfl
theorem lext_nil (l : List Nat) : lext l [] = l := rfl
theorem lext_range (l : List Nat) (f : Nat → Nat) (n : Nat) : lext l ((List.range (n + 1)).map f) = ladd (lext l ((List.range n).map f)) (f n) := by
  rw [List.range_succ, List.map_append, lext_app]; rfl
theorem mem_ladd {l : List Nat} {c x : Nat} : x ∈ ladd l c ↔ x ∈ l ∨ x = c := by
  unfold ladd
  split
  · rename_i h; constructor
    · exact Or.inl
    · rintro (q | rfl); exact q; exact h
  · simp
theorem mem_lext {l cs : List Nat} {x : Nat} : x ∈ lext l cs ↔ x ∈ l ∨ x ∈ cs := by
  induction cs generalizing l with
  | nil => simp [lext]
  | cons a t ih =>
    show x ∈ lext (ladd l a) t ↔ _
    rw [ih, mem_ladd, List.mem_cons, or_assoc]
theorem pre_ladd (l : List Nat) (c : Nat) : l <+: ladd l c := by
  unfold ladd; split; exact List.prefix_refl _; exact List.prefix_append ..
theorem pre_lext (l cs : List Nat) : l <+: lext l cs := by
  induction cs generalizing l with
  | nil => exact List.prefix_refl _
  | cons a t ih => exact (pre_ladd l a).trans (ih (ladd l a))
