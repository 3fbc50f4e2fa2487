/-! bits of longs, rows of pairs that are seen once -/
def lbit (w : Int64) (v : Nat) : Prop := w.toBitVec.getLsbD v = true
theorem lb_c : ∀ k, k < 64 → ((nI k).toInt64 &&& 63) = Int64.ofNat k := by decide +kernel
theorem lb_sm : ∀ k, k < 64 → ((Int64.ofNat k).toBitVec.smod 64).toNat = k := by decide +kernel
theorem lb_one (x : BitVec 64) : x &&& 1#64 = 0#64 ↔ x.getLsbD 0 = false := by
  constructor
  · intro h
    have h2 := congrArg (fun y => y.getLsbD 0) h
    simpa using h2
  · intro h
    apply BitVec.eq_of_getLsbD_eq
    intro i hi
    rw [BitVec.getLsbD_and, BitVec.getLsbD_one, BitVec.getLsbD_zero]
    by_cases h0 : i = 0
    · subst h0; rw [h, Bool.false_and]
    · simp [h0]
theorem lb_test {w : Int64} {v : Nat} (hv : v < 60) : (w >>> ((nI v).toInt64 &&& 63)) &&& 1 = 0 ↔ ¬ lbit w v := by
  rw [lb_c v (by omega), ← Int64.toBitVec_inj, Int64.toBitVec_and, Int64.toBitVec_shiftRight]
  show _ &&& 1#64 = 0#64 ↔ _
  rw [lb_one, BitVec.sshiftRight', lb_sm v (by omega), BitVec.getLsbD_sshiftRight]
  simp [lbit]
  omega
theorem lb_set {w : Int64} {v u : Nat} (hv : v < 60) (hu : u < 60) : lbit (w ||| ((1 : Int64) <<< ((nI v).toInt64 &&& 63))) u ↔ lbit w u ∨ u = v := by
  rw [lb_c v (by omega), lbit, Int64.toBitVec_or, BitVec.getLsbD_or, Int64.toBitVec_shiftLeft, BitVec.shiftLeft_eq', lb_sm v (by omega), BitVec.getLsbD_shiftLeft]
  show (w.toBitVec.getLsbD u || (_ && (1#64).getLsbD (u - v))) = true ↔ _
  rw [BitVec.getLsbD_one, Bool.or_eq_true]
  constructor
  · rintro (h | h)
    · exact Or.inl h
    · right; simp at h; omega
  · rintro (h | h)
    · exact Or.inl h
    · right; subst h; simp; omega
theorem lb_zero (v : Nat) : ¬ lbit 0 v := by
  rw [lbit]
  show ¬ (0#64).getLsbD v = true
  simp
theorem lg_ne0 (x : Int64) : lg_cmp x 0 = 0 ↔ x = 0 := by
  unfold lg_cmp
  by_cases h : x = 0
  · subst h; simp
  · by_cases h2 : (0 : Int64) < x
    · simp [h2, h]
    · simp [h2, h]
/-- what comes to a row of things that stand there once -/
def ladd (l : List Nat) (c : Nat) : List Nat := if c ∈ l then l else l ++ [c]
theorem nodup_len : ∀ (n : Nat) (l : List Nat), l.Nodup → (∀ c ∈ l, c < n) → l.length ≤ n
  | 0, l, _, h => by
    cases l with
    | nil => simp
    | cons a t => exact absurd (h a List.mem_cons_self) (by omega)
  | n + 1, l, hl, h => by
    have h1 := nodup_len n (l.filter (fun x => x != n)) (hl.filter _) (fun c hc => by
      have := List.mem_filter.mp hc
      have h2 := h c this.1
      have h3 : c ≠ n := by simpa using this.2
      omega)
    have h2 : l.length ≤ (l.filter (fun x => x != n)).length + 1 := by
      clear h1 h
      induction l with
      | nil => simp
      | cons a t ih =>
        have ht := List.nodup_cons.mp hl
        by_cases ha : a = n
        · subst ha
          have : t.filter (fun x => x != a) = t := List.filter_eq_self.mpr (fun x hx => by
            have : x ≠ a := fun q => ht.1 (q ▸ hx)
            simpa using this)
          simp [List.filter_cons, this]
        · have := ih ht.2
          simp [List.filter_cons, ha]
          omega
    omega
theorem nodup_room {n : Nat} {l : List Nat} {c : Nat} (hl : l.Nodup) (h : ∀ x ∈ l, x < n) (hc : c < n) (hn : c ∉ l) : l.length < n := by
  have h2 := nodup_len n (c :: l) (List.nodup_cons.mpr ⟨hn, hl⟩) (fun x hx => by
    rcases List.mem_cons.mp hx with rfl | hx
    · exact hc
    · exact h x hx)
  simp at h2
  omega
