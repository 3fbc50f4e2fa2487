theorem nI_mask (x : Nat) : nI x &&& 16777215 = nI (x % 16777216) ∧ nI x &&& 1 = nI (x % 2) ∧ nI x &&& 3 = nI (x % 4) := by
  have key : ∀ k : Nat, k ≤ 31 → nI x &&& nI (2 ^ k - 1) = nI (x % 2 ^ k) := by
    intro k hk
    apply Int32.toBitVec_inj.mp
    apply BitVec.eq_of_toNat_eq
    have h31 : 2 ^ k ≤ 2 ^ 31 := Nat.pow_le_pow_right (by decide) hk
    have h0 : 0 < 2 ^ k := Nat.pow_pos (by decide)
    show (BitVec.ofNat 32 x &&& BitVec.ofNat 32 (2 ^ k - 1)).toNat = (BitVec.ofNat 32 (x % 2 ^ k)).toNat
    rw [BitVec.toNat_and, BitVec.toNat_ofNat, BitVec.toNat_ofNat, BitVec.toNat_ofNat, Nat.mod_eq_of_lt (show 2 ^ k - 1 < 2 ^ 32 by omega), Nat.and_two_pow_sub_one_eq_mod, Nat.mod_eq_of_lt (show x % 2 ^ k < 2 ^ 32 by have := Nat.mod_lt x h0; omega)]
    rw [Nat.mod_mod_of_dvd _ (Nat.pow_dvd_pow 2 (by omega))]
  exact ⟨key 24 (by decide), key 1 (by decide), key 2 (by decide)⟩
theorem nI_quo {v d : Nat} (hv : v < 2 ^ 31) (hd : d < 2 ^ 31) : nI v / nI d = nI (v / d) := by
  have hl : v / d ≤ v := Nat.div_le_self _ _
  apply Int32.toInt_inj.mp
  rw [Int32.toInt_div, nI_toInt hv, nI_toInt hd, nI_toInt (Nat.lt_of_le_of_lt hl hv), Int.tdiv_eq_ediv_of_nonneg (by omega), ← Int.natCast_ediv]
  generalize v / d = u at hl ⊢
  exact Int.bmod_eq_of_le (by omega) (by omega)
theorem nI_mul (a b : Nat) : nI a * nI b = nI (a * b) := (Int32.ofNat_mul a b).symm
theorem nI_rem {v d : Nat} (hv : v < 2 ^ 31) (hd : d < 2 ^ 31) : nI v - (nI v / nI d) * nI d = nI (v % d) := by
  rw [nI_quo hv hd, nI_mul, nI_sub (Nat.div_mul_le_self v d)]
  congr 1
  have := Nat.div_add_mod v d
  rw [Nat.mul_comm] at this
  omega
theorem nI_shr {v : Nat} (hv : v < 2 ^ 31) : nI v >>> ((4 : Int32) &&& 31) = nI (v / 16) ∧ nI v >>> ((1 : Int32) &&& 31) = nI (v / 2) := by
  have key : ∀ (y : Int32) (k : Nat), y.toBitVec.smod 32 = BitVec.ofNat 32 k → k < 32 → nI v >>> y = nI (v / 2 ^ k) := by
    intro y k hy hk
    have hl : v / 2 ^ k ≤ v := Nat.div_le_self _ _
    apply Int32.toInt_inj.mp
    show (nI v >>> y).toBitVec.toInt = _
    rw [Int32.toBitVec_shiftRight, hy]
    show (BitVec.sshiftRight (nI v).toBitVec (BitVec.ofNat 32 k).toNat).toInt = _
    rw [BitVec.toInt_sshiftRight, BitVec.toNat_ofNat, Nat.mod_eq_of_lt (by omega)]
    show (nI v).toInt >>> k = _
    rw [nI_toInt hv, nI_toInt (Nat.lt_of_le_of_lt hl hv), Int.shiftRight_eq_div_pow]
    rfl
  exact ⟨key _ 4 (by decide) (by decide), key _ 1 (by decide) (by decide)⟩
/-- the tree's nodes -/
def tN (x : Nat × Nat) (t0 t1 t2 : Tre) : Tre := fun l => match l with
  | [] => x
  | 0 :: r => t0 r
  | 1 :: r => t1 r
  | _ :: r => t2 r
def mkS (cn : Nat → Nat) (n : Nat) (A : Nat → Nat → Tre × Nat) (Bm : Nat → Tre × Nat) (k a : Nat) : Tre × Nat :=
  let v := cn a
  if v % 9 = 0 then (tN (0, 0) tEnd tEnd tEnd, a + 1)
  else if v % 9 = 1 ∨ v % 9 = 2 ∨ v % 9 = 3 ∨ v % 9 = 4 then
    let c := if v % 9 = 1 ∨ v % 9 = 2 then 0 else 1
    if (v / 16) % 4 = 0 then (tN (2 + c, 98) (A k (a + 1)).1 tEnd tEnd, (A k (a + 1)).2)
    else if (v / 16) % 4 < 3 ∨ n = 0 then (tN (2 + c, 105) (A k (a + 1)).1 tEnd tEnd, (A k (a + 1)).2)
    else (tN (4 + c, 0) (A k (Bm (a + 1)).2).1 tEnd (Bm (a + 1)).1, (A k (Bm (a + 1)).2).2)
  else if v % 9 = 5 then (tN (6, 0) (A k (a + 1)).1 (A k (A k (a + 1)).2).1 tEnd, (A k (A k (a + 1)).2).2)
  else if v % 9 = 6 then (tN (7, 0) (A k (a + 1)).1 (A k (A k (a + 1)).2).1 tEnd, (A k (A k (a + 1)).2).2)
  else if v % 9 = 7 then (tN (8, (v / 16) % 2) (A (k + 1) (a + 1)).1 tEnd tEnd, (A (k + 1) (a + 1)).2)
  else if 0 < k then (tN (1, (v / 16) % k) tEnd tEnd tEnd, a + 1)
  else (tN (2, 105) tEnd tEnd tEnd, a + 1)
def mkT (cn : Nat → Nat) : Nat → Nat → Nat → Tre × Nat
  | 0, k, a => (if 0 < k ∧ cn a % 2 = 1 then (tN (1, (cn a / 2) % k) tEnd tEnd tEnd, a + 1) else (tN (0, 0) tEnd tEnd tEnd, a + 1))
  | n + 1, k, a => mkS cn n (fun k a => mkT cn n k a) (match n with | 0 => fun a => (tEnd, a) | m + 1 => fun a => mkT cn m 0 a) k a
theorem mk_S (cn : Nat → Nat) (n k a : Nat) : mkT cn (n + 1) k a = mkS cn n (mkT cn n) (match n with | 0 => fun a => (tEnd, a) | m + 1 => fun a => mkT cn m 0 a) k a := by
  cases n <;> rfl
def SZ : Nat → Nat
  | 0 => 1
  | n + 1 => 2 + 2 * SZ n

def tlf (x : Nat × Nat) : Tre := tN x tEnd tEnd tEnd
theorem okT_lf {fu k : Nat} {x : Nat × Nat} (hk : k ≤ 4) (h : x.1 = 0 ∨ (x.1 = 1 ∧ x.2 < k)) : okT fu k (tN x tEnd tEnd tEnd) ∧ ∀ w, siz fu w (tN x tEnd tEnd tEnd) = 1 := by
  obtain ⟨c9, y⟩ := x
  cases fu with
  | zero =>
    refine ⟨⟨hk, fun h1 => ?_⟩, fun w => rfl⟩
    rcases h with h | h
    · exact absurd (h1.symm.trans h) (by decide)
    · exact h.2
  | succ n =>
    dsimp only at h
    rcases h with rfl | ⟨rfl, h⟩
    · exact ⟨⟨hk, fun h1 => (by dsimp only [tN] at h1; omega), fun h1 => (by dsimp only [tN] at h1; omega), fun h1 => (by dsimp only [tN] at h1; omega), fun h1 => (by dsimp only [tN] at h1; omega), fun h1 => (by dsimp only [tN] at h1; omega), fun h1 => (by dsimp only [tN] at h1; omega)⟩, fun w => rfl⟩
    · exact ⟨⟨hk, fun _ => h, fun h1 => (by dsimp only [tN] at h1; omega), fun h1 => (by dsimp only [tN] at h1; omega), fun h1 => (by dsimp only [tN] at h1; omega), fun h1 => (by dsimp only [tN] at h1; omega), fun h1 => (by dsimp only [tN] at h1; omega)⟩, fun w => rfl⟩
theorem okT_End (fu k : Nat) (hk : k ≤ 4) : okT fu k tEnd ∧ ∀ w, siz fu w tEnd = 1 := by
  cases fu with
  | zero => exact ⟨⟨hk, fun h1 => (by dsimp only [tEnd] at h1; omega)⟩, fun w => rfl⟩
  | succ n => exact ⟨⟨hk, fun h1 => (by dsimp only [tEnd] at h1; omega), fun h1 => (by dsimp only [tEnd] at h1; omega), fun h1 => (by dsimp only [tEnd] at h1; omega), fun h1 => (by dsimp only [tEnd] at h1; omega), fun h1 => (by dsimp only [tEnd] at h1; omega), fun h1 => (by dsimp only [tEnd] at h1; omega)⟩, fun w => rfl⟩
theorem okT_23 {fu k c9 y : Nat} {T : Tre} {N : Nat} (hc : c9 = 2 ∨ c9 = 3) (hy : y = 105 ∨ y = 98) (hk : k ≤ 4) (h : okT fu k T ∧ ∀ w, siz fu w T ≤ N) : okT (fu + 1) k (tN (c9, y) T tEnd tEnd) ∧ ∀ w, siz (fu + 1) w (tN (c9, y) T tEnd tEnd) ≤ N + 1 := by
  rcases hc with rfl | rfl
  · exact ⟨⟨hk, fun h1 => (by dsimp only [tN] at h1; omega), fun _ => hy, fun _ => h.1, fun h1 => (by dsimp only [tN] at h1; omega), fun h1 => (by dsimp only [tN] at h1; omega), fun h1 => (by dsimp only [tN] at h1; omega)⟩, fun w => by have := h.2 w; show 1 + siz fu w T ≤ _; omega⟩
  · exact ⟨⟨hk, fun h1 => (by dsimp only [tN] at h1; omega), fun _ => hy, fun _ => h.1, fun h1 => (by dsimp only [tN] at h1; omega), fun h1 => (by dsimp only [tN] at h1; omega), fun h1 => (by dsimp only [tN] at h1; omega)⟩, fun w => by have := h.2 w; show 1 + siz fu w T ≤ _; omega⟩
theorem okT_45 {fu k c9 y : Nat} {T U : Tre} {N M : Nat} (hc : c9 = 4 ∨ c9 = 5) (hk : k ≤ 4) (h : okT fu k T ∧ ∀ w, siz fu w T ≤ N) (hu : okT fu 0 U ∧ ∀ w, siz fu w U ≤ M) : okT (fu + 1) k (tN (c9, y) T tEnd U) ∧ ∀ w, siz (fu + 1) w (tN (c9, y) T tEnd U) ≤ N + M + 1 := by
  rcases hc with rfl | rfl
  · exact ⟨⟨hk, fun h1 => (by dsimp only [tN] at h1; omega), fun h1 => (by dsimp only [tN] at h1; omega), fun _ => h.1, fun h1 => (by dsimp only [tN] at h1; omega), fun _ => hu.1, fun h1 => (by dsimp only [tN] at h1; omega)⟩, fun w => by have := h.2 w; have := hu.2 (!w); show 1 + siz fu (!w) U + siz fu w T ≤ _; omega⟩
  · exact ⟨⟨hk, fun h1 => (by dsimp only [tN] at h1; omega), fun h1 => (by dsimp only [tN] at h1; omega), fun _ => h.1, fun h1 => (by dsimp only [tN] at h1; omega), fun _ => hu.1, fun h1 => (by dsimp only [tN] at h1; omega)⟩, fun w => by have := h.2 w; have := hu.2 w; show 1 + siz fu w U + siz fu w T ≤ _; omega⟩
theorem okT_67 {fu k c9 y : Nat} {T U : Tre} {N : Nat} (hc : c9 = 6 ∨ c9 = 7) (hk : k ≤ 4) (h : okT fu k T ∧ ∀ w, siz fu w T ≤ N) (hu : okT fu k U ∧ ∀ w, siz fu w U ≤ N) : okT (fu + 1) k (tN (c9, y) T U tEnd) ∧ ∀ w, siz (fu + 1) w (tN (c9, y) T U tEnd) ≤ 2 + 2 * N := by
  rcases hc with rfl | rfl
  · exact ⟨⟨hk, fun h1 => (by dsimp only [tN] at h1; omega), fun h1 => (by dsimp only [tN] at h1; omega), fun _ => h.1, fun _ => hu.1, fun h1 => (by dsimp only [tN] at h1; omega), fun h1 => (by dsimp only [tN] at h1; omega)⟩, fun w => by have := h.2 w; have := hu.2 w; show 1 + siz fu w T + siz fu w U + (if w then 1 else 0) ≤ _; cases w <;> simp <;> omega⟩
  · exact ⟨⟨hk, fun h1 => (by dsimp only [tN] at h1; omega), fun h1 => (by dsimp only [tN] at h1; omega), fun _ => h.1, fun _ => hu.1, fun h1 => (by dsimp only [tN] at h1; omega), fun h1 => (by dsimp only [tN] at h1; omega)⟩, fun w => by have := h.2 w; have := hu.2 w; show 1 + siz fu w T + siz fu w U + (if w then 0 else 1) ≤ _; cases w <;> simp <;> omega⟩
theorem okT_8 {fu k y : Nat} {T : Tre} {N : Nat} (hk : k < 4) (h : okT fu (k + 1) T ∧ ∀ w, siz fu w T ≤ N) : okT (fu + 1) k (tN (8, y) T tEnd tEnd) ∧ ∀ w, siz (fu + 1) w (tN (8, y) T tEnd tEnd) ≤ N + 2 := by
  exact ⟨⟨by omega, fun h1 => (by dsimp only [tN] at h1; omega), fun h1 => (by dsimp only [tN] at h1; omega), fun h1 => (by dsimp only [tN] at h1; omega), fun h1 => (by dsimp only [tN] at h1; omega), fun h1 => (by dsimp only [tN] at h1; omega), fun _ => ⟨hk, h.1⟩⟩, fun w => by have := h.2 w; show 2 + siz fu w T ≤ _; omega⟩
theorem SZ_pos : ∀ n, 1 ≤ SZ n
  | 0 => Nat.le_refl 1
  | n + 1 => by show 1 ≤ 2 + 2 * SZ n; omega
theorem SZ_le : ∀ n, SZ n ≤ SZ (n + 1) := fun n => by show SZ n ≤ 2 + 2 * SZ n; omega
theorem mk_ok (cn : Nat → Nat) : ∀ (n fu k a : Nat), n ≤ fu → k + n ≤ 4 → okT fu k (mkT cn n k a).1 ∧ ∀ w, siz fu w (mkT cn n k a).1 ≤ SZ n := by
  intro n
  induction n using Nat.strongRecOn with
  | ind n ih =>
  intro fu k a hf hk
  cases n with
  | zero =>
    unfold mkT
    split
    · rename_i h
      have := okT_lf (fu := fu) (k := k) (x := (1, cn a / 2 % k)) (by omega) (Or.inr ⟨rfl, Nat.mod_lt _ h.1⟩)
      exact ⟨this.1, fun w => Nat.le_of_eq (this.2 w)⟩
    · have := okT_lf (fu := fu) (k := k) (x := (0, 0)) (by omega) (Or.inl rfl)
      exact ⟨this.1, fun w => Nat.le_of_eq (this.2 w)⟩
  | succ n =>
    obtain ⟨fu, rfl⟩ : ∃ g, fu = g + 1 := ⟨fu - 1, by omega⟩
    have p0 := SZ_pos n
    have hA : ∀ k' a', k' + n ≤ 4 → okT fu k' (mkT cn n k' a').1 ∧ ∀ w, siz fu w (mkT cn n k' a').1 ≤ SZ n := fun k' a' h' => ih n (by omega) fu k' a' (by omega) h'
    have hlf : ∀ x : Nat × Nat, (x.1 = 0 ∨ (x.1 = 1 ∧ x.2 < k)) → okT (fu + 1) k (tN x tEnd tEnd tEnd) ∧ ∀ w, siz (fu + 1) w (tN x tEnd tEnd tEnd) ≤ SZ (n + 1) := fun x hx => by
      have := okT_lf (fu := fu + 1) (k := k) (x := x) (by omega) hx
      exact ⟨this.1, fun w => by rw [this.2 w]; exact SZ_pos _⟩
    rw [mk_S]
    unfold mkS
    dsimp only
    split
    · exact hlf _ (Or.inl rfl)
    split
    · have hc : ∀ b : Nat, 2 + (if cn a % 9 = 1 ∨ cn a % 9 = 2 then 0 else 1) = 2 ∨ 2 + (if cn a % 9 = 1 ∨ cn a % 9 = 2 then 0 else 1) = 3 := fun _ => by split <;> simp
      have hc4 : 4 + (if cn a % 9 = 1 ∨ cn a % 9 = 2 then 0 else 1) = 4 ∨ 4 + (if cn a % 9 = 1 ∨ cn a % 9 = 2 then 0 else 1) = 5 := by split <;> simp
      split
      · have := okT_23 (y := 98) (hc 0) (Or.inr rfl) (by omega) (hA k (a + 1) (by omega))
        exact ⟨this.1, fun w => Nat.le_trans (this.2 w) (by show _ ≤ 2 + 2 * SZ n; omega)⟩
      split
      · have := okT_23 (y := 105) (hc 0) (Or.inl rfl) (by omega) (hA k (a + 1) (by omega))
        exact ⟨this.1, fun w => Nat.le_trans (this.2 w) (by show _ ≤ 2 + 2 * SZ n; omega)⟩
      · rename_i h9
        cases n with
        | zero => exact absurd (Or.inr rfl) h9
        | succ m =>
          have hB := ih m (by omega) fu 0 (a + 1) (by omega) (by omega)
          have hS := SZ_le m
          have hS2 : SZ (m + 1) = 2 + 2 * SZ m := rfl
          have := okT_45 (y := 0) hc4 (by omega) (hA k (mkT cn m 0 (a + 1)).2 (by omega)) hB
          exact ⟨this.1, fun w => Nat.le_trans (this.2 w) (by show _ ≤ 2 + 2 * SZ (m + 1); omega)⟩
    split
    · exact okT_67 (Or.inl rfl) (by omega) (hA _ _ (by omega)) (hA _ _ (by omega))
    split
    · exact okT_67 (Or.inr rfl) (by omega) (hA _ _ (by omega)) (hA _ _ (by omega))
    split
    · have := okT_8 (y := cn a / 16 % 2) (by omega) (hA (k + 1) (a + 1) (by omega))
      exact ⟨this.1, fun w => Nat.le_trans (this.2 w) (by show _ ≤ 2 + 2 * SZ n; omega)⟩
    split
    · rename_i h
      exact hlf _ (Or.inr ⟨rfl, Nat.mod_lt _ h⟩)
    · have := okT_23 (c9 := 2) (y := 105) (k := k) (Or.inl rfl) (Or.inl rfl) (by omega) (show okT fu k tEnd ∧ ∀ w, siz fu w tEnd ≤ 1 from ⟨(okT_End fu k (by omega)).1, fun w => Nat.le_of_eq ((okT_End fu k (by omega)).2 w)⟩)
      exact ⟨this.1, fun w => Nat.le_trans (this.2 w) (by show _ ≤ 2 + 2 * SZ n; omega)⟩
